/-! ===== re1 ===== -/

/-- a byte with its sign -/
def sg (v : Int) : Int := if 128 ≤ v ∧ v ≤ 255 then v - 256 else v
theorem sg_i (v : Int) : (¬ (128 ≤ v ∧ v ≤ 255) ∧ sg v = v) ∨ (128 ≤ v ∧ v ≤ 255 ∧ sg v = v - 256) := by
  unfold sg; split
  · exact Or.inr ⟨by omega, by omega, rfl⟩
  · exact Or.inl ⟨by omega, rfl⟩
/-- a name clause ahead of its semicolon -/
def NmP (t : Nat → Int) (n a f p b v1 v2 : Int) (wd : Nat → Int) : Prop := ∃ s e : Int, Sk t n a s ∧ Rn t n 97 122 s e ∧ ((e = s ∧ f = 1 ∧ p = s) ∨ (8 < e - s ∧ f = 4 ∧ p = s) ∨ ((s < e ∧ e - s ≤ 8) ∧ (∀ j : Nat, j < 8 → ((j : Int) < e - s → wd j = t (s.toNat + j)) ∧ (e - s ≤ (j : Int) → wd j = 0)) ∧ ∃ f1 p1 b1 : Int, Num t n 0 9999 e f1 p1 v1 b1 ∧ ((f1 ≠ 0 ∧ f = f1 ∧ p = p1) ∨ (f1 = 0 ∧ ∃ s2 e2 : Int, Sk t n b1 s2 ∧ Rn t n 97 122 s2 e2 ∧ ((¬ w_to t s2 e2 ∧ f = 1 ∧ p = s2) ∨ (w_to t s2 e2 ∧ ∃ f2 p2 b2 : Int, Num t n (v1 + 1) 9999 e2 f2 p2 v2 b2 ∧ ((f2 ≠ 0 ∧ f = f2 ∧ p = p2) ∨ (f2 = 0 ∧ f = 0 ∧ b = b2))))))))
theorem NmP_bad {t : Nat → Int} {n a f p b v1 v2 b' kd : Int} {wd : Nat → Int} (hf : f ≠ 0) (h : NmP t n a f p b v1 v2 wd) : NamR t n a f p b' kd v1 v2 wd := by
  obtain ⟨s, e, h1, h2, h3⟩ := h
  refine ⟨s, e, h1, h2, ?_⟩
  rcases h3 with h3 | h3 | ⟨a1, a2, f1, p1, b1, hn, h3⟩
  · exact Or.inl h3
  · exact Or.inr (Or.inl h3)
  · refine Or.inr (Or.inr ⟨a1, a2, f1, p1, b1, hn, ?_⟩)
    rcases h3 with h3 | ⟨a3, s2, e2, g1, g2, h3⟩
    · exact Or.inl h3
    · refine Or.inr ⟨a3, s2, e2, g1, g2, ?_⟩
      rcases h3 with h3 | ⟨a4, f2, p2, b2, hm, h3⟩
      · exact Or.inl h3
      · refine Or.inr ⟨a4, f2, p2, b2, hm, ?_⟩
        rcases h3 with h3 | ⟨-, h3, -⟩
        · exact Or.inl h3
        · exact absurd h3 hf
theorem NmP_ok {t : Nat → Int} {n a p b v1 v2 f' p' b' kd : Int} {wd : Nat → Int} (h : NmP t n a 0 p b v1 v2 wd) (hk : kd = 6) (hs : StpR t n b f' p' b') : NamR t n a f' p' b' kd v1 v2 wd := by
  obtain ⟨s, e, h1, h2, h3⟩ := h
  refine ⟨s, e, h1, h2, ?_⟩
  rcases h3 with ⟨-, h3, -⟩ | ⟨-, h3, -⟩ | ⟨a1, a2, f1, p1, b1, hn, h3⟩
  · exact absurd h3 (by decide)
  · exact absurd h3 (by decide)
  · refine Or.inr (Or.inr ⟨a1, a2, f1, p1, b1, hn, ?_⟩)
    rcases h3 with ⟨a3, a4, -⟩ | ⟨a3, s2, e2, g1, g2, h3⟩
    · exact absurd a4.symm a3
    · refine Or.inr ⟨a3, s2, e2, g1, g2, ?_⟩
      rcases h3 with ⟨-, h3, -⟩ | ⟨a4, f2, p2, b2, hm, h3⟩
      · exact absurd h3 (by decide)
      · refine Or.inr ⟨a4, f2, p2, b2, hm, ?_⟩
        rcases h3 with ⟨a5, a6, -⟩ | ⟨a5, -, a6⟩
        · exact absurd a6.symm a5
        · rw [a6] at hs; exact Or.inr ⟨a5, hk, hs⟩
set_option maxHeartbeats 4000000 in
set_option maxRecDepth 100000 in
/-- X12_here -/
theorem c_X12_here_r (l : Launch) (dC : Nat → ClassId) (dI : Nat → Nat → Nat) (sz : Nat) (h : Nat) (g : Nat → Nat → Nat) (ca : Nat → Nat → ClassId) (iv : Nat → Nat → Int32) (lv : Nat → Nat → Int64) (fa : Nat → Nat → Nat → Int32) (la : Nat → Nat → Nat → Int64) (hI : IX iv fa) : Met l yX12_here (wc yX12_here cX12_here 1 (some .int)) ({ frames := 0, cells := 0, slots := 0, locals := 0 } : Room) (pW (dC, dI) classes (WM h g ca iv lv fa la) (TM ca) sz [.ref h]) (va_Qi (fun r (u : SS) => ∃ (ni_12_34 : Int32), inb (bI 12 34) ni_12_34 ∧ ((iv 12 34).toInt ≤ (ni_12_34).toInt) ∧ (Sk (fun j => sg ((fa 12 32) j).toInt) (iv 12 33).toInt (iv 12 34).toInt (ni_12_34).toInt) ∧ (((r.toInt = -1 ∧ (iv 12 33).toInt ≤ (ni_12_34).toInt) ∨ ((ni_12_34).toInt < (iv 12 33).toInt ∧ r.toInt = ((fa 12 32) ((ni_12_34).toInt).toNat).toInt))) ∧ (True) ∧ u = ((u2 iv 12 34 ni_12_34), lv, fa, la)) (bM (dC, dI) h g ca (va_A (WM h g ca iv lv fa la) sz)) (va_A (WM h g ca iv lv fa la) sz)) 0 0 (va_A (WM h g ca iv lv fa la) sz) := by
  refine Met.ofW (cc := cX12_here) (maxL := 1) (ret := (some .int)) (by decide) rfl ?_
  intro p e s m args below meth c s₁ B hml hv
  obtain ⟨rfl, hsz, hP, hK, hD0⟩ := hv
  have hx := B.exec
  have hb := B.bytes
  have hr := B.returns
  have ht := tb_tl (atoms_spec (ws := wc yX12_here cX12_here 1 (some .int)) B.pre)
  have hown : s.vm.findClass RX12 = some m.cls := findClass_of_methodNamed B.named
  have hlocks := B.notSynchronized
  subst hsz
  have hD := hD0.self (sz := s.heap.size)
  generalize hAe : va_A (WM h g ca iv lv fa la) s.heap.size = A at hD ⊢
  have hA : ∀ q : Nat, s.heap.size ≤ q → A q := fun q h => by rw [← hAe]; exact Or.inr h
  have hS : va_S A s.heap s.heap [] := va_S.rf
  have hl := lv_entry [.ref h] (n := 1) (Nat.le_of_ble_eq_true rfl)
  rw [lg_entry_eq]
  generalize (lg_sl [.ref h] ++ List.replicate (1 - (lg_sl [.ref h]).length) Slot.unset).toArray = ls at hl ⊢
  have hl : lv_has ls 1 [(0, .ref h)] := hl
  have i_12_33 : 0 ≤ (iv 12 33).toInt ∧ (iv 12 33).toInt ≤ 200 := hI.1 12 33
  have lp20 : ∀ (nn20 : Nat) (w19_i_12_34 : Int32), 0 ≤ w19_i_12_34.toInt ∧ w19_i_12_34.toInt ≤ 200 → (iv 12 34).toInt ≤ (w19_i_12_34 : Int32).toInt → (∀ j : Nat, (iv 12 34).toInt ≤ (j : Int) → (j : Int) < (w19_i_12_34 : Int32).toInt → (j : Int) < ((iv 12 33) : Int32).toInt ∧ sg ((fa 12 32) j).toInt = 32) → 200 - w19_i_12_34.toInt < (nn20 : Int) → ∀ (H : Heap) (locs : List Loc), ∀ (ls : Array Slot), va_P (dC, dI) classes (WM h g ca (u2 iv 12 34 w19_i_12_34) lv fa la) H → va_D A (WM h g ca (u2 iv 12 34 w19_i_12_34) lv fa la) → va_S A s.heap H locs → lv_has ls 1 [(0, .ref h)] → W p l e ({ frames := 0, cells := 0, slots := 0, locals := 0 } : Room) s m ([.ref h] : List Value).toArray below meth c H locs 0 0 (MQ below (va_Qi (fun r (u : SS) => ∃ (ni_12_34 : Int32), inb (bI 12 34) ni_12_34 ∧ ((iv 12 34).toInt ≤ (ni_12_34).toInt) ∧ (Sk (fun j => sg ((fa 12 32) j).toInt) (iv 12 33).toInt (iv 12 34).toInt (ni_12_34).toInt) ∧ (((r.toInt = -1 ∧ (iv 12 33).toInt ≤ (ni_12_34).toInt) ∨ ((ni_12_34).toInt < (iv 12 33).toInt ∧ r.toInt = ((fa 12 32) ((ni_12_34).toInt).toNat).toInt))) ∧ (True) ∧ u = ((u2 iv 12 34 ni_12_34), lv, fa, la)) (bM (dC, dI) h g ca A) A) ([.ref h] : List Value).toArray s 0 0 A) (F0 m 0 ls []) := by
    intro nn20
    induction nn20 with
    | zero => intro w19_i_12_34 hw19_i_12_34 hq20_0 hq20_1 hm20; exfalso; omega
    | succ nn20 ih20 =>
      intro w19_i_12_34 hw19_i_12_34 hq20_0 hq20_1 hm20 H locs ls hP hD hS hl
      refine lv_aload_n hx hb dX12_here_0 rfl (lv_at hl 0 rfl) ?_
      refine gM_12_34 hx hb ht hown hK hP m_1173 (v := w19_i_12_34) rfl dX12_here_1 ?_
      refine lv_aload_n hx hb dX12_here_4 rfl (lv_at hl 0 rfl) ?_
      refine gM_12_33 hx hb ht hown hK hP m_1172 (v := (iv 12 33)) rfl dX12_here_5 ?_
      refine lv_icmp_ge (tgt := 38) hx hb dX12_here_8 (by decide) (fun c21 => ?_) (fun c21 => ?_)
      · have fc21 := z_le (rfl : ((iv 12 33)).toInt = _) (rfl : (w19_i_12_34).toInt = _) c21
        refine lv_aload_n hx hb dX12_here_38 rfl (lv_at hl 0 rfl) ?_
        refine gM_12_34 hx hb ht hown hK hP m_1173 (v := w19_i_12_34) rfl dX12_here_39 ?_
        refine lv_aload_n hx hb dX12_here_42 rfl (lv_at hl 0 rfl) ?_
        refine gM_12_33 hx hb ht hown hK hP m_1172 (v := (iv 12 33)) rfl dX12_here_43 ?_
        refine lv_icmp_ge (tgt := 61) hx hb dX12_here_46 (by decide) (fun c22 => ?_) (fun c22 => ?_)
        · have fc22 := z_le (rfl : ((iv 12 33)).toInt = _) (rfl : (w19_i_12_34).toInt = _) c22
          refine lv_iconst (v := (-1)) hx hb dX12_here_61 (by decide) ?_
          have : ((-1) : Int32).toInt = (-1) := (by decide)
          have hP9 : va_P (dC, dI) classes (WM h g ca (u2 iv 12 34 w19_i_12_34) lv fa la) H := hP
          have hD9 : va_D A (WM h g ca (u2 iv 12 34 w19_i_12_34) lv fa la) := hD
          exact W.iret (v := (-1)) hx hb hr (fun t ht9 hW => ⟨⟨(-1), ((u2 iv 12 34 w19_i_12_34), lv, fa, la), rfl, ⟨w19_i_12_34, (show inb (0, 200) w19_i_12_34 from ⟨by omega, by omega⟩), (show (iv 12 34).toInt ≤ (w19_i_12_34 : Int32).toInt from by omega), (show Sk (fun j => sg ((fa 12 32) j).toInt) ((iv 12 33) : Int32).toInt (iv 12 34).toInt (w19_i_12_34 : Int32).toInt from ⟨by omega, hq20_1, fun q => by omega⟩), (show ((((-1) : Int32).toInt = -1 ∧ ((iv 12 33) : Int32).toInt ≤ (w19_i_12_34 : Int32).toInt) ∨ ((w19_i_12_34 : Int32).toInt < ((iv 12 33) : Int32).toInt ∧ ((-1) : Int32).toInt = ((fa 12 32) ((w19_i_12_34 : Int32).toInt).toNat).toInt)) from Or.inl ⟨by omega, by omega⟩), trivial, rfl⟩, by rw [ht9]; exact hP9, hD9⟩, hS.F ht9⟩) hS.2.2 dX12_here_62
        · have fc22 := z_nle (rfl : ((iv 12 33)).toInt = _) (rfl : (w19_i_12_34).toInt = _) c22
          refine lv_aload_n hx hb dX12_here_49 rfl (lv_at hl 0 rfl) ?_
          refine gM_12_32 hx hb ht hown hK hP m_1171 dX12_here_50 ?_
          refine lv_aload_n hx hb dX12_here_53 rfl (lv_at hl 0 rfl) ?_
          refine gM_12_34 hx hb ht hown hK hP m_1173 (v := w19_i_12_34) rfl dX12_here_54 ?_
          refine lM_12_32 hx hb hK hP (f := (fa 12 32)) rfl (vp_in_iff.mpr ⟨by omega, by omega⟩) dX12_here_57 ?_
          refine lv_topi (fun v23 ev23 => ?_)
          refine lv_goto (tgt := 62) hx hb dX12_here_58 (by decide) ?_
          have hP9 : va_P (dC, dI) classes (WM h g ca (u2 iv 12 34 w19_i_12_34) lv fa la) H := hP
          have hD9 : va_D A (WM h g ca (u2 iv 12 34 w19_i_12_34) lv fa la) := hD
          exact W.iret (v := v23) hx hb hr (fun t ht9 hW => ⟨⟨v23, ((u2 iv 12 34 w19_i_12_34), lv, fa, la), rfl, ⟨w19_i_12_34, (show inb (0, 200) w19_i_12_34 from ⟨by omega, by omega⟩), (show (iv 12 34).toInt ≤ (w19_i_12_34 : Int32).toInt from by omega), (show Sk (fun j => sg ((fa 12 32) j).toInt) ((iv 12 33) : Int32).toInt (iv 12 34).toInt (w19_i_12_34 : Int32).toInt from ⟨by omega, hq20_1, fun q => by have q2 : sg (fa 12 32 ((w19_i_12_34 : Int32).toInt).toNat).toInt = 32 := q.2; have hv9 := congrArg Int32.toInt (show v23 = fa 12 32 ((w19_i_12_34 : Int32).toInt).toNat from ev23); have hv9g := sg_i (v23 : Int32).toInt; rw [hv9] at hv9g; omega⟩), (show (((v23 : Int32).toInt = -1 ∧ ((iv 12 33) : Int32).toInt ≤ (w19_i_12_34 : Int32).toInt) ∨ ((w19_i_12_34 : Int32).toInt < ((iv 12 33) : Int32).toInt ∧ (v23 : Int32).toInt = ((fa 12 32) ((w19_i_12_34 : Int32).toInt).toNat).toInt)) from (by have hv9 := congrArg Int32.toInt (show v23 = fa 12 32 ((w19_i_12_34 : Int32).toInt).toNat from ev23); have hv9g := sg_i (v23 : Int32).toInt; exact Or.inr ⟨by omega, by omega⟩)), trivial, rfl⟩, by rw [ht9]; exact hP9, hD9⟩, hS.F ht9⟩) hS.2.2 dX12_here_62
      · have fc21 := z_nle (rfl : ((iv 12 33)).toInt = _) (rfl : (w19_i_12_34).toInt = _) c21
        refine lv_aload_n hx hb dX12_here_11 rfl (lv_at hl 0 rfl) ?_
        refine gM_12_32 hx hb ht hown hK hP m_1171 dX12_here_12 ?_
        refine lv_aload_n hx hb dX12_here_15 rfl (lv_at hl 0 rfl) ?_
        refine gM_12_34 hx hb ht hown hK hP m_1173 (v := w19_i_12_34) rfl dX12_here_16 ?_
        refine lM_12_32 hx hb hK hP (f := (fa 12 32)) rfl (vp_in_iff.mpr ⟨by omega, by omega⟩) dX12_here_19 ?_
        refine lv_topi (fun v24 ev24 => ?_)
        refine lv_bipush (v := 32) hx hb dX12_here_20 (by decide) ?_
        refine lv_icmp_ne (tgt := 38) hx hb dX12_here_22 (by decide) (fun c25 => ?_) (fun c25 => ?_)
        · have fc25 := z_ne (rfl : (v24).toInt = _) (by decide : (32 : Int32).toInt = 32) c25
          refine lv_aload_n hx hb dX12_here_38 rfl (lv_at hl 0 rfl) ?_
          refine gM_12_34 hx hb ht hown hK hP m_1173 (v := w19_i_12_34) rfl dX12_here_39 ?_
          refine lv_aload_n hx hb dX12_here_42 rfl (lv_at hl 0 rfl) ?_
          refine gM_12_33 hx hb ht hown hK hP m_1172 (v := (iv 12 33)) rfl dX12_here_43 ?_
          refine lv_icmp_ge (tgt := 61) hx hb dX12_here_46 (by decide) (fun c26 => ?_) (fun c26 => ?_)
          · have fc26 := z_le (rfl : ((iv 12 33)).toInt = _) (rfl : (w19_i_12_34).toInt = _) c26
            refine lv_iconst (v := (-1)) hx hb dX12_here_61 (by decide) ?_
            have : ((-1) : Int32).toInt = (-1) := (by decide)
            have hP9 : va_P (dC, dI) classes (WM h g ca (u2 iv 12 34 w19_i_12_34) lv fa la) H := hP
            have hD9 : va_D A (WM h g ca (u2 iv 12 34 w19_i_12_34) lv fa la) := hD
            exact W.iret (v := (-1)) hx hb hr (fun t ht9 hW => ⟨⟨(-1), ((u2 iv 12 34 w19_i_12_34), lv, fa, la), rfl, ⟨w19_i_12_34, (show inb (0, 200) w19_i_12_34 from ⟨by omega, by omega⟩), (show (iv 12 34).toInt ≤ (w19_i_12_34 : Int32).toInt from by omega), (show Sk (fun j => sg ((fa 12 32) j).toInt) ((iv 12 33) : Int32).toInt (iv 12 34).toInt (w19_i_12_34 : Int32).toInt from ⟨by omega, hq20_1, fun q => by have q2 : sg (fa 12 32 ((w19_i_12_34 : Int32).toInt).toNat).toInt = 32 := q.2; have hv9 := congrArg Int32.toInt (show v24 = fa 12 32 ((w19_i_12_34 : Int32).toInt).toNat from ev24); have hv9g := sg_i (v24 : Int32).toInt; rw [hv9] at hv9g; omega⟩), (show ((((-1) : Int32).toInt = -1 ∧ ((iv 12 33) : Int32).toInt ≤ (w19_i_12_34 : Int32).toInt) ∨ ((w19_i_12_34 : Int32).toInt < ((iv 12 33) : Int32).toInt ∧ ((-1) : Int32).toInt = ((fa 12 32) ((w19_i_12_34 : Int32).toInt).toNat).toInt)) from Or.inl ⟨by omega, by omega⟩), trivial, rfl⟩, by rw [ht9]; exact hP9, hD9⟩, hS.F ht9⟩) hS.2.2 dX12_here_62
          · have fc26 := z_nle (rfl : ((iv 12 33)).toInt = _) (rfl : (w19_i_12_34).toInt = _) c26
            refine lv_aload_n hx hb dX12_here_49 rfl (lv_at hl 0 rfl) ?_
            refine gM_12_32 hx hb ht hown hK hP m_1171 dX12_here_50 ?_
            refine lv_aload_n hx hb dX12_here_53 rfl (lv_at hl 0 rfl) ?_
            refine gM_12_34 hx hb ht hown hK hP m_1173 (v := w19_i_12_34) rfl dX12_here_54 ?_
            refine lM_12_32 hx hb hK hP (f := (fa 12 32)) rfl (vp_in_iff.mpr ⟨by omega, by omega⟩) dX12_here_57 ?_
            refine lv_topi (fun v27 ev27 => ?_)
            obtain rfl : v24 = v27 := ev24.trans ev27.symm
            refine lv_goto (tgt := 62) hx hb dX12_here_58 (by decide) ?_
            have hP9 : va_P (dC, dI) classes (WM h g ca (u2 iv 12 34 w19_i_12_34) lv fa la) H := hP
            have hD9 : va_D A (WM h g ca (u2 iv 12 34 w19_i_12_34) lv fa la) := hD
            exact W.iret (v := v24) hx hb hr (fun t ht9 hW => ⟨⟨v24, ((u2 iv 12 34 w19_i_12_34), lv, fa, la), rfl, ⟨w19_i_12_34, (show inb (0, 200) w19_i_12_34 from ⟨by omega, by omega⟩), (show (iv 12 34).toInt ≤ (w19_i_12_34 : Int32).toInt from by omega), (show Sk (fun j => sg ((fa 12 32) j).toInt) ((iv 12 33) : Int32).toInt (iv 12 34).toInt (w19_i_12_34 : Int32).toInt from ⟨by omega, hq20_1, fun q => by have q2 : sg (fa 12 32 ((w19_i_12_34 : Int32).toInt).toNat).toInt = 32 := q.2; have hv9 := congrArg Int32.toInt (show v24 = fa 12 32 ((w19_i_12_34 : Int32).toInt).toNat from ev24); have hv9g := sg_i (v24 : Int32).toInt; rw [hv9] at hv9g; omega⟩), (show (((v24 : Int32).toInt = -1 ∧ ((iv 12 33) : Int32).toInt ≤ (w19_i_12_34 : Int32).toInt) ∨ ((w19_i_12_34 : Int32).toInt < ((iv 12 33) : Int32).toInt ∧ (v24 : Int32).toInt = ((fa 12 32) ((w19_i_12_34 : Int32).toInt).toNat).toInt)) from (by have hv9 := congrArg Int32.toInt (show v24 = fa 12 32 ((w19_i_12_34 : Int32).toInt).toNat from ev24); have hv9g := sg_i (v24 : Int32).toInt; exact Or.inr ⟨by omega, by omega⟩)), trivial, rfl⟩, by rw [ht9]; exact hP9, hD9⟩, hS.F ht9⟩) hS.2.2 dX12_here_62
        · have fc25 := z_eq (rfl : (v24).toInt = _) (by decide : (32 : Int32).toInt = 32) c25
          refine lv_aload_n hx hb dX12_here_25 rfl (lv_at hl 0 rfl) ?_
          refine lv_dup hx hb dX12_here_26 rfl ?_
          refine gM_12_34 hx hb ht hown hK hP m_1173 (v := w19_i_12_34) rfl dX12_here_27 ?_
          refine lv_iconst (v := 1) hx hb dX12_here_30 (by decide) ?_
          refine lv_iadd hx hb dX12_here_31 ?_
          refine lv_topi (fun v28 ev28 => ?_)
          have tv28 := z_add ev28 (rfl : (w19_i_12_34).toInt = _) (by decide : (1 : Int32).toInt = 1) (by omega) (by omega)
          refine pM_12_34 (v := v28) hx hb ht hown hK hP hD hS m_1173 dX12_here_32 (fun H locs hP hD hS => ?_)
          have hP : va_P (dC, dI) classes (WM h g ca (u2 iv 12 34 v28) lv fa la) H := hP
          have hD : va_D A (WM h g ca (u2 iv 12 34 v28) lv fa la) := hD
          refine lv_goto (tgt := 0) hx hb dX12_here_35 (by decide) ?_
          exact ih20 v28 ⟨by omega, by omega⟩ (show (iv 12 34).toInt ≤ (v28 : Int32).toInt from by omega) (show ∀ j : Nat, (iv 12 34).toInt ≤ (j : Int) → (j : Int) < (v28 : Int32).toInt → (j : Int) < ((iv 12 33) : Int32).toInt ∧ sg ((fa 12 32) j).toInt = 32 from (fun j h1 h2 => by
                by_cases hj : (j : Int) < (w19_i_12_34 : Int32).toInt
                · exact hq20_1 j h1 hj
                · have hj2 : j = ((w19_i_12_34 : Int32).toInt).toNat := by omega
                  have hv9 := congrArg Int32.toInt (show v24 = fa 12 32 ((w19_i_12_34 : Int32).toInt).toNat from ev24); have hv9g := sg_i (v24 : Int32).toInt; rw [hv9] at hv9g
                  rw [hj2]
                  exact ⟨by omega, by omega⟩)) (by omega) _ _ ls hP hD hS (lv_sub hl [0] rfl)
  have i_12_34 : 0 ≤ (iv 12 34).toInt ∧ (iv 12 34).toInt ≤ 200 := hI.1 12 34
  have i_12_33 : 0 ≤ (iv 12 33).toInt ∧ (iv 12 33).toInt ≤ 200 := hI.1 12 33
  exact lp20 201 (iv 12 34) ⟨by omega, by omega⟩ (show (iv 12 34).toInt ≤ ((iv 12 34) : Int32).toInt from by omega) (show ∀ j : Nat, (iv 12 34).toInt ≤ (j : Int) → (j : Int) < ((iv 12 34) : Int32).toInt → (j : Int) < ((iv 12 33) : Int32).toInt ∧ sg ((fa 12 32) j).toInt = 32 from fun j h1 h2 => absurd h1 (by omega)) (by first | decide | omega) _ _ ls hP hD hS (lv_sub hl [0] rfl)
set_option maxHeartbeats 4000000 in
set_option maxRecDepth 100000 in
/-- X12_takeWord -/
theorem c_X12_takeWord_r (l : Launch) (dC : Nat → ClassId) (dI : Nat → Nat → Nat) (sz : Nat) (h : Nat) (g : Nat → Nat → Nat) (ca : Nat → Nat → ClassId) (iv : Nat → Nat → Int32) (lv : Nat → Nat → Int64) (fa : Nat → Nat → Nat → Int32) (la : Nat → Nat → Nat → Int64) (hI : IX iv fa) : Met l yX12_takeWord (wc yX12_takeWord cX12_takeWord 2 none) ({ frames := 1, cells := 0, slots := 0, locals := 25 } : Room) (pW (dC, dI) classes (WM h g ca iv lv fa la) (TM ca) sz [.ref h]) (va_Qv (fun (u : SS) => ∃ (ni_12_34 : Int32) (ni_12_37 : Int32) (ni_12_38 : Int32), inb (bI 12 34) ni_12_34 ∧ inb (bI 12 37) ni_12_37 ∧ inb (bI 12 38) ni_12_38 ∧ ((iv 12 34).toInt ≤ (ni_12_37).toInt) ∧ ((ni_12_37).toInt + (ni_12_38).toInt = (ni_12_34).toInt) ∧ (Sk (fun j => sg ((fa 12 32) j).toInt) (iv 12 33).toInt (iv 12 34).toInt (ni_12_37).toInt) ∧ (Rn (fun j => sg ((fa 12 32) j).toInt) (iv 12 33).toInt 97 122 (ni_12_37).toInt (ni_12_34).toInt) ∧ u = ((u2 (u2 (u2 iv 12 34 ni_12_34) 12 37 ni_12_37) 12 38 ni_12_38), lv, fa, la)) (bM (dC, dI) h g ca (va_A (WM h g ca iv lv fa la) sz)) (va_A (WM h g ca iv lv fa la) sz)) 0 0 (va_A (WM h g ca iv lv fa la) sz) := by
  refine Met.ofW (cc := cX12_takeWord) (maxL := 2) (ret := none) (by decide) rfl ?_
  intro p e s m args below meth c s₁ B hml hv
  obtain ⟨rfl, hsz, hP, hK, hD0⟩ := hv
  have hx := B.exec
  have hb := B.bytes
  have hr := B.returns
  have ht := tb_tl (atoms_spec (ws := wc yX12_takeWord cX12_takeWord 2 none) B.pre)
  have hown : s.vm.findClass RX12 = some m.cls := findClass_of_methodNamed B.named
  have hlocks := B.notSynchronized
  subst hsz
  have hD := hD0.self (sz := s.heap.size)
  generalize hAe : va_A (WM h g ca iv lv fa la) s.heap.size = A at hD ⊢
  have hA : ∀ q : Nat, s.heap.size ≤ q → A q := fun q h => by rw [← hAe]; exact Or.inr h
  have hS : va_S A s.heap s.heap [] := va_S.rf
  have hl := lv_entry [.ref h] (n := 2) (Nat.le_of_ble_eq_true rfl)
  rw [lg_entry_eq]
  generalize (lg_sl [.ref h] ++ List.replicate (2 - (lg_sl [.ref h]).length) Slot.unset).toArray = ls at hl ⊢
  have hl : lv_has ls 2 [(0, .ref h)] := hl
  refine lv_aload_n hx hb dX12_takeWord_0 rfl (lv_at hl 0 rfl) ?_
  have i_12_34 : 0 ≤ (iv 12 34).toInt ∧ (iv 12 34).toInt ≤ 200 := hI.1 12 34
  have hFc := free_all hD hS hA
  refine va_calli (va_runV (As := []) (rest := []) ⟨hx, hb, hml, hown, ht⟩ (c_X12_here_r l dC dI s.heap.size h g ca iv lv fa la hI) (kV 0 ht m_1458 m_1460 m_47 m_89 m_1461 rfl rfl hd_X12_here_v ⟨Nat.le_of_ble_eq_true rfl, Nat.le_of_ble_eq_true rfl⟩) (vW hP hK hD (rM_12 hK hP)) rfl rfl hl.1 rfl (lv_room (Nat.le_of_ble_eq_true rfl)) dX12_takeWord_1 ⟨Nat.le_of_ble_eq_true rfl, Nat.le_of_ble_eq_true rfl⟩) hS (fun q _ h => hFc q h) hFc (fun r1 u t H1 locs ht9 hvm hr1 hB hz1 hk1 hS => ?_)
  obtain ⟨n2, hn2, xr1_0, xr1_1, xr1_2, hr1, rfl⟩ := hr1
  have hn2 : 0 ≤ n2.toInt ∧ n2.toInt ≤ 200 := hn2
  obtain ⟨hP, hD⟩ := hB
  rw [ht9] at hP
  generalize H1 = H at hP hS ⊢
  have hP : va_P (dC, dI) classes (WM h g ca (u2 iv 12 34 n2) lv fa la) H := hP
  have hD : va_D A (WM h g ca (u2 iv 12 34 n2) lv fa la) := (show va_D _ (WM h g ca (u2 iv 12 34 n2) lv fa la) from hD).weaken (fun _ _ _ h => hFc _ h)
  have xr1_0 : ((iv 12 34) : Int32).toInt ≤ (n2 : Int32).toInt := xr1_0
  have i_12_33 : 0 ≤ (iv 12 33).toInt ∧ (iv 12 33).toInt ≤ 200 := hI.1 12 33
  have xr1_1 : Sk (fun j => sg ((fa 12 32) j).toInt) ((iv 12 33) : Int32).toInt ((iv 12 34) : Int32).toInt (n2 : Int32).toInt := xr1_1
  have xr1_2 : (((r1 : Int32).toInt = -1 ∧ ((iv 12 33) : Int32).toInt ≤ (n2 : Int32).toInt) ∨ ((n2 : Int32).toInt < ((iv 12 33) : Int32).toInt ∧ (r1 : Int32).toInt = ((fa 12 32) ((n2 : Int32).toInt).toNat).toInt)) := xr1_2
  refine lv_istore_n (lv' := [(1, .int r1), (0, .ref h)]) hx hb dX12_takeWord_4 rfl hl (by decide) rfl (fun ls hl => ?_)
  refine lv_aload_n hx hb dX12_takeWord_5 rfl (lv_at hl 1 rfl) ?_
  refine lv_aload_n hx hb dX12_takeWord_6 rfl (lv_at hl 1 rfl) ?_
  refine gM_12_34 hx hb ht hown hK hP m_1173 (v := n2) rfl dX12_takeWord_7 ?_
  refine pM_12_37 (v := n2) hx hb ht hown hK hP hD hS m_1176 dX12_takeWord_10 (fun H locs hP hD hS => ?_)
  have lp22 : ∀ (nn22 : Nat) (w21_i_12_34 : Int32), 0 ≤ w21_i_12_34.toInt ∧ w21_i_12_34.toInt ≤ 200 → (n2 : Int32).toInt ≤ (w21_i_12_34 : Int32).toInt → (∀ j : Nat, (n2 : Int32).toInt ≤ (j : Int) → (j : Int) < (w21_i_12_34 : Int32).toInt → (j : Int) < ((iv 12 33) : Int32).toInt ∧ 97 ≤ sg ((fa 12 32) j).toInt ∧ sg ((fa 12 32) j).toInt ≤ 122) → (iv 12 34).toInt ≤ (n2 : Int32).toInt → 200 - w21_i_12_34.toInt < (nn22 : Int) → ∀ (H : Heap) (locs : List Loc), ∀ (ls : Array Slot), va_P (dC, dI) classes (WM h g ca (u2 (u2 iv 12 34 w21_i_12_34) 12 37 n2) lv fa la) H → va_D A (WM h g ca (u2 (u2 iv 12 34 w21_i_12_34) 12 37 n2) lv fa la) → va_S A s.heap H locs → lv_has ls 2 [(1, .int r1), (0, .ref h)] → W p l e ({ frames := 1, cells := 0, slots := 0, locals := 25 } : Room) s m ([.ref h] : List Value).toArray below meth c H locs 0 0 (MQ below (va_Qv (fun (u : SS) => ∃ (ni_12_34 : Int32) (ni_12_37 : Int32) (ni_12_38 : Int32), inb (bI 12 34) ni_12_34 ∧ inb (bI 12 37) ni_12_37 ∧ inb (bI 12 38) ni_12_38 ∧ ((iv 12 34).toInt ≤ (ni_12_37).toInt) ∧ ((ni_12_37).toInt + (ni_12_38).toInt = (ni_12_34).toInt) ∧ (Sk (fun j => sg ((fa 12 32) j).toInt) (iv 12 33).toInt (iv 12 34).toInt (ni_12_37).toInt) ∧ (Rn (fun j => sg ((fa 12 32) j).toInt) (iv 12 33).toInt 97 122 (ni_12_37).toInt (ni_12_34).toInt) ∧ u = ((u2 (u2 (u2 iv 12 34 ni_12_34) 12 37 ni_12_37) 12 38 ni_12_38), lv, fa, la)) (bM (dC, dI) h g ca A) A) ([.ref h] : List Value).toArray s 0 0 A) (F0 m 13 ls []) := by
    intro nn22
    induction nn22 with
    | zero => intro w21_i_12_34 hw21_i_12_34 hq22_0 hq22_1 hq22_2 hm22; exfalso; omega
    | succ nn22 ih22 =>
      intro w21_i_12_34 hw21_i_12_34 hq22_0 hq22_1 hq22_2 hm22 H locs ls hP hD hS hl
      refine lv_aload_n hx hb dX12_takeWord_13 rfl (lv_at hl 1 rfl) ?_
      refine gM_12_34 hx hb ht hown hK hP m_1173 (v := w21_i_12_34) rfl dX12_takeWord_14 ?_
      refine lv_aload_n hx hb dX12_takeWord_17 rfl (lv_at hl 1 rfl) ?_
      refine gM_12_33 hx hb ht hown hK hP m_1172 (v := (iv 12 33)) rfl dX12_takeWord_18 ?_
      refine lv_icmp_ge (tgt := 59) hx hb dX12_takeWord_21 (by decide) (fun c23 => ?_) (fun c23 => ?_)
      · have fc23 := z_le (rfl : ((iv 12 33)).toInt = _) (rfl : (w21_i_12_34).toInt = _) c23
        refine lv_aload_n hx hb dX12_takeWord_59 rfl (lv_at hl 1 rfl) ?_
        refine lv_aload_n hx hb dX12_takeWord_60 rfl (lv_at hl 1 rfl) ?_
        refine gM_12_34 hx hb ht hown hK hP m_1173 (v := w21_i_12_34) rfl dX12_takeWord_61 ?_
        refine lv_aload_n hx hb dX12_takeWord_64 rfl (lv_at hl 1 rfl) ?_
        refine gM_12_37 hx hb ht hown hK hP m_1176 (v := n2) rfl dX12_takeWord_65 ?_
        refine lv_isub hx hb dX12_takeWord_68 ?_
        refine lv_topi (fun v24 ev24 => ?_)
        have tv24 := z_sub ev24 (rfl : (w21_i_12_34).toInt = _) (rfl : (n2).toInt = _) (by omega) (by omega)
        have : 0 ≤ (v24 : Int32).toInt ∧ (v24 : Int32).toInt ≤ 200 := ⟨by omega, by omega⟩
        refine pM_12_38 (v := v24) hx hb ht hown hK hP hD hS m_1177 dX12_takeWord_69 (fun H locs hP hD hS => ?_)
        have hP9 : va_P (dC, dI) classes (WM h g ca (u2 (u2 (u2 iv 12 34 w21_i_12_34) 12 37 n2) 12 38 v24) lv fa la) H := hP
        have hD9 : va_D A (WM h g ca (u2 (u2 (u2 iv 12 34 w21_i_12_34) 12 37 n2) 12 38 v24) lv fa la) := hD
        exact W.vret hx hb hr (fun t ht9 hW => ⟨⟨((u2 (u2 (u2 iv 12 34 w21_i_12_34) 12 37 n2) 12 38 v24), lv, fa, la), rfl, ⟨w21_i_12_34, n2, v24, (show inb (0, 200) w21_i_12_34 from ⟨by omega, by omega⟩), (show inb (0, 200) n2 from ⟨by omega, by omega⟩), (show inb (0, 200) v24 from ⟨by omega, by omega⟩), (show (iv 12 34).toInt ≤ (n2 : Int32).toInt from by omega), (show (n2 : Int32).toInt + (v24 : Int32).toInt = (w21_i_12_34 : Int32).toInt from by omega), (show Sk (fun j => sg ((fa 12 32) j).toInt) ((iv 12 33) : Int32).toInt (iv 12 34).toInt (n2 : Int32).toInt from xr1_1), (show Rn (fun j => sg ((fa 12 32) j).toInt) ((iv 12 33) : Int32).toInt 97 122 (n2 : Int32).toInt (w21_i_12_34 : Int32).toInt from ⟨by omega, hq22_1, fun q => by omega⟩), rfl⟩, by rw [ht9]; exact hP9, hD9⟩, hS.F ht9⟩) hS.2.2 dX12_takeWord_72
      · have fc23 := z_nle (rfl : ((iv 12 33)).toInt = _) (rfl : (w21_i_12_34).toInt = _) c23
        refine lv_aload_n hx hb dX12_takeWord_24 rfl (lv_at hl 1 rfl) ?_
        refine gM_12_32 hx hb ht hown hK hP m_1171 dX12_takeWord_25 ?_
        refine lv_aload_n hx hb dX12_takeWord_28 rfl (lv_at hl 1 rfl) ?_
        refine gM_12_34 hx hb ht hown hK hP m_1173 (v := w21_i_12_34) rfl dX12_takeWord_29 ?_
        refine lM_12_32 hx hb hK hP (f := (fa 12 32)) rfl (vp_in_iff.mpr ⟨by omega, by omega⟩) dX12_takeWord_32 ?_
        refine lv_topi (fun v25 ev25 => ?_)
        refine lv_i2l (v := (v25.toInt64)) hx hb dX12_takeWord_33 rfl ?_
        refine lv_ldc2 hx hb hown (ht _ m_1466) dX12_takeWord_34 ?_
        refine lv_ldc2 hx hb hown (ht _ m_1467) dX12_takeWord_37 ?_
        refine vp_callSi (W.runS (As := [.long (v25.toInt64), .long 97, .long 122]) (rest := []) ⟨hx, hb, hml, hown, ht⟩ (c_X12_in l dC dI (v25.toInt64) 97 122 (v25.toInt) (97) (122) ((Int32.toInt_toInt64 v25).trans rfl) (by decide : (97 : Int64).toInt = 97) (by decide : (122 : Int64).toInt = 122)) (kS 3 ht m_1370 m_1371 m_89 m_1372 rfl rfl hd_X12_in_v ⟨Nat.le_of_ble_eq_true rfl, Nat.le_of_ble_eq_true rfl⟩) (sR noP (hK.sub (tys' := []) [] rfl)) rfl rfl hl.1 rfl (lv_room (Nat.le_of_ble_eq_true rfl)) dX12_takeWord_40 ⟨Nat.le_of_ble_eq_true rfl, Nat.le_of_ble_eq_true rfl⟩) (fun r26 hr26 => ?_)
        rcases hr26 with ⟨rfl, fr26⟩ | ⟨rfl, fr26⟩
        · skip
          refine lv_if_eq (tgt := 59) hx hb dX12_takeWord_43 (by decide) (fun c27 => ?_) (fun c27 => ?_)
          · exact absurd c27 (by decide)
          · skip
            refine lv_aload_n hx hb dX12_takeWord_46 rfl (lv_at hl 1 rfl) ?_
            refine lv_dup hx hb dX12_takeWord_47 rfl ?_
            refine gM_12_34 hx hb ht hown hK hP m_1173 (v := w21_i_12_34) rfl dX12_takeWord_48 ?_
            refine lv_iconst (v := 1) hx hb dX12_takeWord_51 (by decide) ?_
            refine lv_iadd hx hb dX12_takeWord_52 ?_
            refine lv_topi (fun v28 ev28 => ?_)
            have tv28 := z_add ev28 (rfl : (w21_i_12_34).toInt = _) (by decide : (1 : Int32).toInt = 1) (by omega) (by omega)
            refine pM_12_34 (v := v28) hx hb ht hown hK hP hD hS m_1173 dX12_takeWord_53 (fun H locs hP hD hS => ?_)
            have hP : va_P (dC, dI) classes (WM h g ca (u2 (u2 iv 12 34 v28) 12 37 n2) lv fa la) H := hP
            have hD : va_D A (WM h g ca (u2 (u2 iv 12 34 v28) 12 37 n2) lv fa la) := hD
            refine lv_goto (tgt := 13) hx hb dX12_takeWord_56 (by decide) ?_
            exact ih22 v28 ⟨by omega, by omega⟩ (show (n2 : Int32).toInt ≤ (v28 : Int32).toInt from by omega) (show ∀ j : Nat, (n2 : Int32).toInt ≤ (j : Int) → (j : Int) < (v28 : Int32).toInt → (j : Int) < ((iv 12 33) : Int32).toInt ∧ 97 ≤ sg ((fa 12 32) j).toInt ∧ sg ((fa 12 32) j).toInt ≤ 122 from (fun j h1 h2 => by
                  by_cases hj : (j : Int) < (w21_i_12_34 : Int32).toInt
                  · exact hq22_1 j h1 hj
                  · have hj2 : j = ((w21_i_12_34 : Int32).toInt).toNat := by omega
                    have hv9 := congrArg Int32.toInt (show v25 = fa 12 32 ((w21_i_12_34 : Int32).toInt).toNat from ev25); have hv9g := sg_i (v25 : Int32).toInt; rw [hv9] at hv9g
                    rw [hj2]
                    exact ⟨by omega, by omega, by omega⟩)) (show (iv 12 34).toInt ≤ (n2 : Int32).toInt from by omega) (by omega) _ _ ls hP hD hS (lv_sub hl [0, 1] rfl)
        · skip
          refine lv_if_eq (tgt := 59) hx hb dX12_takeWord_43 (by decide) (fun c29 => ?_) (fun c29 => ?_)
          · skip
            refine lv_aload_n hx hb dX12_takeWord_59 rfl (lv_at hl 1 rfl) ?_
            refine lv_aload_n hx hb dX12_takeWord_60 rfl (lv_at hl 1 rfl) ?_
            refine gM_12_34 hx hb ht hown hK hP m_1173 (v := w21_i_12_34) rfl dX12_takeWord_61 ?_
            refine lv_aload_n hx hb dX12_takeWord_64 rfl (lv_at hl 1 rfl) ?_
            refine gM_12_37 hx hb ht hown hK hP m_1176 (v := n2) rfl dX12_takeWord_65 ?_
            refine lv_isub hx hb dX12_takeWord_68 ?_
            refine lv_topi (fun v30 ev30 => ?_)
            have tv30 := z_sub ev30 (rfl : (w21_i_12_34).toInt = _) (rfl : (n2).toInt = _) (by omega) (by omega)
            have : 0 ≤ (v30 : Int32).toInt ∧ (v30 : Int32).toInt ≤ 200 := ⟨by omega, by omega⟩
            refine pM_12_38 (v := v30) hx hb ht hown hK hP hD hS m_1177 dX12_takeWord_69 (fun H locs hP hD hS => ?_)
            have hP9 : va_P (dC, dI) classes (WM h g ca (u2 (u2 (u2 iv 12 34 w21_i_12_34) 12 37 n2) 12 38 v30) lv fa la) H := hP
            have hD9 : va_D A (WM h g ca (u2 (u2 (u2 iv 12 34 w21_i_12_34) 12 37 n2) 12 38 v30) lv fa la) := hD
            exact W.vret hx hb hr (fun t ht9 hW => ⟨⟨((u2 (u2 (u2 iv 12 34 w21_i_12_34) 12 37 n2) 12 38 v30), lv, fa, la), rfl, ⟨w21_i_12_34, n2, v30, (show inb (0, 200) w21_i_12_34 from ⟨by omega, by omega⟩), (show inb (0, 200) n2 from ⟨by omega, by omega⟩), (show inb (0, 200) v30 from ⟨by omega, by omega⟩), (show (iv 12 34).toInt ≤ (n2 : Int32).toInt from by omega), (show (n2 : Int32).toInt + (v30 : Int32).toInt = (w21_i_12_34 : Int32).toInt from by omega), (show Sk (fun j => sg ((fa 12 32) j).toInt) ((iv 12 33) : Int32).toInt (iv 12 34).toInt (n2 : Int32).toInt from xr1_1), (show Rn (fun j => sg ((fa 12 32) j).toInt) ((iv 12 33) : Int32).toInt 97 122 (n2 : Int32).toInt (w21_i_12_34 : Int32).toInt from ⟨by omega, hq22_1, fun q => by have q2 : 97 ≤ sg (fa 12 32 ((w21_i_12_34 : Int32).toInt).toNat).toInt ∧ sg (fa 12 32 ((w21_i_12_34 : Int32).toInt).toNat).toInt ≤ 122 := q.2; have hv9 := congrArg Int32.toInt (show v25 = fa 12 32 ((w21_i_12_34 : Int32).toInt).toNat from ev25); have hv9g := sg_i (v25 : Int32).toInt; rw [hv9] at hv9g; omega⟩), rfl⟩, by rw [ht9]; exact hP9, hD9⟩, hS.F ht9⟩) hS.2.2 dX12_takeWord_72
          · exact absurd rfl c29
  exact lp22 201 n2 ⟨by omega, by omega⟩ (show (n2 : Int32).toInt ≤ (n2 : Int32).toInt from by omega) (show ∀ j : Nat, (n2 : Int32).toInt ≤ (j : Int) → (j : Int) < (n2 : Int32).toInt → (j : Int) < ((iv 12 33) : Int32).toInt ∧ 97 ≤ sg ((fa 12 32) j).toInt ∧ sg ((fa 12 32) j).toInt ≤ 122 from fun j h1 h2 => absurd h1 (by omega)) (show (iv 12 34).toInt ≤ (n2 : Int32).toInt from by omega) (by first | decide | omega) _ _ ls hP hD hS (lv_sub hl [0, 1] rfl)
set_option maxHeartbeats 4000000 in
set_option maxRecDepth 100000 in
/-- X12_isWord -/
theorem c_X12_isWord_r_let (l : Launch) (dC : Nat → ClassId) (dI : Nat → Nat → Nat) (h : Nat) (g : Nat → Nat → Nat) (ca : Nat → Nat → ClassId) (iv : Nat → Nat → Int32) (lv : Nat → Nat → Int64) (fa : Nat → Nat → Nat → Int32) (la : Nat → Nat → Nat → Int64) (hI : IX iv fa) (p_0 : (iv 12 37).toInt + (iv 12 38).toInt ≤ 200) : Met l yX12_isWord (wc yX12_isWord cX12_isWord 10 (some .boolean)) ({ frames := 0, cells := 0, slots := 0, locals := 0 } : Room) (pR (dC, dI) classes (WM h g ca iv lv fa la) (TM ca) [.ref h, .int 3, .int 108, .int 101, .int 116, .int 0, .int 0, .int 0]) (vp_Si (fun r => (0 ≤ r.toInt ∧ r.toInt ≤ 1) ∧ (((r.toInt = 1 ∧ w_let (fun j => sg ((fa 12 32) j).toInt) (iv 12 37).toInt ((iv 12 37).toInt + (iv 12 38).toInt)) ∨ (r.toInt = 0 ∧ ¬ w_let (fun j => sg ((fa 12 32) j).toInt) (iv 12 37).toInt ((iv 12 37).toInt + (iv 12 38).toInt)))) ∧ ((r.toInt = 0 ∨ (iv 12 38).toInt = 3)))) 0 0 (fun _ => False) := by
  refine Met.ofW (cc := cX12_isWord) (maxL := 10) (ret := (some .boolean)) (by decide) rfl ?_
  intro p e s m args below meth c s₁ B hml hv
  obtain ⟨rfl, hP, hK⟩ := hv
  have hx := B.exec
  have hb := B.bytes
  have hr := B.returns
  have ht := tb_tl (atoms_spec (ws := wc yX12_isWord cX12_isWord 10 (some .boolean)) B.pre)
  have hown : s.vm.findClass RX12 = some m.cls := findClass_of_methodNamed B.named
  have hlocks := B.notSynchronized
  have hl := lv_entry [.ref h, .int 3, .int 108, .int 101, .int 116, .int 0, .int 0, .int 0] (n := 10) (Nat.le_of_ble_eq_true rfl)
  rw [lg_entry_eq]
  generalize (lg_sl [.ref h, .int 3, .int 108, .int 101, .int 116, .int 0, .int 0, .int 0] ++ List.replicate (10 - (lg_sl [.ref h, .int 3, .int 108, .int 101, .int 116, .int 0, .int 0, .int 0]).length) Slot.unset).toArray = ls at hl ⊢
  have hl : lv_has ls 10 [(0, .ref h), (1, .int 3), (2, .int 108), (3, .int 101), (4, .int 116), (5, .int 0), (6, .int 0), (7, .int 0)] := hl
  refine lv_aload_n hx hb dX12_isWord_0 rfl (lv_at hl 0 rfl) ?_
  have i_12_38 : 0 ≤ (iv 12 38).toInt ∧ (iv 12 38).toInt ≤ 200 := hI.1 12 38
  refine gM_12_38 hx hb ht hown hK hP m_1177 (v := (iv 12 38)) rfl dX12_isWord_1 ?_
  refine lv_iload_n hx hb dX12_isWord_4 rfl (lv_at hl 1 rfl) ?_
  refine lv_icmp_ne (tgt := 12) hx hb dX12_isWord_5 (by decide) (fun c1 => ?_) (fun c1 => ?_)
  · have fc1 := z_ne (rfl : ((iv 12 38)).toInt = _) (by decide : (3 : Int32).toInt = 3) c1
    refine lv_iconst (v := 0) hx hb dX12_isWord_12 (by decide) ?_
    refine lv_istore (lv' := [(8, .int 0), (0, .ref h), (1, .int 3), (2, .int 108), (3, .int 101), (4, .int 116), (5, .int 0), (6, .int 0), (7, .int 0)]) hx hb dX12_isWord_13 hl (by decide) rfl (fun ls hl => ?_)
    refine lv_iconst (v := 0) hx hb dX12_isWord_15 (by decide) ?_
    refine lv_istore (lv' := [(9, .int 0), (8, .int 0), (0, .ref h), (1, .int 3), (2, .int 108), (3, .int 101), (4, .int 116), (5, .int 0), (6, .int 0), (7, .int 0)]) hx hb dX12_isWord_16 hl (by decide) rfl (fun ls hl => ?_)
    refine lv_iload hx hb dX12_isWord_18 (lv_at hl 0 rfl) ?_
    refine lv_iload_n hx hb dX12_isWord_20 rfl (lv_at hl 3 rfl) ?_
    refine lv_icmp_ge (tgt := 111) hx hb dX12_isWord_21 (by decide) (fun c2 => ?_) (fun c2 => ?_)
    · exact absurd c2 (by decide)
    · skip
      refine lv_iload hx hb dX12_isWord_24 (lv_at hl 1 rfl) ?_
      refine lv_if_eq (tgt := 111) hx hb dX12_isWord_26 (by decide) (fun c3 => ?_) (fun c3 => ?_)
      · skip
        refine lv_iload hx hb dX12_isWord_111 (lv_at hl 1 rfl) ?_
        have : (0 : Int32).toInt = 0 := (by decide)
        have i_12_37 : 0 ≤ (iv 12 37).toInt ∧ (iv 12 37).toInt ≤ 200 := hI.1 12 37
        exact W.zret (v := 0) hx hb hr rfl (fun t ht9 hW => ⟨0, rfl, ⟨⟨by decide, by decide⟩, (show (((0 : Int32).toInt = 1 ∧ w_let (fun j => sg ((fa 12 32) j).toInt) ((iv 12 37) : Int32).toInt (((iv 12 37) : Int32).toInt + ((iv 12 38) : Int32).toInt)) ∨ ((0 : Int32).toInt = 0 ∧ ¬ w_let (fun j => sg ((fa 12 32) j).toInt) ((iv 12 37) : Int32).toInt (((iv 12 37) : Int32).toInt + ((iv 12 38) : Int32).toInt))) from (by exact Or.inr ⟨by omega, fun h9 => (by have h8 : ((iv 12 37).toInt + (iv 12 38).toInt) - (iv 12 37).toInt = 3 ∧ sg (fa 12 32 (((iv 12 37).toInt).toNat + 0)).toInt = 108 ∧ sg (fa 12 32 (((iv 12 37).toInt).toNat + 1)).toInt = 101 ∧ sg (fa 12 32 (((iv 12 37).toInt).toNat + 2)).toInt = 116 := h9; have h7 := h8.1; omega)⟩)), (show ((0 : Int32).toInt = 0 ∨ ((iv 12 38) : Int32).toInt = 3) from by omega)⟩, ht9⟩) (fun q hq => by cases hq) dX12_isWord_113
      · exact absurd rfl c3
  · have fc1 := z_eq (rfl : ((iv 12 38)).toInt = _) (by decide : (3 : Int32).toInt = 3) c1
    refine lv_iconst (v := 1) hx hb dX12_isWord_8 (by decide) ?_
    refine lv_goto (tgt := 13) hx hb dX12_isWord_9 (by decide) ?_
    refine lv_istore (lv' := [(8, .int 1), (0, .ref h), (1, .int 3), (2, .int 108), (3, .int 101), (4, .int 116), (5, .int 0), (6, .int 0), (7, .int 0)]) hx hb dX12_isWord_13 hl (by decide) rfl (fun ls hl => ?_)
    refine lv_iconst (v := 0) hx hb dX12_isWord_15 (by decide) ?_
    refine lv_istore (lv' := [(9, .int 0), (8, .int 1), (0, .ref h), (1, .int 3), (2, .int 108), (3, .int 101), (4, .int 116), (5, .int 0), (6, .int 0), (7, .int 0)]) hx hb dX12_isWord_16 hl (by decide) rfl (fun ls hl => ?_)
    refine lv_iload hx hb dX12_isWord_18 (lv_at hl 0 rfl) ?_
    refine lv_iload_n hx hb dX12_isWord_20 rfl (lv_at hl 3 rfl) ?_
    refine lv_icmp_ge (tgt := 111) hx hb dX12_isWord_21 (by decide) (fun c4 => ?_) (fun c4 => ?_)
    · exact absurd c4 (by decide)
    · skip
      refine lv_iload hx hb dX12_isWord_24 (lv_at hl 1 rfl) ?_
      refine lv_if_eq (tgt := 111) hx hb dX12_isWord_26 (by decide) (fun c5 => ?_) (fun c5 => ?_)
      · exact absurd c5 (by decide)
      · skip
        refine lv_aload_n hx hb dX12_isWord_29 rfl (lv_at hl 2 rfl) ?_
        refine gM_12_32 hx hb ht hown hK hP m_1171 dX12_isWord_30 ?_
        refine lv_aload_n hx hb dX12_isWord_33 rfl (lv_at hl 2 rfl) ?_
        have i_12_37 : 0 ≤ (iv 12 37).toInt ∧ (iv 12 37).toInt ≤ 200 := hI.1 12 37
        refine gM_12_37 hx hb ht hown hK hP m_1176 (v := (iv 12 37)) rfl dX12_isWord_34 ?_
        refine lv_iload hx hb dX12_isWord_37 (lv_at hl 0 rfl) ?_
        refine lv_iadd hx hb dX12_isWord_39 ?_
        refine lv_topi (fun v6 ev6 => ?_)
        have tv6 := z_add ev6 (rfl : ((iv 12 37)).toInt = _) (by decide : (0 : Int32).toInt = 0) (by omega) (by omega)
        have : 0 ≤ (v6 : Int32).toInt ∧ (v6 : Int32).toInt ≤ 199 := ⟨by omega, by omega⟩
        refine lM_12_32 hx hb hK hP (f := (fa 12 32)) rfl (vp_in_iff.mpr ⟨by omega, by omega⟩) dX12_isWord_40 ?_
        refine lv_topi (fun v7 ev7 => ?_)
        refine lv_iload hx hb dX12_isWord_41 (lv_at hl 0 rfl) ?_
        refine lv_if_ne (tgt := 50) hx hb dX12_isWord_43 (by decide) (fun c8 => ?_) (fun c8 => ?_)
        · exact absurd rfl c8
        · skip
          refine lv_iload_n hx hb dX12_isWord_46 rfl (lv_at hl 4 rfl) ?_
          refine lv_goto (tgt := 95) hx hb dX12_isWord_47 (by decide) ?_
          refine lv_icmp_ne (tgt := 102) hx hb dX12_isWord_95 (by decide) (fun c9 => ?_) (fun c9 => ?_)
          · have fc9 := z_ne (rfl : (v7).toInt = _) (by decide : (108 : Int32).toInt = 108) c9
            refine lv_iconst (v := 0) hx hb dX12_isWord_102 (by decide) ?_
            refine lv_istore (lv' := [(8, .int 0), (9, .int 0), (0, .ref h), (1, .int 3), (2, .int 108), (3, .int 101), (4, .int 116), (5, .int 0), (6, .int 0), (7, .int 0)]) hx hb dX12_isWord_103 hl (by decide) rfl (fun ls hl => ?_)
            refine lv_iinc (v := 1) (lv' := [(9, .int 1), (8, .int 0), (0, .ref h), (1, .int 3), (2, .int 108), (3, .int 101), (4, .int 116), (5, .int 0), (6, .int 0), (7, .int 0)]) hx hb dX12_isWord_105 hl (k := 1) rfl (by decide) (by decide) rfl (fun ls hl => ?_)
            refine lv_goto (tgt := 18) hx hb dX12_isWord_108 (by decide) ?_
            refine lv_iload hx hb dX12_isWord_18 (lv_at hl 0 rfl) ?_
            refine lv_iload_n hx hb dX12_isWord_20 rfl (lv_at hl 3 rfl) ?_
            refine lv_icmp_ge (tgt := 111) hx hb dX12_isWord_21 (by decide) (fun c10 => ?_) (fun c10 => ?_)
            · exact absurd c10 (by decide)
            · skip
              refine lv_iload hx hb dX12_isWord_24 (lv_at hl 1 rfl) ?_
              refine lv_if_eq (tgt := 111) hx hb dX12_isWord_26 (by decide) (fun c11 => ?_) (fun c11 => ?_)
              · skip
                refine lv_iload hx hb dX12_isWord_111 (lv_at hl 1 rfl) ?_
                have : (0 : Int32).toInt = 0 := (by decide)
                exact W.zret (v := 0) hx hb hr rfl (fun t ht9 hW => ⟨0, rfl, ⟨⟨by decide, by decide⟩, (show (((0 : Int32).toInt = 1 ∧ w_let (fun j => sg ((fa 12 32) j).toInt) ((iv 12 37) : Int32).toInt (((iv 12 37) : Int32).toInt + ((iv 12 38) : Int32).toInt)) ∨ ((0 : Int32).toInt = 0 ∧ ¬ w_let (fun j => sg ((fa 12 32) j).toInt) ((iv 12 37) : Int32).toInt (((iv 12 37) : Int32).toInt + ((iv 12 38) : Int32).toInt))) from (by have q0 := congrArg Int32.toInt (ev7.trans (congrArg (fa 12 32) (show (v6 : Int32).toNatClampNeg = ((iv 12 37).toInt).toNat + 0 from (by show (v6 : Int32).toInt.toNat = _; omega)))); have s0 := sg_i (v7 : Int32).toInt; rw [q0] at s0; exact Or.inr ⟨by omega, fun h9 => (by have h8 : ((iv 12 37).toInt + (iv 12 38).toInt) - (iv 12 37).toInt = 3 ∧ sg (fa 12 32 (((iv 12 37).toInt).toNat + 0)).toInt = 108 ∧ sg (fa 12 32 (((iv 12 37).toInt).toNat + 1)).toInt = 101 ∧ sg (fa 12 32 (((iv 12 37).toInt).toNat + 2)).toInt = 116 := h9; have h7 := h8.2.1; clear h8 h9; omega)⟩)), (show ((0 : Int32).toInt = 0 ∨ ((iv 12 38) : Int32).toInt = 3) from by omega)⟩, ht9⟩) (fun q hq => by cases hq) dX12_isWord_113
              · exact absurd rfl c11
          · have fc9 := z_eq (rfl : (v7).toInt = _) (by decide : (108 : Int32).toInt = 108) c9
            refine lv_iconst (v := 1) hx hb dX12_isWord_98 (by decide) ?_
            refine lv_goto (tgt := 103) hx hb dX12_isWord_99 (by decide) ?_
            refine lv_istore (lv' := [(8, .int 1), (9, .int 0), (0, .ref h), (1, .int 3), (2, .int 108), (3, .int 101), (4, .int 116), (5, .int 0), (6, .int 0), (7, .int 0)]) hx hb dX12_isWord_103 hl (by decide) rfl (fun ls hl => ?_)
            refine lv_iinc (v := 1) (lv' := [(9, .int 1), (8, .int 1), (0, .ref h), (1, .int 3), (2, .int 108), (3, .int 101), (4, .int 116), (5, .int 0), (6, .int 0), (7, .int 0)]) hx hb dX12_isWord_105 hl (k := 1) rfl (by decide) (by decide) rfl (fun ls hl => ?_)
            refine lv_goto (tgt := 18) hx hb dX12_isWord_108 (by decide) ?_
            refine lv_iload hx hb dX12_isWord_18 (lv_at hl 0 rfl) ?_
            refine lv_iload_n hx hb dX12_isWord_20 rfl (lv_at hl 3 rfl) ?_
            refine lv_icmp_ge (tgt := 111) hx hb dX12_isWord_21 (by decide) (fun c12 => ?_) (fun c12 => ?_)
            · exact absurd c12 (by decide)
            · skip
              refine lv_iload hx hb dX12_isWord_24 (lv_at hl 1 rfl) ?_
              refine lv_if_eq (tgt := 111) hx hb dX12_isWord_26 (by decide) (fun c13 => ?_) (fun c13 => ?_)
              · exact absurd c13 (by decide)
              · skip
                refine lv_aload_n hx hb dX12_isWord_29 rfl (lv_at hl 2 rfl) ?_
                refine gM_12_32 hx hb ht hown hK hP m_1171 dX12_isWord_30 ?_
                refine lv_aload_n hx hb dX12_isWord_33 rfl (lv_at hl 2 rfl) ?_
                refine gM_12_37 hx hb ht hown hK hP m_1176 (v := (iv 12 37)) rfl dX12_isWord_34 ?_
                refine lv_iload hx hb dX12_isWord_37 (lv_at hl 0 rfl) ?_
                refine lv_iadd hx hb dX12_isWord_39 ?_
                refine lv_topi (fun v14 ev14 => ?_)
                have tv14 := z_add ev14 (rfl : ((iv 12 37)).toInt = _) (by decide : (1 : Int32).toInt = 1) (by omega) (by omega)
                have : 0 ≤ (v14 : Int32).toInt ∧ (v14 : Int32).toInt ≤ 199 := ⟨by omega, by omega⟩
                refine lM_12_32 hx hb hK hP (f := (fa 12 32)) rfl (vp_in_iff.mpr ⟨by omega, by omega⟩) dX12_isWord_40 ?_
                refine lv_topi (fun v15 ev15 => ?_)
                refine lv_iload hx hb dX12_isWord_41 (lv_at hl 0 rfl) ?_
                refine lv_if_ne (tgt := 50) hx hb dX12_isWord_43 (by decide) (fun c16 => ?_) (fun c16 => ?_)
                · skip
                  refine lv_iload hx hb dX12_isWord_50 (lv_at hl 0 rfl) ?_
                  refine lv_iconst (v := 1) hx hb dX12_isWord_52 (by decide) ?_
                  refine lv_icmp_ne (tgt := 60) hx hb dX12_isWord_53 (by decide) (fun c17 => ?_) (fun c17 => ?_)
                  · exact absurd rfl c17
                  · skip
                    refine lv_iload_n hx hb dX12_isWord_56 rfl (lv_at hl 5 rfl) ?_
                    refine lv_goto (tgt := 95) hx hb dX12_isWord_57 (by decide) ?_
                    refine lv_icmp_ne (tgt := 102) hx hb dX12_isWord_95 (by decide) (fun c18 => ?_) (fun c18 => ?_)
                    · have fc18 := z_ne (rfl : (v15).toInt = _) (by decide : (101 : Int32).toInt = 101) c18
                      refine lv_iconst (v := 0) hx hb dX12_isWord_102 (by decide) ?_
                      refine lv_istore (lv' := [(8, .int 0), (9, .int 1), (0, .ref h), (1, .int 3), (2, .int 108), (3, .int 101), (4, .int 116), (5, .int 0), (6, .int 0), (7, .int 0)]) hx hb dX12_isWord_103 hl (by decide) rfl (fun ls hl => ?_)
                      refine lv_iinc (v := 2) (lv' := [(9, .int 2), (8, .int 0), (0, .ref h), (1, .int 3), (2, .int 108), (3, .int 101), (4, .int 116), (5, .int 0), (6, .int 0), (7, .int 0)]) hx hb dX12_isWord_105 hl (k := 1) rfl (by decide) (by decide) rfl (fun ls hl => ?_)
                      refine lv_goto (tgt := 18) hx hb dX12_isWord_108 (by decide) ?_
                      refine lv_iload hx hb dX12_isWord_18 (lv_at hl 0 rfl) ?_
                      refine lv_iload_n hx hb dX12_isWord_20 rfl (lv_at hl 3 rfl) ?_
                      refine lv_icmp_ge (tgt := 111) hx hb dX12_isWord_21 (by decide) (fun c19 => ?_) (fun c19 => ?_)
                      · exact absurd c19 (by decide)
                      · skip
                        refine lv_iload hx hb dX12_isWord_24 (lv_at hl 1 rfl) ?_
                        refine lv_if_eq (tgt := 111) hx hb dX12_isWord_26 (by decide) (fun c20 => ?_) (fun c20 => ?_)
                        · skip
                          refine lv_iload hx hb dX12_isWord_111 (lv_at hl 1 rfl) ?_
                          have : (0 : Int32).toInt = 0 := (by decide)
                          exact W.zret (v := 0) hx hb hr rfl (fun t ht9 hW => ⟨0, rfl, ⟨⟨by decide, by decide⟩, (show (((0 : Int32).toInt = 1 ∧ w_let (fun j => sg ((fa 12 32) j).toInt) ((iv 12 37) : Int32).toInt (((iv 12 37) : Int32).toInt + ((iv 12 38) : Int32).toInt)) ∨ ((0 : Int32).toInt = 0 ∧ ¬ w_let (fun j => sg ((fa 12 32) j).toInt) ((iv 12 37) : Int32).toInt (((iv 12 37) : Int32).toInt + ((iv 12 38) : Int32).toInt))) from (by have q0 := congrArg Int32.toInt (ev7.trans (congrArg (fa 12 32) (show (v6 : Int32).toNatClampNeg = ((iv 12 37).toInt).toNat + 0 from (by show (v6 : Int32).toInt.toNat = _; omega)))); have s0 := sg_i (v7 : Int32).toInt; rw [q0] at s0; have q1 := congrArg Int32.toInt (ev15.trans (congrArg (fa 12 32) (show (v14 : Int32).toNatClampNeg = ((iv 12 37).toInt).toNat + 1 from (by show (v14 : Int32).toInt.toNat = _; omega)))); have s1 := sg_i (v15 : Int32).toInt; rw [q1] at s1; exact Or.inr ⟨by omega, fun h9 => (by have h8 : ((iv 12 37).toInt + (iv 12 38).toInt) - (iv 12 37).toInt = 3 ∧ sg (fa 12 32 (((iv 12 37).toInt).toNat + 0)).toInt = 108 ∧ sg (fa 12 32 (((iv 12 37).toInt).toNat + 1)).toInt = 101 ∧ sg (fa 12 32 (((iv 12 37).toInt).toNat + 2)).toInt = 116 := h9; have h7 := h8.2.2.1; clear h8 h9; omega)⟩)), (show ((0 : Int32).toInt = 0 ∨ ((iv 12 38) : Int32).toInt = 3) from by omega)⟩, ht9⟩) (fun q hq => by cases hq) dX12_isWord_113
                        · exact absurd rfl c20
                    · have fc18 := z_eq (rfl : (v15).toInt = _) (by decide : (101 : Int32).toInt = 101) c18
                      refine lv_iconst (v := 1) hx hb dX12_isWord_98 (by decide) ?_
                      refine lv_goto (tgt := 103) hx hb dX12_isWord_99 (by decide) ?_
                      refine lv_istore (lv' := [(8, .int 1), (9, .int 1), (0, .ref h), (1, .int 3), (2, .int 108), (3, .int 101), (4, .int 116), (5, .int 0), (6, .int 0), (7, .int 0)]) hx hb dX12_isWord_103 hl (by decide) rfl (fun ls hl => ?_)
                      refine lv_iinc (v := 2) (lv' := [(9, .int 2), (8, .int 1), (0, .ref h), (1, .int 3), (2, .int 108), (3, .int 101), (4, .int 116), (5, .int 0), (6, .int 0), (7, .int 0)]) hx hb dX12_isWord_105 hl (k := 1) rfl (by decide) (by decide) rfl (fun ls hl => ?_)
                      refine lv_goto (tgt := 18) hx hb dX12_isWord_108 (by decide) ?_
                      refine lv_iload hx hb dX12_isWord_18 (lv_at hl 0 rfl) ?_
                      refine lv_iload_n hx hb dX12_isWord_20 rfl (lv_at hl 3 rfl) ?_
                      refine lv_icmp_ge (tgt := 111) hx hb dX12_isWord_21 (by decide) (fun c21 => ?_) (fun c21 => ?_)
                      · exact absurd c21 (by decide)
                      · skip
                        refine lv_iload hx hb dX12_isWord_24 (lv_at hl 1 rfl) ?_
                        refine lv_if_eq (tgt := 111) hx hb dX12_isWord_26 (by decide) (fun c22 => ?_) (fun c22 => ?_)
                        · exact absurd c22 (by decide)
                        · skip
                          refine lv_aload_n hx hb dX12_isWord_29 rfl (lv_at hl 2 rfl) ?_
                          refine gM_12_32 hx hb ht hown hK hP m_1171 dX12_isWord_30 ?_
                          refine lv_aload_n hx hb dX12_isWord_33 rfl (lv_at hl 2 rfl) ?_
                          refine gM_12_37 hx hb ht hown hK hP m_1176 (v := (iv 12 37)) rfl dX12_isWord_34 ?_
                          refine lv_iload hx hb dX12_isWord_37 (lv_at hl 0 rfl) ?_
                          refine lv_iadd hx hb dX12_isWord_39 ?_
                          refine lv_topi (fun v23 ev23 => ?_)
                          have tv23 := z_add ev23 (rfl : ((iv 12 37)).toInt = _) (by decide : (2 : Int32).toInt = 2) (by omega) (by omega)
                          have : 0 ≤ (v23 : Int32).toInt ∧ (v23 : Int32).toInt ≤ 199 := ⟨by omega, by omega⟩
                          refine lM_12_32 hx hb hK hP (f := (fa 12 32)) rfl (vp_in_iff.mpr ⟨by omega, by omega⟩) dX12_isWord_40 ?_
                          refine lv_topi (fun v24 ev24 => ?_)
                          refine lv_iload hx hb dX12_isWord_41 (lv_at hl 0 rfl) ?_
                          refine lv_if_ne (tgt := 50) hx hb dX12_isWord_43 (by decide) (fun c25 => ?_) (fun c25 => ?_)
                          · skip
                            refine lv_iload hx hb dX12_isWord_50 (lv_at hl 0 rfl) ?_
                            refine lv_iconst (v := 1) hx hb dX12_isWord_52 (by decide) ?_
                            refine lv_icmp_ne (tgt := 60) hx hb dX12_isWord_53 (by decide) (fun c26 => ?_) (fun c26 => ?_)
                            · skip
                              refine lv_iload hx hb dX12_isWord_60 (lv_at hl 0 rfl) ?_
                              refine lv_iconst (v := 2) hx hb dX12_isWord_62 (by decide) ?_
                              refine lv_icmp_ne (tgt := 71) hx hb dX12_isWord_63 (by decide) (fun c27 => ?_) (fun c27 => ?_)
                              · exact absurd rfl c27
                              · skip
                                refine lv_iload hx hb dX12_isWord_66 (lv_at hl 6 rfl) ?_
                                refine lv_goto (tgt := 95) hx hb dX12_isWord_68 (by decide) ?_
                                refine lv_icmp_ne (tgt := 102) hx hb dX12_isWord_95 (by decide) (fun c28 => ?_) (fun c28 => ?_)
                                · have fc28 := z_ne (rfl : (v24).toInt = _) (by decide : (116 : Int32).toInt = 116) c28
                                  refine lv_iconst (v := 0) hx hb dX12_isWord_102 (by decide) ?_
                                  refine lv_istore (lv' := [(8, .int 0), (9, .int 2), (0, .ref h), (1, .int 3), (2, .int 108), (3, .int 101), (4, .int 116), (5, .int 0), (6, .int 0), (7, .int 0)]) hx hb dX12_isWord_103 hl (by decide) rfl (fun ls hl => ?_)
                                  refine lv_iinc (v := 3) (lv' := [(9, .int 3), (8, .int 0), (0, .ref h), (1, .int 3), (2, .int 108), (3, .int 101), (4, .int 116), (5, .int 0), (6, .int 0), (7, .int 0)]) hx hb dX12_isWord_105 hl (k := 1) rfl (by decide) (by decide) rfl (fun ls hl => ?_)
                                  refine lv_goto (tgt := 18) hx hb dX12_isWord_108 (by decide) ?_
                                  refine lv_iload hx hb dX12_isWord_18 (lv_at hl 0 rfl) ?_
                                  refine lv_iload_n hx hb dX12_isWord_20 rfl (lv_at hl 3 rfl) ?_
                                  refine lv_icmp_ge (tgt := 111) hx hb dX12_isWord_21 (by decide) (fun c29 => ?_) (fun c29 => ?_)
                                  · skip
                                    refine lv_iload hx hb dX12_isWord_111 (lv_at hl 1 rfl) ?_
                                    have : (0 : Int32).toInt = 0 := (by decide)
                                    exact W.zret (v := 0) hx hb hr rfl (fun t ht9 hW => ⟨0, rfl, ⟨⟨by decide, by decide⟩, (show (((0 : Int32).toInt = 1 ∧ w_let (fun j => sg ((fa 12 32) j).toInt) ((iv 12 37) : Int32).toInt (((iv 12 37) : Int32).toInt + ((iv 12 38) : Int32).toInt)) ∨ ((0 : Int32).toInt = 0 ∧ ¬ w_let (fun j => sg ((fa 12 32) j).toInt) ((iv 12 37) : Int32).toInt (((iv 12 37) : Int32).toInt + ((iv 12 38) : Int32).toInt))) from (by have q0 := congrArg Int32.toInt (ev7.trans (congrArg (fa 12 32) (show (v6 : Int32).toNatClampNeg = ((iv 12 37).toInt).toNat + 0 from (by show (v6 : Int32).toInt.toNat = _; omega)))); have s0 := sg_i (v7 : Int32).toInt; rw [q0] at s0; have q1 := congrArg Int32.toInt (ev15.trans (congrArg (fa 12 32) (show (v14 : Int32).toNatClampNeg = ((iv 12 37).toInt).toNat + 1 from (by show (v14 : Int32).toInt.toNat = _; omega)))); have s1 := sg_i (v15 : Int32).toInt; rw [q1] at s1; have q2 := congrArg Int32.toInt (ev24.trans (congrArg (fa 12 32) (show (v23 : Int32).toNatClampNeg = ((iv 12 37).toInt).toNat + 2 from (by show (v23 : Int32).toInt.toNat = _; omega)))); have s2 := sg_i (v24 : Int32).toInt; rw [q2] at s2; exact Or.inr ⟨by omega, fun h9 => (by have h8 : ((iv 12 37).toInt + (iv 12 38).toInt) - (iv 12 37).toInt = 3 ∧ sg (fa 12 32 (((iv 12 37).toInt).toNat + 0)).toInt = 108 ∧ sg (fa 12 32 (((iv 12 37).toInt).toNat + 1)).toInt = 101 ∧ sg (fa 12 32 (((iv 12 37).toInt).toNat + 2)).toInt = 116 := h9; have h7 := h8.2.2.2; clear h8 h9; omega)⟩)), (show ((0 : Int32).toInt = 0 ∨ ((iv 12 38) : Int32).toInt = 3) from by omega)⟩, ht9⟩) (fun q hq => by cases hq) dX12_isWord_113
                                  · exact absurd c29 (by decide)
                                · have fc28 := z_eq (rfl : (v24).toInt = _) (by decide : (116 : Int32).toInt = 116) c28
                                  refine lv_iconst (v := 1) hx hb dX12_isWord_98 (by decide) ?_
                                  refine lv_goto (tgt := 103) hx hb dX12_isWord_99 (by decide) ?_
                                  refine lv_istore (lv' := [(8, .int 1), (9, .int 2), (0, .ref h), (1, .int 3), (2, .int 108), (3, .int 101), (4, .int 116), (5, .int 0), (6, .int 0), (7, .int 0)]) hx hb dX12_isWord_103 hl (by decide) rfl (fun ls hl => ?_)
                                  refine lv_iinc (v := 3) (lv' := [(9, .int 3), (8, .int 1), (0, .ref h), (1, .int 3), (2, .int 108), (3, .int 101), (4, .int 116), (5, .int 0), (6, .int 0), (7, .int 0)]) hx hb dX12_isWord_105 hl (k := 1) rfl (by decide) (by decide) rfl (fun ls hl => ?_)
                                  refine lv_goto (tgt := 18) hx hb dX12_isWord_108 (by decide) ?_
                                  refine lv_iload hx hb dX12_isWord_18 (lv_at hl 0 rfl) ?_
                                  refine lv_iload_n hx hb dX12_isWord_20 rfl (lv_at hl 3 rfl) ?_
                                  refine lv_icmp_ge (tgt := 111) hx hb dX12_isWord_21 (by decide) (fun c30 => ?_) (fun c30 => ?_)
                                  · skip
                                    refine lv_iload hx hb dX12_isWord_111 (lv_at hl 1 rfl) ?_
                                    have : (1 : Int32).toInt = 1 := (by decide)
                                    exact W.zret (v := 1) hx hb hr rfl (fun t ht9 hW => ⟨1, rfl, ⟨⟨by decide, by decide⟩, (show (((1 : Int32).toInt = 1 ∧ w_let (fun j => sg ((fa 12 32) j).toInt) ((iv 12 37) : Int32).toInt (((iv 12 37) : Int32).toInt + ((iv 12 38) : Int32).toInt)) ∨ ((1 : Int32).toInt = 0 ∧ ¬ w_let (fun j => sg ((fa 12 32) j).toInt) ((iv 12 37) : Int32).toInt (((iv 12 37) : Int32).toInt + ((iv 12 38) : Int32).toInt))) from (by have q0 := congrArg Int32.toInt (ev7.trans (congrArg (fa 12 32) (show (v6 : Int32).toNatClampNeg = ((iv 12 37).toInt).toNat + 0 from (by show (v6 : Int32).toInt.toNat = _; omega)))); have s0 := sg_i (v7 : Int32).toInt; rw [q0] at s0; have q1 := congrArg Int32.toInt (ev15.trans (congrArg (fa 12 32) (show (v14 : Int32).toNatClampNeg = ((iv 12 37).toInt).toNat + 1 from (by show (v14 : Int32).toInt.toNat = _; omega)))); have s1 := sg_i (v15 : Int32).toInt; rw [q1] at s1; have q2 := congrArg Int32.toInt (ev24.trans (congrArg (fa 12 32) (show (v23 : Int32).toNatClampNeg = ((iv 12 37).toInt).toNat + 2 from (by show (v23 : Int32).toInt.toNat = _; omega)))); have s2 := sg_i (v24 : Int32).toInt; rw [q2] at s2; exact Or.inl ⟨by omega, (show ((iv 12 37).toInt + (iv 12 38).toInt) - (iv 12 37).toInt = 3 ∧ sg (fa 12 32 (((iv 12 37).toInt).toNat + 0)).toInt = 108 ∧ sg (fa 12 32 (((iv 12 37).toInt).toNat + 1)).toInt = 101 ∧ sg (fa 12 32 (((iv 12 37).toInt).toNat + 2)).toInt = 116 from ⟨by omega, by omega, by omega, by omega⟩)⟩)), (show ((1 : Int32).toInt = 0 ∨ ((iv 12 38) : Int32).toInt = 3) from by omega)⟩, ht9⟩) (fun q hq => by cases hq) dX12_isWord_113
                                  · exact absurd c30 (by decide)
                            · exact absurd c26 (by decide)
                          · exact absurd c25 (by decide)
                · exact absurd c16 (by decide)
set_option maxHeartbeats 4000000 in
set_option maxRecDepth 100000 in
/-- X12_isWord -/
theorem c_X12_isWord_r_take (l : Launch) (dC : Nat → ClassId) (dI : Nat → Nat → Nat) (h : Nat) (g : Nat → Nat → Nat) (ca : Nat → Nat → ClassId) (iv : Nat → Nat → Int32) (lv : Nat → Nat → Int64) (fa : Nat → Nat → Nat → Int32) (la : Nat → Nat → Nat → Int64) (hI : IX iv fa) (p_0 : (iv 12 37).toInt + (iv 12 38).toInt ≤ 200) : Met l yX12_isWord (wc yX12_isWord cX12_isWord 10 (some .boolean)) ({ frames := 0, cells := 0, slots := 0, locals := 0 } : Room) (pR (dC, dI) classes (WM h g ca iv lv fa la) (TM ca) [.ref h, .int 4, .int 116, .int 97, .int 107, .int 101, .int 0, .int 0]) (vp_Si (fun r => (0 ≤ r.toInt ∧ r.toInt ≤ 1) ∧ (((r.toInt = 1 ∧ w_take (fun j => sg ((fa 12 32) j).toInt) (iv 12 37).toInt ((iv 12 37).toInt + (iv 12 38).toInt)) ∨ (r.toInt = 0 ∧ ¬ w_take (fun j => sg ((fa 12 32) j).toInt) (iv 12 37).toInt ((iv 12 37).toInt + (iv 12 38).toInt)))) ∧ ((r.toInt = 0 ∨ (iv 12 38).toInt = 4)))) 0 0 (fun _ => False) := by
  refine Met.ofW (cc := cX12_isWord) (maxL := 10) (ret := (some .boolean)) (by decide) rfl ?_
  intro p e s m args below meth c s₁ B hml hv
  obtain ⟨rfl, hP, hK⟩ := hv
  have hx := B.exec
  have hb := B.bytes
  have hr := B.returns
  have ht := tb_tl (atoms_spec (ws := wc yX12_isWord cX12_isWord 10 (some .boolean)) B.pre)
  have hown : s.vm.findClass RX12 = some m.cls := findClass_of_methodNamed B.named
  have hlocks := B.notSynchronized
  have hl := lv_entry [.ref h, .int 4, .int 116, .int 97, .int 107, .int 101, .int 0, .int 0] (n := 10) (Nat.le_of_ble_eq_true rfl)
  rw [lg_entry_eq]
  generalize (lg_sl [.ref h, .int 4, .int 116, .int 97, .int 107, .int 101, .int 0, .int 0] ++ List.replicate (10 - (lg_sl [.ref h, .int 4, .int 116, .int 97, .int 107, .int 101, .int 0, .int 0]).length) Slot.unset).toArray = ls at hl ⊢
  have hl : lv_has ls 10 [(0, .ref h), (1, .int 4), (2, .int 116), (3, .int 97), (4, .int 107), (5, .int 101), (6, .int 0), (7, .int 0)] := hl
  refine lv_aload_n hx hb dX12_isWord_0 rfl (lv_at hl 0 rfl) ?_
  have i_12_38 : 0 ≤ (iv 12 38).toInt ∧ (iv 12 38).toInt ≤ 200 := hI.1 12 38
  refine gM_12_38 hx hb ht hown hK hP m_1177 (v := (iv 12 38)) rfl dX12_isWord_1 ?_
  refine lv_iload_n hx hb dX12_isWord_4 rfl (lv_at hl 1 rfl) ?_
  refine lv_icmp_ne (tgt := 12) hx hb dX12_isWord_5 (by decide) (fun c1 => ?_) (fun c1 => ?_)
  · have fc1 := z_ne (rfl : ((iv 12 38)).toInt = _) (by decide : (4 : Int32).toInt = 4) c1
    refine lv_iconst (v := 0) hx hb dX12_isWord_12 (by decide) ?_
    refine lv_istore (lv' := [(8, .int 0), (0, .ref h), (1, .int 4), (2, .int 116), (3, .int 97), (4, .int 107), (5, .int 101), (6, .int 0), (7, .int 0)]) hx hb dX12_isWord_13 hl (by decide) rfl (fun ls hl => ?_)
    refine lv_iconst (v := 0) hx hb dX12_isWord_15 (by decide) ?_
    refine lv_istore (lv' := [(9, .int 0), (8, .int 0), (0, .ref h), (1, .int 4), (2, .int 116), (3, .int 97), (4, .int 107), (5, .int 101), (6, .int 0), (7, .int 0)]) hx hb dX12_isWord_16 hl (by decide) rfl (fun ls hl => ?_)
    refine lv_iload hx hb dX12_isWord_18 (lv_at hl 0 rfl) ?_
    refine lv_iload_n hx hb dX12_isWord_20 rfl (lv_at hl 3 rfl) ?_
    refine lv_icmp_ge (tgt := 111) hx hb dX12_isWord_21 (by decide) (fun c2 => ?_) (fun c2 => ?_)
    · exact absurd c2 (by decide)
    · skip
      refine lv_iload hx hb dX12_isWord_24 (lv_at hl 1 rfl) ?_
      refine lv_if_eq (tgt := 111) hx hb dX12_isWord_26 (by decide) (fun c3 => ?_) (fun c3 => ?_)
      · skip
        refine lv_iload hx hb dX12_isWord_111 (lv_at hl 1 rfl) ?_
        have : (0 : Int32).toInt = 0 := (by decide)
        have i_12_37 : 0 ≤ (iv 12 37).toInt ∧ (iv 12 37).toInt ≤ 200 := hI.1 12 37
        exact W.zret (v := 0) hx hb hr rfl (fun t ht9 hW => ⟨0, rfl, ⟨⟨by decide, by decide⟩, (show (((0 : Int32).toInt = 1 ∧ w_take (fun j => sg ((fa 12 32) j).toInt) ((iv 12 37) : Int32).toInt (((iv 12 37) : Int32).toInt + ((iv 12 38) : Int32).toInt)) ∨ ((0 : Int32).toInt = 0 ∧ ¬ w_take (fun j => sg ((fa 12 32) j).toInt) ((iv 12 37) : Int32).toInt (((iv 12 37) : Int32).toInt + ((iv 12 38) : Int32).toInt))) from (by exact Or.inr ⟨by omega, fun h9 => (by have h8 : ((iv 12 37).toInt + (iv 12 38).toInt) - (iv 12 37).toInt = 4 ∧ sg (fa 12 32 (((iv 12 37).toInt).toNat + 0)).toInt = 116 ∧ sg (fa 12 32 (((iv 12 37).toInt).toNat + 1)).toInt = 97 ∧ sg (fa 12 32 (((iv 12 37).toInt).toNat + 2)).toInt = 107 ∧ sg (fa 12 32 (((iv 12 37).toInt).toNat + 3)).toInt = 101 := h9; have h7 := h8.1; omega)⟩)), (show ((0 : Int32).toInt = 0 ∨ ((iv 12 38) : Int32).toInt = 4) from by omega)⟩, ht9⟩) (fun q hq => by cases hq) dX12_isWord_113
      · exact absurd rfl c3
  · have fc1 := z_eq (rfl : ((iv 12 38)).toInt = _) (by decide : (4 : Int32).toInt = 4) c1
    refine lv_iconst (v := 1) hx hb dX12_isWord_8 (by decide) ?_
    refine lv_goto (tgt := 13) hx hb dX12_isWord_9 (by decide) ?_
    refine lv_istore (lv' := [(8, .int 1), (0, .ref h), (1, .int 4), (2, .int 116), (3, .int 97), (4, .int 107), (5, .int 101), (6, .int 0), (7, .int 0)]) hx hb dX12_isWord_13 hl (by decide) rfl (fun ls hl => ?_)
    refine lv_iconst (v := 0) hx hb dX12_isWord_15 (by decide) ?_
    refine lv_istore (lv' := [(9, .int 0), (8, .int 1), (0, .ref h), (1, .int 4), (2, .int 116), (3, .int 97), (4, .int 107), (5, .int 101), (6, .int 0), (7, .int 0)]) hx hb dX12_isWord_16 hl (by decide) rfl (fun ls hl => ?_)
    refine lv_iload hx hb dX12_isWord_18 (lv_at hl 0 rfl) ?_
    refine lv_iload_n hx hb dX12_isWord_20 rfl (lv_at hl 3 rfl) ?_
    refine lv_icmp_ge (tgt := 111) hx hb dX12_isWord_21 (by decide) (fun c4 => ?_) (fun c4 => ?_)
    · exact absurd c4 (by decide)
    · skip
      refine lv_iload hx hb dX12_isWord_24 (lv_at hl 1 rfl) ?_
      refine lv_if_eq (tgt := 111) hx hb dX12_isWord_26 (by decide) (fun c5 => ?_) (fun c5 => ?_)
      · exact absurd c5 (by decide)
      · skip
        refine lv_aload_n hx hb dX12_isWord_29 rfl (lv_at hl 2 rfl) ?_
        refine gM_12_32 hx hb ht hown hK hP m_1171 dX12_isWord_30 ?_
        refine lv_aload_n hx hb dX12_isWord_33 rfl (lv_at hl 2 rfl) ?_
        have i_12_37 : 0 ≤ (iv 12 37).toInt ∧ (iv 12 37).toInt ≤ 200 := hI.1 12 37
        refine gM_12_37 hx hb ht hown hK hP m_1176 (v := (iv 12 37)) rfl dX12_isWord_34 ?_
        refine lv_iload hx hb dX12_isWord_37 (lv_at hl 0 rfl) ?_
        refine lv_iadd hx hb dX12_isWord_39 ?_
        refine lv_topi (fun v6 ev6 => ?_)
        have tv6 := z_add ev6 (rfl : ((iv 12 37)).toInt = _) (by decide : (0 : Int32).toInt = 0) (by omega) (by omega)
        have : 0 ≤ (v6 : Int32).toInt ∧ (v6 : Int32).toInt ≤ 199 := ⟨by omega, by omega⟩
        refine lM_12_32 hx hb hK hP (f := (fa 12 32)) rfl (vp_in_iff.mpr ⟨by omega, by omega⟩) dX12_isWord_40 ?_
        refine lv_topi (fun v7 ev7 => ?_)
        refine lv_iload hx hb dX12_isWord_41 (lv_at hl 0 rfl) ?_
        refine lv_if_ne (tgt := 50) hx hb dX12_isWord_43 (by decide) (fun c8 => ?_) (fun c8 => ?_)
        · exact absurd rfl c8
        · skip
          refine lv_iload_n hx hb dX12_isWord_46 rfl (lv_at hl 4 rfl) ?_
          refine lv_goto (tgt := 95) hx hb dX12_isWord_47 (by decide) ?_
          refine lv_icmp_ne (tgt := 102) hx hb dX12_isWord_95 (by decide) (fun c9 => ?_) (fun c9 => ?_)
          · have fc9 := z_ne (rfl : (v7).toInt = _) (by decide : (116 : Int32).toInt = 116) c9
            refine lv_iconst (v := 0) hx hb dX12_isWord_102 (by decide) ?_
            refine lv_istore (lv' := [(8, .int 0), (9, .int 0), (0, .ref h), (1, .int 4), (2, .int 116), (3, .int 97), (4, .int 107), (5, .int 101), (6, .int 0), (7, .int 0)]) hx hb dX12_isWord_103 hl (by decide) rfl (fun ls hl => ?_)
            refine lv_iinc (v := 1) (lv' := [(9, .int 1), (8, .int 0), (0, .ref h), (1, .int 4), (2, .int 116), (3, .int 97), (4, .int 107), (5, .int 101), (6, .int 0), (7, .int 0)]) hx hb dX12_isWord_105 hl (k := 1) rfl (by decide) (by decide) rfl (fun ls hl => ?_)
            refine lv_goto (tgt := 18) hx hb dX12_isWord_108 (by decide) ?_
            refine lv_iload hx hb dX12_isWord_18 (lv_at hl 0 rfl) ?_
            refine lv_iload_n hx hb dX12_isWord_20 rfl (lv_at hl 3 rfl) ?_
            refine lv_icmp_ge (tgt := 111) hx hb dX12_isWord_21 (by decide) (fun c10 => ?_) (fun c10 => ?_)
            · exact absurd c10 (by decide)
            · skip
              refine lv_iload hx hb dX12_isWord_24 (lv_at hl 1 rfl) ?_
              refine lv_if_eq (tgt := 111) hx hb dX12_isWord_26 (by decide) (fun c11 => ?_) (fun c11 => ?_)
              · skip
                refine lv_iload hx hb dX12_isWord_111 (lv_at hl 1 rfl) ?_
                have : (0 : Int32).toInt = 0 := (by decide)
                exact W.zret (v := 0) hx hb hr rfl (fun t ht9 hW => ⟨0, rfl, ⟨⟨by decide, by decide⟩, (show (((0 : Int32).toInt = 1 ∧ w_take (fun j => sg ((fa 12 32) j).toInt) ((iv 12 37) : Int32).toInt (((iv 12 37) : Int32).toInt + ((iv 12 38) : Int32).toInt)) ∨ ((0 : Int32).toInt = 0 ∧ ¬ w_take (fun j => sg ((fa 12 32) j).toInt) ((iv 12 37) : Int32).toInt (((iv 12 37) : Int32).toInt + ((iv 12 38) : Int32).toInt))) from (by have q0 := congrArg Int32.toInt (ev7.trans (congrArg (fa 12 32) (show (v6 : Int32).toNatClampNeg = ((iv 12 37).toInt).toNat + 0 from (by show (v6 : Int32).toInt.toNat = _; omega)))); have s0 := sg_i (v7 : Int32).toInt; rw [q0] at s0; exact Or.inr ⟨by omega, fun h9 => (by have h8 : ((iv 12 37).toInt + (iv 12 38).toInt) - (iv 12 37).toInt = 4 ∧ sg (fa 12 32 (((iv 12 37).toInt).toNat + 0)).toInt = 116 ∧ sg (fa 12 32 (((iv 12 37).toInt).toNat + 1)).toInt = 97 ∧ sg (fa 12 32 (((iv 12 37).toInt).toNat + 2)).toInt = 107 ∧ sg (fa 12 32 (((iv 12 37).toInt).toNat + 3)).toInt = 101 := h9; have h7 := h8.2.1; clear h8 h9; omega)⟩)), (show ((0 : Int32).toInt = 0 ∨ ((iv 12 38) : Int32).toInt = 4) from by omega)⟩, ht9⟩) (fun q hq => by cases hq) dX12_isWord_113
              · exact absurd rfl c11
          · have fc9 := z_eq (rfl : (v7).toInt = _) (by decide : (116 : Int32).toInt = 116) c9
            refine lv_iconst (v := 1) hx hb dX12_isWord_98 (by decide) ?_
            refine lv_goto (tgt := 103) hx hb dX12_isWord_99 (by decide) ?_
            refine lv_istore (lv' := [(8, .int 1), (9, .int 0), (0, .ref h), (1, .int 4), (2, .int 116), (3, .int 97), (4, .int 107), (5, .int 101), (6, .int 0), (7, .int 0)]) hx hb dX12_isWord_103 hl (by decide) rfl (fun ls hl => ?_)
            refine lv_iinc (v := 1) (lv' := [(9, .int 1), (8, .int 1), (0, .ref h), (1, .int 4), (2, .int 116), (3, .int 97), (4, .int 107), (5, .int 101), (6, .int 0), (7, .int 0)]) hx hb dX12_isWord_105 hl (k := 1) rfl (by decide) (by decide) rfl (fun ls hl => ?_)
            refine lv_goto (tgt := 18) hx hb dX12_isWord_108 (by decide) ?_
            refine lv_iload hx hb dX12_isWord_18 (lv_at hl 0 rfl) ?_
            refine lv_iload_n hx hb dX12_isWord_20 rfl (lv_at hl 3 rfl) ?_
            refine lv_icmp_ge (tgt := 111) hx hb dX12_isWord_21 (by decide) (fun c12 => ?_) (fun c12 => ?_)
            · exact absurd c12 (by decide)
            · skip
              refine lv_iload hx hb dX12_isWord_24 (lv_at hl 1 rfl) ?_
              refine lv_if_eq (tgt := 111) hx hb dX12_isWord_26 (by decide) (fun c13 => ?_) (fun c13 => ?_)
              · exact absurd c13 (by decide)
              · skip
                refine lv_aload_n hx hb dX12_isWord_29 rfl (lv_at hl 2 rfl) ?_
                refine gM_12_32 hx hb ht hown hK hP m_1171 dX12_isWord_30 ?_
                refine lv_aload_n hx hb dX12_isWord_33 rfl (lv_at hl 2 rfl) ?_
                refine gM_12_37 hx hb ht hown hK hP m_1176 (v := (iv 12 37)) rfl dX12_isWord_34 ?_
                refine lv_iload hx hb dX12_isWord_37 (lv_at hl 0 rfl) ?_
                refine lv_iadd hx hb dX12_isWord_39 ?_
                refine lv_topi (fun v14 ev14 => ?_)
                have tv14 := z_add ev14 (rfl : ((iv 12 37)).toInt = _) (by decide : (1 : Int32).toInt = 1) (by omega) (by omega)
                have : 0 ≤ (v14 : Int32).toInt ∧ (v14 : Int32).toInt ≤ 199 := ⟨by omega, by omega⟩
                refine lM_12_32 hx hb hK hP (f := (fa 12 32)) rfl (vp_in_iff.mpr ⟨by omega, by omega⟩) dX12_isWord_40 ?_
                refine lv_topi (fun v15 ev15 => ?_)
                refine lv_iload hx hb dX12_isWord_41 (lv_at hl 0 rfl) ?_
                refine lv_if_ne (tgt := 50) hx hb dX12_isWord_43 (by decide) (fun c16 => ?_) (fun c16 => ?_)
                · skip
                  refine lv_iload hx hb dX12_isWord_50 (lv_at hl 0 rfl) ?_
                  refine lv_iconst (v := 1) hx hb dX12_isWord_52 (by decide) ?_
                  refine lv_icmp_ne (tgt := 60) hx hb dX12_isWord_53 (by decide) (fun c17 => ?_) (fun c17 => ?_)
                  · exact absurd rfl c17
                  · skip
                    refine lv_iload_n hx hb dX12_isWord_56 rfl (lv_at hl 5 rfl) ?_
                    refine lv_goto (tgt := 95) hx hb dX12_isWord_57 (by decide) ?_
                    refine lv_icmp_ne (tgt := 102) hx hb dX12_isWord_95 (by decide) (fun c18 => ?_) (fun c18 => ?_)
                    · have fc18 := z_ne (rfl : (v15).toInt = _) (by decide : (97 : Int32).toInt = 97) c18
                      refine lv_iconst (v := 0) hx hb dX12_isWord_102 (by decide) ?_
                      refine lv_istore (lv' := [(8, .int 0), (9, .int 1), (0, .ref h), (1, .int 4), (2, .int 116), (3, .int 97), (4, .int 107), (5, .int 101), (6, .int 0), (7, .int 0)]) hx hb dX12_isWord_103 hl (by decide) rfl (fun ls hl => ?_)
                      refine lv_iinc (v := 2) (lv' := [(9, .int 2), (8, .int 0), (0, .ref h), (1, .int 4), (2, .int 116), (3, .int 97), (4, .int 107), (5, .int 101), (6, .int 0), (7, .int 0)]) hx hb dX12_isWord_105 hl (k := 1) rfl (by decide) (by decide) rfl (fun ls hl => ?_)
                      refine lv_goto (tgt := 18) hx hb dX12_isWord_108 (by decide) ?_
                      refine lv_iload hx hb dX12_isWord_18 (lv_at hl 0 rfl) ?_
                      refine lv_iload_n hx hb dX12_isWord_20 rfl (lv_at hl 3 rfl) ?_
                      refine lv_icmp_ge (tgt := 111) hx hb dX12_isWord_21 (by decide) (fun c19 => ?_) (fun c19 => ?_)
                      · exact absurd c19 (by decide)
                      · skip
                        refine lv_iload hx hb dX12_isWord_24 (lv_at hl 1 rfl) ?_
                        refine lv_if_eq (tgt := 111) hx hb dX12_isWord_26 (by decide) (fun c20 => ?_) (fun c20 => ?_)
                        · skip
                          refine lv_iload hx hb dX12_isWord_111 (lv_at hl 1 rfl) ?_
                          have : (0 : Int32).toInt = 0 := (by decide)
                          exact W.zret (v := 0) hx hb hr rfl (fun t ht9 hW => ⟨0, rfl, ⟨⟨by decide, by decide⟩, (show (((0 : Int32).toInt = 1 ∧ w_take (fun j => sg ((fa 12 32) j).toInt) ((iv 12 37) : Int32).toInt (((iv 12 37) : Int32).toInt + ((iv 12 38) : Int32).toInt)) ∨ ((0 : Int32).toInt = 0 ∧ ¬ w_take (fun j => sg ((fa 12 32) j).toInt) ((iv 12 37) : Int32).toInt (((iv 12 37) : Int32).toInt + ((iv 12 38) : Int32).toInt))) from (by have q0 := congrArg Int32.toInt (ev7.trans (congrArg (fa 12 32) (show (v6 : Int32).toNatClampNeg = ((iv 12 37).toInt).toNat + 0 from (by show (v6 : Int32).toInt.toNat = _; omega)))); have s0 := sg_i (v7 : Int32).toInt; rw [q0] at s0; have q1 := congrArg Int32.toInt (ev15.trans (congrArg (fa 12 32) (show (v14 : Int32).toNatClampNeg = ((iv 12 37).toInt).toNat + 1 from (by show (v14 : Int32).toInt.toNat = _; omega)))); have s1 := sg_i (v15 : Int32).toInt; rw [q1] at s1; exact Or.inr ⟨by omega, fun h9 => (by have h8 : ((iv 12 37).toInt + (iv 12 38).toInt) - (iv 12 37).toInt = 4 ∧ sg (fa 12 32 (((iv 12 37).toInt).toNat + 0)).toInt = 116 ∧ sg (fa 12 32 (((iv 12 37).toInt).toNat + 1)).toInt = 97 ∧ sg (fa 12 32 (((iv 12 37).toInt).toNat + 2)).toInt = 107 ∧ sg (fa 12 32 (((iv 12 37).toInt).toNat + 3)).toInt = 101 := h9; have h7 := h8.2.2.1; clear h8 h9; omega)⟩)), (show ((0 : Int32).toInt = 0 ∨ ((iv 12 38) : Int32).toInt = 4) from by omega)⟩, ht9⟩) (fun q hq => by cases hq) dX12_isWord_113
                        · exact absurd rfl c20
                    · have fc18 := z_eq (rfl : (v15).toInt = _) (by decide : (97 : Int32).toInt = 97) c18
                      refine lv_iconst (v := 1) hx hb dX12_isWord_98 (by decide) ?_
                      refine lv_goto (tgt := 103) hx hb dX12_isWord_99 (by decide) ?_
                      refine lv_istore (lv' := [(8, .int 1), (9, .int 1), (0, .ref h), (1, .int 4), (2, .int 116), (3, .int 97), (4, .int 107), (5, .int 101), (6, .int 0), (7, .int 0)]) hx hb dX12_isWord_103 hl (by decide) rfl (fun ls hl => ?_)
                      refine lv_iinc (v := 2) (lv' := [(9, .int 2), (8, .int 1), (0, .ref h), (1, .int 4), (2, .int 116), (3, .int 97), (4, .int 107), (5, .int 101), (6, .int 0), (7, .int 0)]) hx hb dX12_isWord_105 hl (k := 1) rfl (by decide) (by decide) rfl (fun ls hl => ?_)
                      refine lv_goto (tgt := 18) hx hb dX12_isWord_108 (by decide) ?_
                      refine lv_iload hx hb dX12_isWord_18 (lv_at hl 0 rfl) ?_
                      refine lv_iload_n hx hb dX12_isWord_20 rfl (lv_at hl 3 rfl) ?_
                      refine lv_icmp_ge (tgt := 111) hx hb dX12_isWord_21 (by decide) (fun c21 => ?_) (fun c21 => ?_)
                      · exact absurd c21 (by decide)
                      · skip
                        refine lv_iload hx hb dX12_isWord_24 (lv_at hl 1 rfl) ?_
                        refine lv_if_eq (tgt := 111) hx hb dX12_isWord_26 (by decide) (fun c22 => ?_) (fun c22 => ?_)
                        · exact absurd c22 (by decide)
                        · skip
                          refine lv_aload_n hx hb dX12_isWord_29 rfl (lv_at hl 2 rfl) ?_
                          refine gM_12_32 hx hb ht hown hK hP m_1171 dX12_isWord_30 ?_
                          refine lv_aload_n hx hb dX12_isWord_33 rfl (lv_at hl 2 rfl) ?_
                          refine gM_12_37 hx hb ht hown hK hP m_1176 (v := (iv 12 37)) rfl dX12_isWord_34 ?_
                          refine lv_iload hx hb dX12_isWord_37 (lv_at hl 0 rfl) ?_
                          refine lv_iadd hx hb dX12_isWord_39 ?_
                          refine lv_topi (fun v23 ev23 => ?_)
                          have tv23 := z_add ev23 (rfl : ((iv 12 37)).toInt = _) (by decide : (2 : Int32).toInt = 2) (by omega) (by omega)
                          have : 0 ≤ (v23 : Int32).toInt ∧ (v23 : Int32).toInt ≤ 199 := ⟨by omega, by omega⟩
                          refine lM_12_32 hx hb hK hP (f := (fa 12 32)) rfl (vp_in_iff.mpr ⟨by omega, by omega⟩) dX12_isWord_40 ?_
                          refine lv_topi (fun v24 ev24 => ?_)
                          refine lv_iload hx hb dX12_isWord_41 (lv_at hl 0 rfl) ?_
                          refine lv_if_ne (tgt := 50) hx hb dX12_isWord_43 (by decide) (fun c25 => ?_) (fun c25 => ?_)
                          · skip
                            refine lv_iload hx hb dX12_isWord_50 (lv_at hl 0 rfl) ?_
                            refine lv_iconst (v := 1) hx hb dX12_isWord_52 (by decide) ?_
                            refine lv_icmp_ne (tgt := 60) hx hb dX12_isWord_53 (by decide) (fun c26 => ?_) (fun c26 => ?_)
                            · skip
                              refine lv_iload hx hb dX12_isWord_60 (lv_at hl 0 rfl) ?_
                              refine lv_iconst (v := 2) hx hb dX12_isWord_62 (by decide) ?_
                              refine lv_icmp_ne (tgt := 71) hx hb dX12_isWord_63 (by decide) (fun c27 => ?_) (fun c27 => ?_)
                              · exact absurd rfl c27
                              · skip
                                refine lv_iload hx hb dX12_isWord_66 (lv_at hl 6 rfl) ?_
                                refine lv_goto (tgt := 95) hx hb dX12_isWord_68 (by decide) ?_
                                refine lv_icmp_ne (tgt := 102) hx hb dX12_isWord_95 (by decide) (fun c28 => ?_) (fun c28 => ?_)
                                · have fc28 := z_ne (rfl : (v24).toInt = _) (by decide : (107 : Int32).toInt = 107) c28
                                  refine lv_iconst (v := 0) hx hb dX12_isWord_102 (by decide) ?_
                                  refine lv_istore (lv' := [(8, .int 0), (9, .int 2), (0, .ref h), (1, .int 4), (2, .int 116), (3, .int 97), (4, .int 107), (5, .int 101), (6, .int 0), (7, .int 0)]) hx hb dX12_isWord_103 hl (by decide) rfl (fun ls hl => ?_)
                                  refine lv_iinc (v := 3) (lv' := [(9, .int 3), (8, .int 0), (0, .ref h), (1, .int 4), (2, .int 116), (3, .int 97), (4, .int 107), (5, .int 101), (6, .int 0), (7, .int 0)]) hx hb dX12_isWord_105 hl (k := 1) rfl (by decide) (by decide) rfl (fun ls hl => ?_)
                                  refine lv_goto (tgt := 18) hx hb dX12_isWord_108 (by decide) ?_
                                  refine lv_iload hx hb dX12_isWord_18 (lv_at hl 0 rfl) ?_
                                  refine lv_iload_n hx hb dX12_isWord_20 rfl (lv_at hl 3 rfl) ?_
                                  refine lv_icmp_ge (tgt := 111) hx hb dX12_isWord_21 (by decide) (fun c29 => ?_) (fun c29 => ?_)
                                  · exact absurd c29 (by decide)
                                  · skip
                                    refine lv_iload hx hb dX12_isWord_24 (lv_at hl 1 rfl) ?_
                                    refine lv_if_eq (tgt := 111) hx hb dX12_isWord_26 (by decide) (fun c30 => ?_) (fun c30 => ?_)
                                    · skip
                                      refine lv_iload hx hb dX12_isWord_111 (lv_at hl 1 rfl) ?_
                                      have : (0 : Int32).toInt = 0 := (by decide)
                                      exact W.zret (v := 0) hx hb hr rfl (fun t ht9 hW => ⟨0, rfl, ⟨⟨by decide, by decide⟩, (show (((0 : Int32).toInt = 1 ∧ w_take (fun j => sg ((fa 12 32) j).toInt) ((iv 12 37) : Int32).toInt (((iv 12 37) : Int32).toInt + ((iv 12 38) : Int32).toInt)) ∨ ((0 : Int32).toInt = 0 ∧ ¬ w_take (fun j => sg ((fa 12 32) j).toInt) ((iv 12 37) : Int32).toInt (((iv 12 37) : Int32).toInt + ((iv 12 38) : Int32).toInt))) from (by have q0 := congrArg Int32.toInt (ev7.trans (congrArg (fa 12 32) (show (v6 : Int32).toNatClampNeg = ((iv 12 37).toInt).toNat + 0 from (by show (v6 : Int32).toInt.toNat = _; omega)))); have s0 := sg_i (v7 : Int32).toInt; rw [q0] at s0; have q1 := congrArg Int32.toInt (ev15.trans (congrArg (fa 12 32) (show (v14 : Int32).toNatClampNeg = ((iv 12 37).toInt).toNat + 1 from (by show (v14 : Int32).toInt.toNat = _; omega)))); have s1 := sg_i (v15 : Int32).toInt; rw [q1] at s1; have q2 := congrArg Int32.toInt (ev24.trans (congrArg (fa 12 32) (show (v23 : Int32).toNatClampNeg = ((iv 12 37).toInt).toNat + 2 from (by show (v23 : Int32).toInt.toNat = _; omega)))); have s2 := sg_i (v24 : Int32).toInt; rw [q2] at s2; exact Or.inr ⟨by omega, fun h9 => (by have h8 : ((iv 12 37).toInt + (iv 12 38).toInt) - (iv 12 37).toInt = 4 ∧ sg (fa 12 32 (((iv 12 37).toInt).toNat + 0)).toInt = 116 ∧ sg (fa 12 32 (((iv 12 37).toInt).toNat + 1)).toInt = 97 ∧ sg (fa 12 32 (((iv 12 37).toInt).toNat + 2)).toInt = 107 ∧ sg (fa 12 32 (((iv 12 37).toInt).toNat + 3)).toInt = 101 := h9; have h7 := h8.2.2.2.1; clear h8 h9; omega)⟩)), (show ((0 : Int32).toInt = 0 ∨ ((iv 12 38) : Int32).toInt = 4) from by omega)⟩, ht9⟩) (fun q hq => by cases hq) dX12_isWord_113
                                    · exact absurd rfl c30
                                · have fc28 := z_eq (rfl : (v24).toInt = _) (by decide : (107 : Int32).toInt = 107) c28
                                  refine lv_iconst (v := 1) hx hb dX12_isWord_98 (by decide) ?_
                                  refine lv_goto (tgt := 103) hx hb dX12_isWord_99 (by decide) ?_
                                  refine lv_istore (lv' := [(8, .int 1), (9, .int 2), (0, .ref h), (1, .int 4), (2, .int 116), (3, .int 97), (4, .int 107), (5, .int 101), (6, .int 0), (7, .int 0)]) hx hb dX12_isWord_103 hl (by decide) rfl (fun ls hl => ?_)
                                  refine lv_iinc (v := 3) (lv' := [(9, .int 3), (8, .int 1), (0, .ref h), (1, .int 4), (2, .int 116), (3, .int 97), (4, .int 107), (5, .int 101), (6, .int 0), (7, .int 0)]) hx hb dX12_isWord_105 hl (k := 1) rfl (by decide) (by decide) rfl (fun ls hl => ?_)
                                  refine lv_goto (tgt := 18) hx hb dX12_isWord_108 (by decide) ?_
                                  refine lv_iload hx hb dX12_isWord_18 (lv_at hl 0 rfl) ?_
                                  refine lv_iload_n hx hb dX12_isWord_20 rfl (lv_at hl 3 rfl) ?_
                                  refine lv_icmp_ge (tgt := 111) hx hb dX12_isWord_21 (by decide) (fun c31 => ?_) (fun c31 => ?_)
                                  · exact absurd c31 (by decide)
                                  · skip
                                    refine lv_iload hx hb dX12_isWord_24 (lv_at hl 1 rfl) ?_
                                    refine lv_if_eq (tgt := 111) hx hb dX12_isWord_26 (by decide) (fun c32 => ?_) (fun c32 => ?_)
                                    · exact absurd c32 (by decide)
                                    · skip
                                      refine lv_aload_n hx hb dX12_isWord_29 rfl (lv_at hl 2 rfl) ?_
                                      refine gM_12_32 hx hb ht hown hK hP m_1171 dX12_isWord_30 ?_
                                      refine lv_aload_n hx hb dX12_isWord_33 rfl (lv_at hl 2 rfl) ?_
                                      refine gM_12_37 hx hb ht hown hK hP m_1176 (v := (iv 12 37)) rfl dX12_isWord_34 ?_
                                      refine lv_iload hx hb dX12_isWord_37 (lv_at hl 0 rfl) ?_
                                      refine lv_iadd hx hb dX12_isWord_39 ?_
                                      refine lv_topi (fun v33 ev33 => ?_)
                                      have tv33 := z_add ev33 (rfl : ((iv 12 37)).toInt = _) (by decide : (3 : Int32).toInt = 3) (by omega) (by omega)
                                      have : 0 ≤ (v33 : Int32).toInt ∧ (v33 : Int32).toInt ≤ 199 := ⟨by omega, by omega⟩
                                      refine lM_12_32 hx hb hK hP (f := (fa 12 32)) rfl (vp_in_iff.mpr ⟨by omega, by omega⟩) dX12_isWord_40 ?_
                                      refine lv_topi (fun v34 ev34 => ?_)
                                      refine lv_iload hx hb dX12_isWord_41 (lv_at hl 0 rfl) ?_
                                      refine lv_if_ne (tgt := 50) hx hb dX12_isWord_43 (by decide) (fun c35 => ?_) (fun c35 => ?_)
                                      · skip
                                        refine lv_iload hx hb dX12_isWord_50 (lv_at hl 0 rfl) ?_
                                        refine lv_iconst (v := 1) hx hb dX12_isWord_52 (by decide) ?_
                                        refine lv_icmp_ne (tgt := 60) hx hb dX12_isWord_53 (by decide) (fun c36 => ?_) (fun c36 => ?_)
                                        · skip
                                          refine lv_iload hx hb dX12_isWord_60 (lv_at hl 0 rfl) ?_
                                          refine lv_iconst (v := 2) hx hb dX12_isWord_62 (by decide) ?_
                                          refine lv_icmp_ne (tgt := 71) hx hb dX12_isWord_63 (by decide) (fun c37 => ?_) (fun c37 => ?_)
                                          · skip
                                            refine lv_iload hx hb dX12_isWord_71 (lv_at hl 0 rfl) ?_
                                            refine lv_iconst (v := 3) hx hb dX12_isWord_73 (by decide) ?_
                                            refine lv_icmp_ne (tgt := 82) hx hb dX12_isWord_74 (by decide) (fun c38 => ?_) (fun c38 => ?_)
                                            · exact absurd rfl c38
                                            · skip
                                              refine lv_iload hx hb dX12_isWord_77 (lv_at hl 7 rfl) ?_
                                              refine lv_goto (tgt := 95) hx hb dX12_isWord_79 (by decide) ?_
                                              refine lv_icmp_ne (tgt := 102) hx hb dX12_isWord_95 (by decide) (fun c39 => ?_) (fun c39 => ?_)
                                              · have fc39 := z_ne (rfl : (v34).toInt = _) (by decide : (101 : Int32).toInt = 101) c39
                                                refine lv_iconst (v := 0) hx hb dX12_isWord_102 (by decide) ?_
                                                refine lv_istore (lv' := [(8, .int 0), (9, .int 3), (0, .ref h), (1, .int 4), (2, .int 116), (3, .int 97), (4, .int 107), (5, .int 101), (6, .int 0), (7, .int 0)]) hx hb dX12_isWord_103 hl (by decide) rfl (fun ls hl => ?_)
                                                refine lv_iinc (v := 4) (lv' := [(9, .int 4), (8, .int 0), (0, .ref h), (1, .int 4), (2, .int 116), (3, .int 97), (4, .int 107), (5, .int 101), (6, .int 0), (7, .int 0)]) hx hb dX12_isWord_105 hl (k := 1) rfl (by decide) (by decide) rfl (fun ls hl => ?_)
                                                refine lv_goto (tgt := 18) hx hb dX12_isWord_108 (by decide) ?_
                                                refine lv_iload hx hb dX12_isWord_18 (lv_at hl 0 rfl) ?_
                                                refine lv_iload_n hx hb dX12_isWord_20 rfl (lv_at hl 3 rfl) ?_
                                                refine lv_icmp_ge (tgt := 111) hx hb dX12_isWord_21 (by decide) (fun c40 => ?_) (fun c40 => ?_)
                                                · skip
                                                  refine lv_iload hx hb dX12_isWord_111 (lv_at hl 1 rfl) ?_
                                                  have : (0 : Int32).toInt = 0 := (by decide)
                                                  exact W.zret (v := 0) hx hb hr rfl (fun t ht9 hW => ⟨0, rfl, ⟨⟨by decide, by decide⟩, (show (((0 : Int32).toInt = 1 ∧ w_take (fun j => sg ((fa 12 32) j).toInt) ((iv 12 37) : Int32).toInt (((iv 12 37) : Int32).toInt + ((iv 12 38) : Int32).toInt)) ∨ ((0 : Int32).toInt = 0 ∧ ¬ w_take (fun j => sg ((fa 12 32) j).toInt) ((iv 12 37) : Int32).toInt (((iv 12 37) : Int32).toInt + ((iv 12 38) : Int32).toInt))) from (by have q0 := congrArg Int32.toInt (ev7.trans (congrArg (fa 12 32) (show (v6 : Int32).toNatClampNeg = ((iv 12 37).toInt).toNat + 0 from (by show (v6 : Int32).toInt.toNat = _; omega)))); have s0 := sg_i (v7 : Int32).toInt; rw [q0] at s0; have q1 := congrArg Int32.toInt (ev15.trans (congrArg (fa 12 32) (show (v14 : Int32).toNatClampNeg = ((iv 12 37).toInt).toNat + 1 from (by show (v14 : Int32).toInt.toNat = _; omega)))); have s1 := sg_i (v15 : Int32).toInt; rw [q1] at s1; have q2 := congrArg Int32.toInt (ev24.trans (congrArg (fa 12 32) (show (v23 : Int32).toNatClampNeg = ((iv 12 37).toInt).toNat + 2 from (by show (v23 : Int32).toInt.toNat = _; omega)))); have s2 := sg_i (v24 : Int32).toInt; rw [q2] at s2; have q3 := congrArg Int32.toInt (ev34.trans (congrArg (fa 12 32) (show (v33 : Int32).toNatClampNeg = ((iv 12 37).toInt).toNat + 3 from (by show (v33 : Int32).toInt.toNat = _; omega)))); have s3 := sg_i (v34 : Int32).toInt; rw [q3] at s3; exact Or.inr ⟨by omega, fun h9 => (by have h8 : ((iv 12 37).toInt + (iv 12 38).toInt) - (iv 12 37).toInt = 4 ∧ sg (fa 12 32 (((iv 12 37).toInt).toNat + 0)).toInt = 116 ∧ sg (fa 12 32 (((iv 12 37).toInt).toNat + 1)).toInt = 97 ∧ sg (fa 12 32 (((iv 12 37).toInt).toNat + 2)).toInt = 107 ∧ sg (fa 12 32 (((iv 12 37).toInt).toNat + 3)).toInt = 101 := h9; have h7 := h8.2.2.2.2; clear h8 h9; omega)⟩)), (show ((0 : Int32).toInt = 0 ∨ ((iv 12 38) : Int32).toInt = 4) from by omega)⟩, ht9⟩) (fun q hq => by cases hq) dX12_isWord_113
                                                · exact absurd c40 (by decide)
                                              · have fc39 := z_eq (rfl : (v34).toInt = _) (by decide : (101 : Int32).toInt = 101) c39
                                                refine lv_iconst (v := 1) hx hb dX12_isWord_98 (by decide) ?_
                                                refine lv_goto (tgt := 103) hx hb dX12_isWord_99 (by decide) ?_
                                                refine lv_istore (lv' := [(8, .int 1), (9, .int 3), (0, .ref h), (1, .int 4), (2, .int 116), (3, .int 97), (4, .int 107), (5, .int 101), (6, .int 0), (7, .int 0)]) hx hb dX12_isWord_103 hl (by decide) rfl (fun ls hl => ?_)
                                                refine lv_iinc (v := 4) (lv' := [(9, .int 4), (8, .int 1), (0, .ref h), (1, .int 4), (2, .int 116), (3, .int 97), (4, .int 107), (5, .int 101), (6, .int 0), (7, .int 0)]) hx hb dX12_isWord_105 hl (k := 1) rfl (by decide) (by decide) rfl (fun ls hl => ?_)
                                                refine lv_goto (tgt := 18) hx hb dX12_isWord_108 (by decide) ?_
                                                refine lv_iload hx hb dX12_isWord_18 (lv_at hl 0 rfl) ?_
                                                refine lv_iload_n hx hb dX12_isWord_20 rfl (lv_at hl 3 rfl) ?_
                                                refine lv_icmp_ge (tgt := 111) hx hb dX12_isWord_21 (by decide) (fun c41 => ?_) (fun c41 => ?_)
                                                · skip
                                                  refine lv_iload hx hb dX12_isWord_111 (lv_at hl 1 rfl) ?_
                                                  have : (1 : Int32).toInt = 1 := (by decide)
                                                  exact W.zret (v := 1) hx hb hr rfl (fun t ht9 hW => ⟨1, rfl, ⟨⟨by decide, by decide⟩, (show (((1 : Int32).toInt = 1 ∧ w_take (fun j => sg ((fa 12 32) j).toInt) ((iv 12 37) : Int32).toInt (((iv 12 37) : Int32).toInt + ((iv 12 38) : Int32).toInt)) ∨ ((1 : Int32).toInt = 0 ∧ ¬ w_take (fun j => sg ((fa 12 32) j).toInt) ((iv 12 37) : Int32).toInt (((iv 12 37) : Int32).toInt + ((iv 12 38) : Int32).toInt))) from (by have q0 := congrArg Int32.toInt (ev7.trans (congrArg (fa 12 32) (show (v6 : Int32).toNatClampNeg = ((iv 12 37).toInt).toNat + 0 from (by show (v6 : Int32).toInt.toNat = _; omega)))); have s0 := sg_i (v7 : Int32).toInt; rw [q0] at s0; have q1 := congrArg Int32.toInt (ev15.trans (congrArg (fa 12 32) (show (v14 : Int32).toNatClampNeg = ((iv 12 37).toInt).toNat + 1 from (by show (v14 : Int32).toInt.toNat = _; omega)))); have s1 := sg_i (v15 : Int32).toInt; rw [q1] at s1; have q2 := congrArg Int32.toInt (ev24.trans (congrArg (fa 12 32) (show (v23 : Int32).toNatClampNeg = ((iv 12 37).toInt).toNat + 2 from (by show (v23 : Int32).toInt.toNat = _; omega)))); have s2 := sg_i (v24 : Int32).toInt; rw [q2] at s2; have q3 := congrArg Int32.toInt (ev34.trans (congrArg (fa 12 32) (show (v33 : Int32).toNatClampNeg = ((iv 12 37).toInt).toNat + 3 from (by show (v33 : Int32).toInt.toNat = _; omega)))); have s3 := sg_i (v34 : Int32).toInt; rw [q3] at s3; exact Or.inl ⟨by omega, (show ((iv 12 37).toInt + (iv 12 38).toInt) - (iv 12 37).toInt = 4 ∧ sg (fa 12 32 (((iv 12 37).toInt).toNat + 0)).toInt = 116 ∧ sg (fa 12 32 (((iv 12 37).toInt).toNat + 1)).toInt = 97 ∧ sg (fa 12 32 (((iv 12 37).toInt).toNat + 2)).toInt = 107 ∧ sg (fa 12 32 (((iv 12 37).toInt).toNat + 3)).toInt = 101 from ⟨by omega, by omega, by omega, by omega, by omega⟩)⟩)), (show ((1 : Int32).toInt = 0 ∨ ((iv 12 38) : Int32).toInt = 4) from by omega)⟩, ht9⟩) (fun q hq => by cases hq) dX12_isWord_113
                                                · exact absurd c41 (by decide)
                                          · exact absurd c37 (by decide)
                                        · exact absurd c36 (by decide)
                                      · exact absurd c35 (by decide)
                            · exact absurd c26 (by decide)
                          · exact absurd c25 (by decide)
                · exact absurd c16 (by decide)
set_option maxHeartbeats 4000000 in
set_option maxRecDepth 100000 in
/-- X12_isWord -/
theorem c_X12_isWord_r_name (l : Launch) (dC : Nat → ClassId) (dI : Nat → Nat → Nat) (h : Nat) (g : Nat → Nat → Nat) (ca : Nat → Nat → ClassId) (iv : Nat → Nat → Int32) (lv : Nat → Nat → Int64) (fa : Nat → Nat → Nat → Int32) (la : Nat → Nat → Nat → Int64) (hI : IX iv fa) (p_0 : (iv 12 37).toInt + (iv 12 38).toInt ≤ 200) : Met l yX12_isWord (wc yX12_isWord cX12_isWord 10 (some .boolean)) ({ frames := 0, cells := 0, slots := 0, locals := 0 } : Room) (pR (dC, dI) classes (WM h g ca iv lv fa la) (TM ca) [.ref h, .int 4, .int 110, .int 97, .int 109, .int 101, .int 0, .int 0]) (vp_Si (fun r => (0 ≤ r.toInt ∧ r.toInt ≤ 1) ∧ (((r.toInt = 1 ∧ w_name (fun j => sg ((fa 12 32) j).toInt) (iv 12 37).toInt ((iv 12 37).toInt + (iv 12 38).toInt)) ∨ (r.toInt = 0 ∧ ¬ w_name (fun j => sg ((fa 12 32) j).toInt) (iv 12 37).toInt ((iv 12 37).toInt + (iv 12 38).toInt)))) ∧ ((r.toInt = 0 ∨ (iv 12 38).toInt = 4)))) 0 0 (fun _ => False) := by
  refine Met.ofW (cc := cX12_isWord) (maxL := 10) (ret := (some .boolean)) (by decide) rfl ?_
  intro p e s m args below meth c s₁ B hml hv
  obtain ⟨rfl, hP, hK⟩ := hv
  have hx := B.exec
  have hb := B.bytes
  have hr := B.returns
  have ht := tb_tl (atoms_spec (ws := wc yX12_isWord cX12_isWord 10 (some .boolean)) B.pre)
  have hown : s.vm.findClass RX12 = some m.cls := findClass_of_methodNamed B.named
  have hlocks := B.notSynchronized
  have hl := lv_entry [.ref h, .int 4, .int 110, .int 97, .int 109, .int 101, .int 0, .int 0] (n := 10) (Nat.le_of_ble_eq_true rfl)
  rw [lg_entry_eq]
  generalize (lg_sl [.ref h, .int 4, .int 110, .int 97, .int 109, .int 101, .int 0, .int 0] ++ List.replicate (10 - (lg_sl [.ref h, .int 4, .int 110, .int 97, .int 109, .int 101, .int 0, .int 0]).length) Slot.unset).toArray = ls at hl ⊢
  have hl : lv_has ls 10 [(0, .ref h), (1, .int 4), (2, .int 110), (3, .int 97), (4, .int 109), (5, .int 101), (6, .int 0), (7, .int 0)] := hl
  refine lv_aload_n hx hb dX12_isWord_0 rfl (lv_at hl 0 rfl) ?_
  have i_12_38 : 0 ≤ (iv 12 38).toInt ∧ (iv 12 38).toInt ≤ 200 := hI.1 12 38
  refine gM_12_38 hx hb ht hown hK hP m_1177 (v := (iv 12 38)) rfl dX12_isWord_1 ?_
  refine lv_iload_n hx hb dX12_isWord_4 rfl (lv_at hl 1 rfl) ?_
  refine lv_icmp_ne (tgt := 12) hx hb dX12_isWord_5 (by decide) (fun c1 => ?_) (fun c1 => ?_)
  · have fc1 := z_ne (rfl : ((iv 12 38)).toInt = _) (by decide : (4 : Int32).toInt = 4) c1
    refine lv_iconst (v := 0) hx hb dX12_isWord_12 (by decide) ?_
    refine lv_istore (lv' := [(8, .int 0), (0, .ref h), (1, .int 4), (2, .int 110), (3, .int 97), (4, .int 109), (5, .int 101), (6, .int 0), (7, .int 0)]) hx hb dX12_isWord_13 hl (by decide) rfl (fun ls hl => ?_)
    refine lv_iconst (v := 0) hx hb dX12_isWord_15 (by decide) ?_
    refine lv_istore (lv' := [(9, .int 0), (8, .int 0), (0, .ref h), (1, .int 4), (2, .int 110), (3, .int 97), (4, .int 109), (5, .int 101), (6, .int 0), (7, .int 0)]) hx hb dX12_isWord_16 hl (by decide) rfl (fun ls hl => ?_)
    refine lv_iload hx hb dX12_isWord_18 (lv_at hl 0 rfl) ?_
    refine lv_iload_n hx hb dX12_isWord_20 rfl (lv_at hl 3 rfl) ?_
    refine lv_icmp_ge (tgt := 111) hx hb dX12_isWord_21 (by decide) (fun c2 => ?_) (fun c2 => ?_)
    · exact absurd c2 (by decide)
    · skip
      refine lv_iload hx hb dX12_isWord_24 (lv_at hl 1 rfl) ?_
      refine lv_if_eq (tgt := 111) hx hb dX12_isWord_26 (by decide) (fun c3 => ?_) (fun c3 => ?_)
      · skip
        refine lv_iload hx hb dX12_isWord_111 (lv_at hl 1 rfl) ?_
        have : (0 : Int32).toInt = 0 := (by decide)
        have i_12_37 : 0 ≤ (iv 12 37).toInt ∧ (iv 12 37).toInt ≤ 200 := hI.1 12 37
        exact W.zret (v := 0) hx hb hr rfl (fun t ht9 hW => ⟨0, rfl, ⟨⟨by decide, by decide⟩, (show (((0 : Int32).toInt = 1 ∧ w_name (fun j => sg ((fa 12 32) j).toInt) ((iv 12 37) : Int32).toInt (((iv 12 37) : Int32).toInt + ((iv 12 38) : Int32).toInt)) ∨ ((0 : Int32).toInt = 0 ∧ ¬ w_name (fun j => sg ((fa 12 32) j).toInt) ((iv 12 37) : Int32).toInt (((iv 12 37) : Int32).toInt + ((iv 12 38) : Int32).toInt))) from (by exact Or.inr ⟨by omega, fun h9 => (by have h8 : ((iv 12 37).toInt + (iv 12 38).toInt) - (iv 12 37).toInt = 4 ∧ sg (fa 12 32 (((iv 12 37).toInt).toNat + 0)).toInt = 110 ∧ sg (fa 12 32 (((iv 12 37).toInt).toNat + 1)).toInt = 97 ∧ sg (fa 12 32 (((iv 12 37).toInt).toNat + 2)).toInt = 109 ∧ sg (fa 12 32 (((iv 12 37).toInt).toNat + 3)).toInt = 101 := h9; have h7 := h8.1; omega)⟩)), (show ((0 : Int32).toInt = 0 ∨ ((iv 12 38) : Int32).toInt = 4) from by omega)⟩, ht9⟩) (fun q hq => by cases hq) dX12_isWord_113
      · exact absurd rfl c3
  · have fc1 := z_eq (rfl : ((iv 12 38)).toInt = _) (by decide : (4 : Int32).toInt = 4) c1
    refine lv_iconst (v := 1) hx hb dX12_isWord_8 (by decide) ?_
    refine lv_goto (tgt := 13) hx hb dX12_isWord_9 (by decide) ?_
    refine lv_istore (lv' := [(8, .int 1), (0, .ref h), (1, .int 4), (2, .int 110), (3, .int 97), (4, .int 109), (5, .int 101), (6, .int 0), (7, .int 0)]) hx hb dX12_isWord_13 hl (by decide) rfl (fun ls hl => ?_)
    refine lv_iconst (v := 0) hx hb dX12_isWord_15 (by decide) ?_
    refine lv_istore (lv' := [(9, .int 0), (8, .int 1), (0, .ref h), (1, .int 4), (2, .int 110), (3, .int 97), (4, .int 109), (5, .int 101), (6, .int 0), (7, .int 0)]) hx hb dX12_isWord_16 hl (by decide) rfl (fun ls hl => ?_)
    refine lv_iload hx hb dX12_isWord_18 (lv_at hl 0 rfl) ?_
    refine lv_iload_n hx hb dX12_isWord_20 rfl (lv_at hl 3 rfl) ?_
    refine lv_icmp_ge (tgt := 111) hx hb dX12_isWord_21 (by decide) (fun c4 => ?_) (fun c4 => ?_)
    · exact absurd c4 (by decide)
    · skip
      refine lv_iload hx hb dX12_isWord_24 (lv_at hl 1 rfl) ?_
      refine lv_if_eq (tgt := 111) hx hb dX12_isWord_26 (by decide) (fun c5 => ?_) (fun c5 => ?_)
      · exact absurd c5 (by decide)
      · skip
        refine lv_aload_n hx hb dX12_isWord_29 rfl (lv_at hl 2 rfl) ?_
        refine gM_12_32 hx hb ht hown hK hP m_1171 dX12_isWord_30 ?_
        refine lv_aload_n hx hb dX12_isWord_33 rfl (lv_at hl 2 rfl) ?_
        have i_12_37 : 0 ≤ (iv 12 37).toInt ∧ (iv 12 37).toInt ≤ 200 := hI.1 12 37
        refine gM_12_37 hx hb ht hown hK hP m_1176 (v := (iv 12 37)) rfl dX12_isWord_34 ?_
        refine lv_iload hx hb dX12_isWord_37 (lv_at hl 0 rfl) ?_
        refine lv_iadd hx hb dX12_isWord_39 ?_
        refine lv_topi (fun v6 ev6 => ?_)
        have tv6 := z_add ev6 (rfl : ((iv 12 37)).toInt = _) (by decide : (0 : Int32).toInt = 0) (by omega) (by omega)
        have : 0 ≤ (v6 : Int32).toInt ∧ (v6 : Int32).toInt ≤ 199 := ⟨by omega, by omega⟩
        refine lM_12_32 hx hb hK hP (f := (fa 12 32)) rfl (vp_in_iff.mpr ⟨by omega, by omega⟩) dX12_isWord_40 ?_
        refine lv_topi (fun v7 ev7 => ?_)
        refine lv_iload hx hb dX12_isWord_41 (lv_at hl 0 rfl) ?_
        refine lv_if_ne (tgt := 50) hx hb dX12_isWord_43 (by decide) (fun c8 => ?_) (fun c8 => ?_)
        · exact absurd rfl c8
        · skip
          refine lv_iload_n hx hb dX12_isWord_46 rfl (lv_at hl 4 rfl) ?_
          refine lv_goto (tgt := 95) hx hb dX12_isWord_47 (by decide) ?_
          refine lv_icmp_ne (tgt := 102) hx hb dX12_isWord_95 (by decide) (fun c9 => ?_) (fun c9 => ?_)
          · have fc9 := z_ne (rfl : (v7).toInt = _) (by decide : (110 : Int32).toInt = 110) c9
            refine lv_iconst (v := 0) hx hb dX12_isWord_102 (by decide) ?_
            refine lv_istore (lv' := [(8, .int 0), (9, .int 0), (0, .ref h), (1, .int 4), (2, .int 110), (3, .int 97), (4, .int 109), (5, .int 101), (6, .int 0), (7, .int 0)]) hx hb dX12_isWord_103 hl (by decide) rfl (fun ls hl => ?_)
            refine lv_iinc (v := 1) (lv' := [(9, .int 1), (8, .int 0), (0, .ref h), (1, .int 4), (2, .int 110), (3, .int 97), (4, .int 109), (5, .int 101), (6, .int 0), (7, .int 0)]) hx hb dX12_isWord_105 hl (k := 1) rfl (by decide) (by decide) rfl (fun ls hl => ?_)
            refine lv_goto (tgt := 18) hx hb dX12_isWord_108 (by decide) ?_
            refine lv_iload hx hb dX12_isWord_18 (lv_at hl 0 rfl) ?_
            refine lv_iload_n hx hb dX12_isWord_20 rfl (lv_at hl 3 rfl) ?_
            refine lv_icmp_ge (tgt := 111) hx hb dX12_isWord_21 (by decide) (fun c10 => ?_) (fun c10 => ?_)
            · exact absurd c10 (by decide)
            · skip
              refine lv_iload hx hb dX12_isWord_24 (lv_at hl 1 rfl) ?_
              refine lv_if_eq (tgt := 111) hx hb dX12_isWord_26 (by decide) (fun c11 => ?_) (fun c11 => ?_)
              · skip
                refine lv_iload hx hb dX12_isWord_111 (lv_at hl 1 rfl) ?_
                have : (0 : Int32).toInt = 0 := (by decide)
                exact W.zret (v := 0) hx hb hr rfl (fun t ht9 hW => ⟨0, rfl, ⟨⟨by decide, by decide⟩, (show (((0 : Int32).toInt = 1 ∧ w_name (fun j => sg ((fa 12 32) j).toInt) ((iv 12 37) : Int32).toInt (((iv 12 37) : Int32).toInt + ((iv 12 38) : Int32).toInt)) ∨ ((0 : Int32).toInt = 0 ∧ ¬ w_name (fun j => sg ((fa 12 32) j).toInt) ((iv 12 37) : Int32).toInt (((iv 12 37) : Int32).toInt + ((iv 12 38) : Int32).toInt))) from (by have q0 := congrArg Int32.toInt (ev7.trans (congrArg (fa 12 32) (show (v6 : Int32).toNatClampNeg = ((iv 12 37).toInt).toNat + 0 from (by show (v6 : Int32).toInt.toNat = _; omega)))); have s0 := sg_i (v7 : Int32).toInt; rw [q0] at s0; exact Or.inr ⟨by omega, fun h9 => (by have h8 : ((iv 12 37).toInt + (iv 12 38).toInt) - (iv 12 37).toInt = 4 ∧ sg (fa 12 32 (((iv 12 37).toInt).toNat + 0)).toInt = 110 ∧ sg (fa 12 32 (((iv 12 37).toInt).toNat + 1)).toInt = 97 ∧ sg (fa 12 32 (((iv 12 37).toInt).toNat + 2)).toInt = 109 ∧ sg (fa 12 32 (((iv 12 37).toInt).toNat + 3)).toInt = 101 := h9; have h7 := h8.2.1; clear h8 h9; omega)⟩)), (show ((0 : Int32).toInt = 0 ∨ ((iv 12 38) : Int32).toInt = 4) from by omega)⟩, ht9⟩) (fun q hq => by cases hq) dX12_isWord_113
              · exact absurd rfl c11
          · have fc9 := z_eq (rfl : (v7).toInt = _) (by decide : (110 : Int32).toInt = 110) c9
            refine lv_iconst (v := 1) hx hb dX12_isWord_98 (by decide) ?_
            refine lv_goto (tgt := 103) hx hb dX12_isWord_99 (by decide) ?_
            refine lv_istore (lv' := [(8, .int 1), (9, .int 0), (0, .ref h), (1, .int 4), (2, .int 110), (3, .int 97), (4, .int 109), (5, .int 101), (6, .int 0), (7, .int 0)]) hx hb dX12_isWord_103 hl (by decide) rfl (fun ls hl => ?_)
            refine lv_iinc (v := 1) (lv' := [(9, .int 1), (8, .int 1), (0, .ref h), (1, .int 4), (2, .int 110), (3, .int 97), (4, .int 109), (5, .int 101), (6, .int 0), (7, .int 0)]) hx hb dX12_isWord_105 hl (k := 1) rfl (by decide) (by decide) rfl (fun ls hl => ?_)
            refine lv_goto (tgt := 18) hx hb dX12_isWord_108 (by decide) ?_
            refine lv_iload hx hb dX12_isWord_18 (lv_at hl 0 rfl) ?_
            refine lv_iload_n hx hb dX12_isWord_20 rfl (lv_at hl 3 rfl) ?_
            refine lv_icmp_ge (tgt := 111) hx hb dX12_isWord_21 (by decide) (fun c12 => ?_) (fun c12 => ?_)
            · exact absurd c12 (by decide)
            · skip
              refine lv_iload hx hb dX12_isWord_24 (lv_at hl 1 rfl) ?_
              refine lv_if_eq (tgt := 111) hx hb dX12_isWord_26 (by decide) (fun c13 => ?_) (fun c13 => ?_)
              · exact absurd c13 (by decide)
              · skip
                refine lv_aload_n hx hb dX12_isWord_29 rfl (lv_at hl 2 rfl) ?_
                refine gM_12_32 hx hb ht hown hK hP m_1171 dX12_isWord_30 ?_
                refine lv_aload_n hx hb dX12_isWord_33 rfl (lv_at hl 2 rfl) ?_
                refine gM_12_37 hx hb ht hown hK hP m_1176 (v := (iv 12 37)) rfl dX12_isWord_34 ?_
                refine lv_iload hx hb dX12_isWord_37 (lv_at hl 0 rfl) ?_
                refine lv_iadd hx hb dX12_isWord_39 ?_
                refine lv_topi (fun v14 ev14 => ?_)
                have tv14 := z_add ev14 (rfl : ((iv 12 37)).toInt = _) (by decide : (1 : Int32).toInt = 1) (by omega) (by omega)
                have : 0 ≤ (v14 : Int32).toInt ∧ (v14 : Int32).toInt ≤ 199 := ⟨by omega, by omega⟩
                refine lM_12_32 hx hb hK hP (f := (fa 12 32)) rfl (vp_in_iff.mpr ⟨by omega, by omega⟩) dX12_isWord_40 ?_
                refine lv_topi (fun v15 ev15 => ?_)
                refine lv_iload hx hb dX12_isWord_41 (lv_at hl 0 rfl) ?_
                refine lv_if_ne (tgt := 50) hx hb dX12_isWord_43 (by decide) (fun c16 => ?_) (fun c16 => ?_)
                · skip
                  refine lv_iload hx hb dX12_isWord_50 (lv_at hl 0 rfl) ?_
                  refine lv_iconst (v := 1) hx hb dX12_isWord_52 (by decide) ?_
                  refine lv_icmp_ne (tgt := 60) hx hb dX12_isWord_53 (by decide) (fun c17 => ?_) (fun c17 => ?_)
                  · exact absurd rfl c17
                  · skip
                    refine lv_iload_n hx hb dX12_isWord_56 rfl (lv_at hl 5 rfl) ?_
                    refine lv_goto (tgt := 95) hx hb dX12_isWord_57 (by decide) ?_
                    refine lv_icmp_ne (tgt := 102) hx hb dX12_isWord_95 (by decide) (fun c18 => ?_) (fun c18 => ?_)
                    · have fc18 := z_ne (rfl : (v15).toInt = _) (by decide : (97 : Int32).toInt = 97) c18
                      refine lv_iconst (v := 0) hx hb dX12_isWord_102 (by decide) ?_
                      refine lv_istore (lv' := [(8, .int 0), (9, .int 1), (0, .ref h), (1, .int 4), (2, .int 110), (3, .int 97), (4, .int 109), (5, .int 101), (6, .int 0), (7, .int 0)]) hx hb dX12_isWord_103 hl (by decide) rfl (fun ls hl => ?_)
                      refine lv_iinc (v := 2) (lv' := [(9, .int 2), (8, .int 0), (0, .ref h), (1, .int 4), (2, .int 110), (3, .int 97), (4, .int 109), (5, .int 101), (6, .int 0), (7, .int 0)]) hx hb dX12_isWord_105 hl (k := 1) rfl (by decide) (by decide) rfl (fun ls hl => ?_)
                      refine lv_goto (tgt := 18) hx hb dX12_isWord_108 (by decide) ?_
                      refine lv_iload hx hb dX12_isWord_18 (lv_at hl 0 rfl) ?_
                      refine lv_iload_n hx hb dX12_isWord_20 rfl (lv_at hl 3 rfl) ?_
                      refine lv_icmp_ge (tgt := 111) hx hb dX12_isWord_21 (by decide) (fun c19 => ?_) (fun c19 => ?_)
                      · exact absurd c19 (by decide)
                      · skip
                        refine lv_iload hx hb dX12_isWord_24 (lv_at hl 1 rfl) ?_
                        refine lv_if_eq (tgt := 111) hx hb dX12_isWord_26 (by decide) (fun c20 => ?_) (fun c20 => ?_)
                        · skip
                          refine lv_iload hx hb dX12_isWord_111 (lv_at hl 1 rfl) ?_
                          have : (0 : Int32).toInt = 0 := (by decide)
                          exact W.zret (v := 0) hx hb hr rfl (fun t ht9 hW => ⟨0, rfl, ⟨⟨by decide, by decide⟩, (show (((0 : Int32).toInt = 1 ∧ w_name (fun j => sg ((fa 12 32) j).toInt) ((iv 12 37) : Int32).toInt (((iv 12 37) : Int32).toInt + ((iv 12 38) : Int32).toInt)) ∨ ((0 : Int32).toInt = 0 ∧ ¬ w_name (fun j => sg ((fa 12 32) j).toInt) ((iv 12 37) : Int32).toInt (((iv 12 37) : Int32).toInt + ((iv 12 38) : Int32).toInt))) from (by have q0 := congrArg Int32.toInt (ev7.trans (congrArg (fa 12 32) (show (v6 : Int32).toNatClampNeg = ((iv 12 37).toInt).toNat + 0 from (by show (v6 : Int32).toInt.toNat = _; omega)))); have s0 := sg_i (v7 : Int32).toInt; rw [q0] at s0; have q1 := congrArg Int32.toInt (ev15.trans (congrArg (fa 12 32) (show (v14 : Int32).toNatClampNeg = ((iv 12 37).toInt).toNat + 1 from (by show (v14 : Int32).toInt.toNat = _; omega)))); have s1 := sg_i (v15 : Int32).toInt; rw [q1] at s1; exact Or.inr ⟨by omega, fun h9 => (by have h8 : ((iv 12 37).toInt + (iv 12 38).toInt) - (iv 12 37).toInt = 4 ∧ sg (fa 12 32 (((iv 12 37).toInt).toNat + 0)).toInt = 110 ∧ sg (fa 12 32 (((iv 12 37).toInt).toNat + 1)).toInt = 97 ∧ sg (fa 12 32 (((iv 12 37).toInt).toNat + 2)).toInt = 109 ∧ sg (fa 12 32 (((iv 12 37).toInt).toNat + 3)).toInt = 101 := h9; have h7 := h8.2.2.1; clear h8 h9; omega)⟩)), (show ((0 : Int32).toInt = 0 ∨ ((iv 12 38) : Int32).toInt = 4) from by omega)⟩, ht9⟩) (fun q hq => by cases hq) dX12_isWord_113
                        · exact absurd rfl c20
                    · have fc18 := z_eq (rfl : (v15).toInt = _) (by decide : (97 : Int32).toInt = 97) c18
                      refine lv_iconst (v := 1) hx hb dX12_isWord_98 (by decide) ?_
                      refine lv_goto (tgt := 103) hx hb dX12_isWord_99 (by decide) ?_
                      refine lv_istore (lv' := [(8, .int 1), (9, .int 1), (0, .ref h), (1, .int 4), (2, .int 110), (3, .int 97), (4, .int 109), (5, .int 101), (6, .int 0), (7, .int 0)]) hx hb dX12_isWord_103 hl (by decide) rfl (fun ls hl => ?_)
                      refine lv_iinc (v := 2) (lv' := [(9, .int 2), (8, .int 1), (0, .ref h), (1, .int 4), (2, .int 110), (3, .int 97), (4, .int 109), (5, .int 101), (6, .int 0), (7, .int 0)]) hx hb dX12_isWord_105 hl (k := 1) rfl (by decide) (by decide) rfl (fun ls hl => ?_)
                      refine lv_goto (tgt := 18) hx hb dX12_isWord_108 (by decide) ?_
                      refine lv_iload hx hb dX12_isWord_18 (lv_at hl 0 rfl) ?_
                      refine lv_iload_n hx hb dX12_isWord_20 rfl (lv_at hl 3 rfl) ?_
                      refine lv_icmp_ge (tgt := 111) hx hb dX12_isWord_21 (by decide) (fun c21 => ?_) (fun c21 => ?_)
                      · exact absurd c21 (by decide)
                      · skip
                        refine lv_iload hx hb dX12_isWord_24 (lv_at hl 1 rfl) ?_
                        refine lv_if_eq (tgt := 111) hx hb dX12_isWord_26 (by decide) (fun c22 => ?_) (fun c22 => ?_)
                        · exact absurd c22 (by decide)
                        · skip
                          refine lv_aload_n hx hb dX12_isWord_29 rfl (lv_at hl 2 rfl) ?_
                          refine gM_12_32 hx hb ht hown hK hP m_1171 dX12_isWord_30 ?_
                          refine lv_aload_n hx hb dX12_isWord_33 rfl (lv_at hl 2 rfl) ?_
                          refine gM_12_37 hx hb ht hown hK hP m_1176 (v := (iv 12 37)) rfl dX12_isWord_34 ?_
                          refine lv_iload hx hb dX12_isWord_37 (lv_at hl 0 rfl) ?_
                          refine lv_iadd hx hb dX12_isWord_39 ?_
                          refine lv_topi (fun v23 ev23 => ?_)
                          have tv23 := z_add ev23 (rfl : ((iv 12 37)).toInt = _) (by decide : (2 : Int32).toInt = 2) (by omega) (by omega)
                          have : 0 ≤ (v23 : Int32).toInt ∧ (v23 : Int32).toInt ≤ 199 := ⟨by omega, by omega⟩
                          refine lM_12_32 hx hb hK hP (f := (fa 12 32)) rfl (vp_in_iff.mpr ⟨by omega, by omega⟩) dX12_isWord_40 ?_
                          refine lv_topi (fun v24 ev24 => ?_)
                          refine lv_iload hx hb dX12_isWord_41 (lv_at hl 0 rfl) ?_
                          refine lv_if_ne (tgt := 50) hx hb dX12_isWord_43 (by decide) (fun c25 => ?_) (fun c25 => ?_)
                          · skip
                            refine lv_iload hx hb dX12_isWord_50 (lv_at hl 0 rfl) ?_
                            refine lv_iconst (v := 1) hx hb dX12_isWord_52 (by decide) ?_
                            refine lv_icmp_ne (tgt := 60) hx hb dX12_isWord_53 (by decide) (fun c26 => ?_) (fun c26 => ?_)
                            · skip
                              refine lv_iload hx hb dX12_isWord_60 (lv_at hl 0 rfl) ?_
                              refine lv_iconst (v := 2) hx hb dX12_isWord_62 (by decide) ?_
                              refine lv_icmp_ne (tgt := 71) hx hb dX12_isWord_63 (by decide) (fun c27 => ?_) (fun c27 => ?_)
                              · exact absurd rfl c27
                              · skip
                                refine lv_iload hx hb dX12_isWord_66 (lv_at hl 6 rfl) ?_
                                refine lv_goto (tgt := 95) hx hb dX12_isWord_68 (by decide) ?_
                                refine lv_icmp_ne (tgt := 102) hx hb dX12_isWord_95 (by decide) (fun c28 => ?_) (fun c28 => ?_)
                                · have fc28 := z_ne (rfl : (v24).toInt = _) (by decide : (109 : Int32).toInt = 109) c28
                                  refine lv_iconst (v := 0) hx hb dX12_isWord_102 (by decide) ?_
                                  refine lv_istore (lv' := [(8, .int 0), (9, .int 2), (0, .ref h), (1, .int 4), (2, .int 110), (3, .int 97), (4, .int 109), (5, .int 101), (6, .int 0), (7, .int 0)]) hx hb dX12_isWord_103 hl (by decide) rfl (fun ls hl => ?_)
                                  refine lv_iinc (v := 3) (lv' := [(9, .int 3), (8, .int 0), (0, .ref h), (1, .int 4), (2, .int 110), (3, .int 97), (4, .int 109), (5, .int 101), (6, .int 0), (7, .int 0)]) hx hb dX12_isWord_105 hl (k := 1) rfl (by decide) (by decide) rfl (fun ls hl => ?_)
                                  refine lv_goto (tgt := 18) hx hb dX12_isWord_108 (by decide) ?_
                                  refine lv_iload hx hb dX12_isWord_18 (lv_at hl 0 rfl) ?_
                                  refine lv_iload_n hx hb dX12_isWord_20 rfl (lv_at hl 3 rfl) ?_
                                  refine lv_icmp_ge (tgt := 111) hx hb dX12_isWord_21 (by decide) (fun c29 => ?_) (fun c29 => ?_)
                                  · exact absurd c29 (by decide)
                                  · skip
                                    refine lv_iload hx hb dX12_isWord_24 (lv_at hl 1 rfl) ?_
                                    refine lv_if_eq (tgt := 111) hx hb dX12_isWord_26 (by decide) (fun c30 => ?_) (fun c30 => ?_)
                                    · skip
                                      refine lv_iload hx hb dX12_isWord_111 (lv_at hl 1 rfl) ?_
                                      have : (0 : Int32).toInt = 0 := (by decide)
                                      exact W.zret (v := 0) hx hb hr rfl (fun t ht9 hW => ⟨0, rfl, ⟨⟨by decide, by decide⟩, (show (((0 : Int32).toInt = 1 ∧ w_name (fun j => sg ((fa 12 32) j).toInt) ((iv 12 37) : Int32).toInt (((iv 12 37) : Int32).toInt + ((iv 12 38) : Int32).toInt)) ∨ ((0 : Int32).toInt = 0 ∧ ¬ w_name (fun j => sg ((fa 12 32) j).toInt) ((iv 12 37) : Int32).toInt (((iv 12 37) : Int32).toInt + ((iv 12 38) : Int32).toInt))) from (by have q0 := congrArg Int32.toInt (ev7.trans (congrArg (fa 12 32) (show (v6 : Int32).toNatClampNeg = ((iv 12 37).toInt).toNat + 0 from (by show (v6 : Int32).toInt.toNat = _; omega)))); have s0 := sg_i (v7 : Int32).toInt; rw [q0] at s0; have q1 := congrArg Int32.toInt (ev15.trans (congrArg (fa 12 32) (show (v14 : Int32).toNatClampNeg = ((iv 12 37).toInt).toNat + 1 from (by show (v14 : Int32).toInt.toNat = _; omega)))); have s1 := sg_i (v15 : Int32).toInt; rw [q1] at s1; have q2 := congrArg Int32.toInt (ev24.trans (congrArg (fa 12 32) (show (v23 : Int32).toNatClampNeg = ((iv 12 37).toInt).toNat + 2 from (by show (v23 : Int32).toInt.toNat = _; omega)))); have s2 := sg_i (v24 : Int32).toInt; rw [q2] at s2; exact Or.inr ⟨by omega, fun h9 => (by have h8 : ((iv 12 37).toInt + (iv 12 38).toInt) - (iv 12 37).toInt = 4 ∧ sg (fa 12 32 (((iv 12 37).toInt).toNat + 0)).toInt = 110 ∧ sg (fa 12 32 (((iv 12 37).toInt).toNat + 1)).toInt = 97 ∧ sg (fa 12 32 (((iv 12 37).toInt).toNat + 2)).toInt = 109 ∧ sg (fa 12 32 (((iv 12 37).toInt).toNat + 3)).toInt = 101 := h9; have h7 := h8.2.2.2.1; clear h8 h9; omega)⟩)), (show ((0 : Int32).toInt = 0 ∨ ((iv 12 38) : Int32).toInt = 4) from by omega)⟩, ht9⟩) (fun q hq => by cases hq) dX12_isWord_113
                                    · exact absurd rfl c30
                                · have fc28 := z_eq (rfl : (v24).toInt = _) (by decide : (109 : Int32).toInt = 109) c28
                                  refine lv_iconst (v := 1) hx hb dX12_isWord_98 (by decide) ?_
                                  refine lv_goto (tgt := 103) hx hb dX12_isWord_99 (by decide) ?_
                                  refine lv_istore (lv' := [(8, .int 1), (9, .int 2), (0, .ref h), (1, .int 4), (2, .int 110), (3, .int 97), (4, .int 109), (5, .int 101), (6, .int 0), (7, .int 0)]) hx hb dX12_isWord_103 hl (by decide) rfl (fun ls hl => ?_)
                                  refine lv_iinc (v := 3) (lv' := [(9, .int 3), (8, .int 1), (0, .ref h), (1, .int 4), (2, .int 110), (3, .int 97), (4, .int 109), (5, .int 101), (6, .int 0), (7, .int 0)]) hx hb dX12_isWord_105 hl (k := 1) rfl (by decide) (by decide) rfl (fun ls hl => ?_)
                                  refine lv_goto (tgt := 18) hx hb dX12_isWord_108 (by decide) ?_
                                  refine lv_iload hx hb dX12_isWord_18 (lv_at hl 0 rfl) ?_
                                  refine lv_iload_n hx hb dX12_isWord_20 rfl (lv_at hl 3 rfl) ?_
                                  refine lv_icmp_ge (tgt := 111) hx hb dX12_isWord_21 (by decide) (fun c31 => ?_) (fun c31 => ?_)
                                  · exact absurd c31 (by decide)
                                  · skip
                                    refine lv_iload hx hb dX12_isWord_24 (lv_at hl 1 rfl) ?_
                                    refine lv_if_eq (tgt := 111) hx hb dX12_isWord_26 (by decide) (fun c32 => ?_) (fun c32 => ?_)
                                    · exact absurd c32 (by decide)
                                    · skip
                                      refine lv_aload_n hx hb dX12_isWord_29 rfl (lv_at hl 2 rfl) ?_
                                      refine gM_12_32 hx hb ht hown hK hP m_1171 dX12_isWord_30 ?_
                                      refine lv_aload_n hx hb dX12_isWord_33 rfl (lv_at hl 2 rfl) ?_
                                      refine gM_12_37 hx hb ht hown hK hP m_1176 (v := (iv 12 37)) rfl dX12_isWord_34 ?_
                                      refine lv_iload hx hb dX12_isWord_37 (lv_at hl 0 rfl) ?_
                                      refine lv_iadd hx hb dX12_isWord_39 ?_
                                      refine lv_topi (fun v33 ev33 => ?_)
                                      have tv33 := z_add ev33 (rfl : ((iv 12 37)).toInt = _) (by decide : (3 : Int32).toInt = 3) (by omega) (by omega)
                                      have : 0 ≤ (v33 : Int32).toInt ∧ (v33 : Int32).toInt ≤ 199 := ⟨by omega, by omega⟩
                                      refine lM_12_32 hx hb hK hP (f := (fa 12 32)) rfl (vp_in_iff.mpr ⟨by omega, by omega⟩) dX12_isWord_40 ?_
                                      refine lv_topi (fun v34 ev34 => ?_)
                                      refine lv_iload hx hb dX12_isWord_41 (lv_at hl 0 rfl) ?_
                                      refine lv_if_ne (tgt := 50) hx hb dX12_isWord_43 (by decide) (fun c35 => ?_) (fun c35 => ?_)
                                      · skip
                                        refine lv_iload hx hb dX12_isWord_50 (lv_at hl 0 rfl) ?_
                                        refine lv_iconst (v := 1) hx hb dX12_isWord_52 (by decide) ?_
                                        refine lv_icmp_ne (tgt := 60) hx hb dX12_isWord_53 (by decide) (fun c36 => ?_) (fun c36 => ?_)
                                        · skip
                                          refine lv_iload hx hb dX12_isWord_60 (lv_at hl 0 rfl) ?_
                                          refine lv_iconst (v := 2) hx hb dX12_isWord_62 (by decide) ?_
                                          refine lv_icmp_ne (tgt := 71) hx hb dX12_isWord_63 (by decide) (fun c37 => ?_) (fun c37 => ?_)
                                          · skip
                                            refine lv_iload hx hb dX12_isWord_71 (lv_at hl 0 rfl) ?_
                                            refine lv_iconst (v := 3) hx hb dX12_isWord_73 (by decide) ?_
                                            refine lv_icmp_ne (tgt := 82) hx hb dX12_isWord_74 (by decide) (fun c38 => ?_) (fun c38 => ?_)
                                            · exact absurd rfl c38
                                            · skip
                                              refine lv_iload hx hb dX12_isWord_77 (lv_at hl 7 rfl) ?_
                                              refine lv_goto (tgt := 95) hx hb dX12_isWord_79 (by decide) ?_
                                              refine lv_icmp_ne (tgt := 102) hx hb dX12_isWord_95 (by decide) (fun c39 => ?_) (fun c39 => ?_)
                                              · have fc39 := z_ne (rfl : (v34).toInt = _) (by decide : (101 : Int32).toInt = 101) c39
                                                refine lv_iconst (v := 0) hx hb dX12_isWord_102 (by decide) ?_
                                                refine lv_istore (lv' := [(8, .int 0), (9, .int 3), (0, .ref h), (1, .int 4), (2, .int 110), (3, .int 97), (4, .int 109), (5, .int 101), (6, .int 0), (7, .int 0)]) hx hb dX12_isWord_103 hl (by decide) rfl (fun ls hl => ?_)
                                                refine lv_iinc (v := 4) (lv' := [(9, .int 4), (8, .int 0), (0, .ref h), (1, .int 4), (2, .int 110), (3, .int 97), (4, .int 109), (5, .int 101), (6, .int 0), (7, .int 0)]) hx hb dX12_isWord_105 hl (k := 1) rfl (by decide) (by decide) rfl (fun ls hl => ?_)
                                                refine lv_goto (tgt := 18) hx hb dX12_isWord_108 (by decide) ?_
                                                refine lv_iload hx hb dX12_isWord_18 (lv_at hl 0 rfl) ?_
                                                refine lv_iload_n hx hb dX12_isWord_20 rfl (lv_at hl 3 rfl) ?_
                                                refine lv_icmp_ge (tgt := 111) hx hb dX12_isWord_21 (by decide) (fun c40 => ?_) (fun c40 => ?_)
                                                · skip
                                                  refine lv_iload hx hb dX12_isWord_111 (lv_at hl 1 rfl) ?_
                                                  have : (0 : Int32).toInt = 0 := (by decide)
                                                  exact W.zret (v := 0) hx hb hr rfl (fun t ht9 hW => ⟨0, rfl, ⟨⟨by decide, by decide⟩, (show (((0 : Int32).toInt = 1 ∧ w_name (fun j => sg ((fa 12 32) j).toInt) ((iv 12 37) : Int32).toInt (((iv 12 37) : Int32).toInt + ((iv 12 38) : Int32).toInt)) ∨ ((0 : Int32).toInt = 0 ∧ ¬ w_name (fun j => sg ((fa 12 32) j).toInt) ((iv 12 37) : Int32).toInt (((iv 12 37) : Int32).toInt + ((iv 12 38) : Int32).toInt))) from (by have q0 := congrArg Int32.toInt (ev7.trans (congrArg (fa 12 32) (show (v6 : Int32).toNatClampNeg = ((iv 12 37).toInt).toNat + 0 from (by show (v6 : Int32).toInt.toNat = _; omega)))); have s0 := sg_i (v7 : Int32).toInt; rw [q0] at s0; have q1 := congrArg Int32.toInt (ev15.trans (congrArg (fa 12 32) (show (v14 : Int32).toNatClampNeg = ((iv 12 37).toInt).toNat + 1 from (by show (v14 : Int32).toInt.toNat = _; omega)))); have s1 := sg_i (v15 : Int32).toInt; rw [q1] at s1; have q2 := congrArg Int32.toInt (ev24.trans (congrArg (fa 12 32) (show (v23 : Int32).toNatClampNeg = ((iv 12 37).toInt).toNat + 2 from (by show (v23 : Int32).toInt.toNat = _; omega)))); have s2 := sg_i (v24 : Int32).toInt; rw [q2] at s2; have q3 := congrArg Int32.toInt (ev34.trans (congrArg (fa 12 32) (show (v33 : Int32).toNatClampNeg = ((iv 12 37).toInt).toNat + 3 from (by show (v33 : Int32).toInt.toNat = _; omega)))); have s3 := sg_i (v34 : Int32).toInt; rw [q3] at s3; exact Or.inr ⟨by omega, fun h9 => (by have h8 : ((iv 12 37).toInt + (iv 12 38).toInt) - (iv 12 37).toInt = 4 ∧ sg (fa 12 32 (((iv 12 37).toInt).toNat + 0)).toInt = 110 ∧ sg (fa 12 32 (((iv 12 37).toInt).toNat + 1)).toInt = 97 ∧ sg (fa 12 32 (((iv 12 37).toInt).toNat + 2)).toInt = 109 ∧ sg (fa 12 32 (((iv 12 37).toInt).toNat + 3)).toInt = 101 := h9; have h7 := h8.2.2.2.2; clear h8 h9; omega)⟩)), (show ((0 : Int32).toInt = 0 ∨ ((iv 12 38) : Int32).toInt = 4) from by omega)⟩, ht9⟩) (fun q hq => by cases hq) dX12_isWord_113
                                                · exact absurd c40 (by decide)
                                              · have fc39 := z_eq (rfl : (v34).toInt = _) (by decide : (101 : Int32).toInt = 101) c39
                                                refine lv_iconst (v := 1) hx hb dX12_isWord_98 (by decide) ?_
                                                refine lv_goto (tgt := 103) hx hb dX12_isWord_99 (by decide) ?_
                                                refine lv_istore (lv' := [(8, .int 1), (9, .int 3), (0, .ref h), (1, .int 4), (2, .int 110), (3, .int 97), (4, .int 109), (5, .int 101), (6, .int 0), (7, .int 0)]) hx hb dX12_isWord_103 hl (by decide) rfl (fun ls hl => ?_)
                                                refine lv_iinc (v := 4) (lv' := [(9, .int 4), (8, .int 1), (0, .ref h), (1, .int 4), (2, .int 110), (3, .int 97), (4, .int 109), (5, .int 101), (6, .int 0), (7, .int 0)]) hx hb dX12_isWord_105 hl (k := 1) rfl (by decide) (by decide) rfl (fun ls hl => ?_)
                                                refine lv_goto (tgt := 18) hx hb dX12_isWord_108 (by decide) ?_
                                                refine lv_iload hx hb dX12_isWord_18 (lv_at hl 0 rfl) ?_
                                                refine lv_iload_n hx hb dX12_isWord_20 rfl (lv_at hl 3 rfl) ?_
                                                refine lv_icmp_ge (tgt := 111) hx hb dX12_isWord_21 (by decide) (fun c41 => ?_) (fun c41 => ?_)
                                                · skip
                                                  refine lv_iload hx hb dX12_isWord_111 (lv_at hl 1 rfl) ?_
                                                  have : (1 : Int32).toInt = 1 := (by decide)
                                                  exact W.zret (v := 1) hx hb hr rfl (fun t ht9 hW => ⟨1, rfl, ⟨⟨by decide, by decide⟩, (show (((1 : Int32).toInt = 1 ∧ w_name (fun j => sg ((fa 12 32) j).toInt) ((iv 12 37) : Int32).toInt (((iv 12 37) : Int32).toInt + ((iv 12 38) : Int32).toInt)) ∨ ((1 : Int32).toInt = 0 ∧ ¬ w_name (fun j => sg ((fa 12 32) j).toInt) ((iv 12 37) : Int32).toInt (((iv 12 37) : Int32).toInt + ((iv 12 38) : Int32).toInt))) from (by have q0 := congrArg Int32.toInt (ev7.trans (congrArg (fa 12 32) (show (v6 : Int32).toNatClampNeg = ((iv 12 37).toInt).toNat + 0 from (by show (v6 : Int32).toInt.toNat = _; omega)))); have s0 := sg_i (v7 : Int32).toInt; rw [q0] at s0; have q1 := congrArg Int32.toInt (ev15.trans (congrArg (fa 12 32) (show (v14 : Int32).toNatClampNeg = ((iv 12 37).toInt).toNat + 1 from (by show (v14 : Int32).toInt.toNat = _; omega)))); have s1 := sg_i (v15 : Int32).toInt; rw [q1] at s1; have q2 := congrArg Int32.toInt (ev24.trans (congrArg (fa 12 32) (show (v23 : Int32).toNatClampNeg = ((iv 12 37).toInt).toNat + 2 from (by show (v23 : Int32).toInt.toNat = _; omega)))); have s2 := sg_i (v24 : Int32).toInt; rw [q2] at s2; have q3 := congrArg Int32.toInt (ev34.trans (congrArg (fa 12 32) (show (v33 : Int32).toNatClampNeg = ((iv 12 37).toInt).toNat + 3 from (by show (v33 : Int32).toInt.toNat = _; omega)))); have s3 := sg_i (v34 : Int32).toInt; rw [q3] at s3; exact Or.inl ⟨by omega, (show ((iv 12 37).toInt + (iv 12 38).toInt) - (iv 12 37).toInt = 4 ∧ sg (fa 12 32 (((iv 12 37).toInt).toNat + 0)).toInt = 110 ∧ sg (fa 12 32 (((iv 12 37).toInt).toNat + 1)).toInt = 97 ∧ sg (fa 12 32 (((iv 12 37).toInt).toNat + 2)).toInt = 109 ∧ sg (fa 12 32 (((iv 12 37).toInt).toNat + 3)).toInt = 101 from ⟨by omega, by omega, by omega, by omega, by omega⟩)⟩)), (show ((1 : Int32).toInt = 0 ∨ ((iv 12 38) : Int32).toInt = 4) from by omega)⟩, ht9⟩) (fun q hq => by cases hq) dX12_isWord_113
                                                · exact absurd c41 (by decide)
                                          · exact absurd c37 (by decide)
                                        · exact absurd c36 (by decide)
                                      · exact absurd c35 (by decide)
                            · exact absurd c26 (by decide)
                          · exact absurd c25 (by decide)
                · exact absurd c16 (by decide)
set_option maxHeartbeats 4000000 in
set_option maxRecDepth 100000 in
/-- X12_isWord -/
theorem c_X12_isWord_r_strike (l : Launch) (dC : Nat → ClassId) (dI : Nat → Nat → Nat) (h : Nat) (g : Nat → Nat → Nat) (ca : Nat → Nat → ClassId) (iv : Nat → Nat → Int32) (lv : Nat → Nat → Int64) (fa : Nat → Nat → Nat → Int32) (la : Nat → Nat → Nat → Int64) (hI : IX iv fa) (p_0 : (iv 12 37).toInt + (iv 12 38).toInt ≤ 200) : Met l yX12_isWord (wc yX12_isWord cX12_isWord 10 (some .boolean)) ({ frames := 0, cells := 0, slots := 0, locals := 0 } : Room) (pR (dC, dI) classes (WM h g ca iv lv fa la) (TM ca) [.ref h, .int 6, .int 115, .int 116, .int 114, .int 105, .int 107, .int 101]) (vp_Si (fun r => (0 ≤ r.toInt ∧ r.toInt ≤ 1) ∧ (((r.toInt = 1 ∧ w_strike (fun j => sg ((fa 12 32) j).toInt) (iv 12 37).toInt ((iv 12 37).toInt + (iv 12 38).toInt)) ∨ (r.toInt = 0 ∧ ¬ w_strike (fun j => sg ((fa 12 32) j).toInt) (iv 12 37).toInt ((iv 12 37).toInt + (iv 12 38).toInt)))) ∧ ((r.toInt = 0 ∨ (iv 12 38).toInt = 6)))) 0 0 (fun _ => False) := by
  refine Met.ofW (cc := cX12_isWord) (maxL := 10) (ret := (some .boolean)) (by decide) rfl ?_
  intro p e s m args below meth c s₁ B hml hv
  obtain ⟨rfl, hP, hK⟩ := hv
  have hx := B.exec
  have hb := B.bytes
  have hr := B.returns
  have ht := tb_tl (atoms_spec (ws := wc yX12_isWord cX12_isWord 10 (some .boolean)) B.pre)
  have hown : s.vm.findClass RX12 = some m.cls := findClass_of_methodNamed B.named
  have hlocks := B.notSynchronized
  have hl := lv_entry [.ref h, .int 6, .int 115, .int 116, .int 114, .int 105, .int 107, .int 101] (n := 10) (Nat.le_of_ble_eq_true rfl)
  rw [lg_entry_eq]
  generalize (lg_sl [.ref h, .int 6, .int 115, .int 116, .int 114, .int 105, .int 107, .int 101] ++ List.replicate (10 - (lg_sl [.ref h, .int 6, .int 115, .int 116, .int 114, .int 105, .int 107, .int 101]).length) Slot.unset).toArray = ls at hl ⊢
  have hl : lv_has ls 10 [(0, .ref h), (1, .int 6), (2, .int 115), (3, .int 116), (4, .int 114), (5, .int 105), (6, .int 107), (7, .int 101)] := hl
  refine lv_aload_n hx hb dX12_isWord_0 rfl (lv_at hl 0 rfl) ?_
  have i_12_38 : 0 ≤ (iv 12 38).toInt ∧ (iv 12 38).toInt ≤ 200 := hI.1 12 38
  refine gM_12_38 hx hb ht hown hK hP m_1177 (v := (iv 12 38)) rfl dX12_isWord_1 ?_
  refine lv_iload_n hx hb dX12_isWord_4 rfl (lv_at hl 1 rfl) ?_
  refine lv_icmp_ne (tgt := 12) hx hb dX12_isWord_5 (by decide) (fun c1 => ?_) (fun c1 => ?_)
  · have fc1 := z_ne (rfl : ((iv 12 38)).toInt = _) (by decide : (6 : Int32).toInt = 6) c1
    refine lv_iconst (v := 0) hx hb dX12_isWord_12 (by decide) ?_
    refine lv_istore (lv' := [(8, .int 0), (0, .ref h), (1, .int 6), (2, .int 115), (3, .int 116), (4, .int 114), (5, .int 105), (6, .int 107), (7, .int 101)]) hx hb dX12_isWord_13 hl (by decide) rfl (fun ls hl => ?_)
    refine lv_iconst (v := 0) hx hb dX12_isWord_15 (by decide) ?_
    refine lv_istore (lv' := [(9, .int 0), (8, .int 0), (0, .ref h), (1, .int 6), (2, .int 115), (3, .int 116), (4, .int 114), (5, .int 105), (6, .int 107), (7, .int 101)]) hx hb dX12_isWord_16 hl (by decide) rfl (fun ls hl => ?_)
    refine lv_iload hx hb dX12_isWord_18 (lv_at hl 0 rfl) ?_
    refine lv_iload_n hx hb dX12_isWord_20 rfl (lv_at hl 3 rfl) ?_
    refine lv_icmp_ge (tgt := 111) hx hb dX12_isWord_21 (by decide) (fun c2 => ?_) (fun c2 => ?_)
    · exact absurd c2 (by decide)
    · skip
      refine lv_iload hx hb dX12_isWord_24 (lv_at hl 1 rfl) ?_
      refine lv_if_eq (tgt := 111) hx hb dX12_isWord_26 (by decide) (fun c3 => ?_) (fun c3 => ?_)
      · skip
        refine lv_iload hx hb dX12_isWord_111 (lv_at hl 1 rfl) ?_
        have : (0 : Int32).toInt = 0 := (by decide)
        have i_12_37 : 0 ≤ (iv 12 37).toInt ∧ (iv 12 37).toInt ≤ 200 := hI.1 12 37
        exact W.zret (v := 0) hx hb hr rfl (fun t ht9 hW => ⟨0, rfl, ⟨⟨by decide, by decide⟩, (show (((0 : Int32).toInt = 1 ∧ w_strike (fun j => sg ((fa 12 32) j).toInt) ((iv 12 37) : Int32).toInt (((iv 12 37) : Int32).toInt + ((iv 12 38) : Int32).toInt)) ∨ ((0 : Int32).toInt = 0 ∧ ¬ w_strike (fun j => sg ((fa 12 32) j).toInt) ((iv 12 37) : Int32).toInt (((iv 12 37) : Int32).toInt + ((iv 12 38) : Int32).toInt))) from (by exact Or.inr ⟨by omega, fun h9 => (by have h8 : ((iv 12 37).toInt + (iv 12 38).toInt) - (iv 12 37).toInt = 6 ∧ sg (fa 12 32 (((iv 12 37).toInt).toNat + 0)).toInt = 115 ∧ sg (fa 12 32 (((iv 12 37).toInt).toNat + 1)).toInt = 116 ∧ sg (fa 12 32 (((iv 12 37).toInt).toNat + 2)).toInt = 114 ∧ sg (fa 12 32 (((iv 12 37).toInt).toNat + 3)).toInt = 105 ∧ sg (fa 12 32 (((iv 12 37).toInt).toNat + 4)).toInt = 107 ∧ sg (fa 12 32 (((iv 12 37).toInt).toNat + 5)).toInt = 101 := h9; have h7 := h8.1; omega)⟩)), (show ((0 : Int32).toInt = 0 ∨ ((iv 12 38) : Int32).toInt = 6) from by omega)⟩, ht9⟩) (fun q hq => by cases hq) dX12_isWord_113
      · exact absurd rfl c3
  · have fc1 := z_eq (rfl : ((iv 12 38)).toInt = _) (by decide : (6 : Int32).toInt = 6) c1
    refine lv_iconst (v := 1) hx hb dX12_isWord_8 (by decide) ?_
    refine lv_goto (tgt := 13) hx hb dX12_isWord_9 (by decide) ?_
    refine lv_istore (lv' := [(8, .int 1), (0, .ref h), (1, .int 6), (2, .int 115), (3, .int 116), (4, .int 114), (5, .int 105), (6, .int 107), (7, .int 101)]) hx hb dX12_isWord_13 hl (by decide) rfl (fun ls hl => ?_)
    refine lv_iconst (v := 0) hx hb dX12_isWord_15 (by decide) ?_
    refine lv_istore (lv' := [(9, .int 0), (8, .int 1), (0, .ref h), (1, .int 6), (2, .int 115), (3, .int 116), (4, .int 114), (5, .int 105), (6, .int 107), (7, .int 101)]) hx hb dX12_isWord_16 hl (by decide) rfl (fun ls hl => ?_)
    refine lv_iload hx hb dX12_isWord_18 (lv_at hl 0 rfl) ?_
    refine lv_iload_n hx hb dX12_isWord_20 rfl (lv_at hl 3 rfl) ?_
    refine lv_icmp_ge (tgt := 111) hx hb dX12_isWord_21 (by decide) (fun c4 => ?_) (fun c4 => ?_)
    · exact absurd c4 (by decide)
    · skip
      refine lv_iload hx hb dX12_isWord_24 (lv_at hl 1 rfl) ?_
      refine lv_if_eq (tgt := 111) hx hb dX12_isWord_26 (by decide) (fun c5 => ?_) (fun c5 => ?_)
      · exact absurd c5 (by decide)
      · skip
        refine lv_aload_n hx hb dX12_isWord_29 rfl (lv_at hl 2 rfl) ?_
        refine gM_12_32 hx hb ht hown hK hP m_1171 dX12_isWord_30 ?_
        refine lv_aload_n hx hb dX12_isWord_33 rfl (lv_at hl 2 rfl) ?_
        have i_12_37 : 0 ≤ (iv 12 37).toInt ∧ (iv 12 37).toInt ≤ 200 := hI.1 12 37
        refine gM_12_37 hx hb ht hown hK hP m_1176 (v := (iv 12 37)) rfl dX12_isWord_34 ?_
        refine lv_iload hx hb dX12_isWord_37 (lv_at hl 0 rfl) ?_
        refine lv_iadd hx hb dX12_isWord_39 ?_
        refine lv_topi (fun v6 ev6 => ?_)
        have tv6 := z_add ev6 (rfl : ((iv 12 37)).toInt = _) (by decide : (0 : Int32).toInt = 0) (by omega) (by omega)
        have : 0 ≤ (v6 : Int32).toInt ∧ (v6 : Int32).toInt ≤ 199 := ⟨by omega, by omega⟩
        refine lM_12_32 hx hb hK hP (f := (fa 12 32)) rfl (vp_in_iff.mpr ⟨by omega, by omega⟩) dX12_isWord_40 ?_
        refine lv_topi (fun v7 ev7 => ?_)
        refine lv_iload hx hb dX12_isWord_41 (lv_at hl 0 rfl) ?_
        refine lv_if_ne (tgt := 50) hx hb dX12_isWord_43 (by decide) (fun c8 => ?_) (fun c8 => ?_)
        · exact absurd rfl c8
        · skip
          refine lv_iload_n hx hb dX12_isWord_46 rfl (lv_at hl 4 rfl) ?_
          refine lv_goto (tgt := 95) hx hb dX12_isWord_47 (by decide) ?_
          refine lv_icmp_ne (tgt := 102) hx hb dX12_isWord_95 (by decide) (fun c9 => ?_) (fun c9 => ?_)
          · have fc9 := z_ne (rfl : (v7).toInt = _) (by decide : (115 : Int32).toInt = 115) c9
            refine lv_iconst (v := 0) hx hb dX12_isWord_102 (by decide) ?_
            refine lv_istore (lv' := [(8, .int 0), (9, .int 0), (0, .ref h), (1, .int 6), (2, .int 115), (3, .int 116), (4, .int 114), (5, .int 105), (6, .int 107), (7, .int 101)]) hx hb dX12_isWord_103 hl (by decide) rfl (fun ls hl => ?_)
            refine lv_iinc (v := 1) (lv' := [(9, .int 1), (8, .int 0), (0, .ref h), (1, .int 6), (2, .int 115), (3, .int 116), (4, .int 114), (5, .int 105), (6, .int 107), (7, .int 101)]) hx hb dX12_isWord_105 hl (k := 1) rfl (by decide) (by decide) rfl (fun ls hl => ?_)
            refine lv_goto (tgt := 18) hx hb dX12_isWord_108 (by decide) ?_
            refine lv_iload hx hb dX12_isWord_18 (lv_at hl 0 rfl) ?_
            refine lv_iload_n hx hb dX12_isWord_20 rfl (lv_at hl 3 rfl) ?_
            refine lv_icmp_ge (tgt := 111) hx hb dX12_isWord_21 (by decide) (fun c10 => ?_) (fun c10 => ?_)
            · exact absurd c10 (by decide)
            · skip
              refine lv_iload hx hb dX12_isWord_24 (lv_at hl 1 rfl) ?_
              refine lv_if_eq (tgt := 111) hx hb dX12_isWord_26 (by decide) (fun c11 => ?_) (fun c11 => ?_)
              · skip
                refine lv_iload hx hb dX12_isWord_111 (lv_at hl 1 rfl) ?_
                have : (0 : Int32).toInt = 0 := (by decide)
                exact W.zret (v := 0) hx hb hr rfl (fun t ht9 hW => ⟨0, rfl, ⟨⟨by decide, by decide⟩, (show (((0 : Int32).toInt = 1 ∧ w_strike (fun j => sg ((fa 12 32) j).toInt) ((iv 12 37) : Int32).toInt (((iv 12 37) : Int32).toInt + ((iv 12 38) : Int32).toInt)) ∨ ((0 : Int32).toInt = 0 ∧ ¬ w_strike (fun j => sg ((fa 12 32) j).toInt) ((iv 12 37) : Int32).toInt (((iv 12 37) : Int32).toInt + ((iv 12 38) : Int32).toInt))) from (by have q0 := congrArg Int32.toInt (ev7.trans (congrArg (fa 12 32) (show (v6 : Int32).toNatClampNeg = ((iv 12 37).toInt).toNat + 0 from (by show (v6 : Int32).toInt.toNat = _; omega)))); have s0 := sg_i (v7 : Int32).toInt; rw [q0] at s0; exact Or.inr ⟨by omega, fun h9 => (by have h8 : ((iv 12 37).toInt + (iv 12 38).toInt) - (iv 12 37).toInt = 6 ∧ sg (fa 12 32 (((iv 12 37).toInt).toNat + 0)).toInt = 115 ∧ sg (fa 12 32 (((iv 12 37).toInt).toNat + 1)).toInt = 116 ∧ sg (fa 12 32 (((iv 12 37).toInt).toNat + 2)).toInt = 114 ∧ sg (fa 12 32 (((iv 12 37).toInt).toNat + 3)).toInt = 105 ∧ sg (fa 12 32 (((iv 12 37).toInt).toNat + 4)).toInt = 107 ∧ sg (fa 12 32 (((iv 12 37).toInt).toNat + 5)).toInt = 101 := h9; have h7 := h8.2.1; clear h8 h9; omega)⟩)), (show ((0 : Int32).toInt = 0 ∨ ((iv 12 38) : Int32).toInt = 6) from by omega)⟩, ht9⟩) (fun q hq => by cases hq) dX12_isWord_113
              · exact absurd rfl c11
          · have fc9 := z_eq (rfl : (v7).toInt = _) (by decide : (115 : Int32).toInt = 115) c9
            refine lv_iconst (v := 1) hx hb dX12_isWord_98 (by decide) ?_
            refine lv_goto (tgt := 103) hx hb dX12_isWord_99 (by decide) ?_
            refine lv_istore (lv' := [(8, .int 1), (9, .int 0), (0, .ref h), (1, .int 6), (2, .int 115), (3, .int 116), (4, .int 114), (5, .int 105), (6, .int 107), (7, .int 101)]) hx hb dX12_isWord_103 hl (by decide) rfl (fun ls hl => ?_)
            refine lv_iinc (v := 1) (lv' := [(9, .int 1), (8, .int 1), (0, .ref h), (1, .int 6), (2, .int 115), (3, .int 116), (4, .int 114), (5, .int 105), (6, .int 107), (7, .int 101)]) hx hb dX12_isWord_105 hl (k := 1) rfl (by decide) (by decide) rfl (fun ls hl => ?_)
            refine lv_goto (tgt := 18) hx hb dX12_isWord_108 (by decide) ?_
            refine lv_iload hx hb dX12_isWord_18 (lv_at hl 0 rfl) ?_
            refine lv_iload_n hx hb dX12_isWord_20 rfl (lv_at hl 3 rfl) ?_
            refine lv_icmp_ge (tgt := 111) hx hb dX12_isWord_21 (by decide) (fun c12 => ?_) (fun c12 => ?_)
            · exact absurd c12 (by decide)
            · skip
              refine lv_iload hx hb dX12_isWord_24 (lv_at hl 1 rfl) ?_
              refine lv_if_eq (tgt := 111) hx hb dX12_isWord_26 (by decide) (fun c13 => ?_) (fun c13 => ?_)
              · exact absurd c13 (by decide)
              · skip
                refine lv_aload_n hx hb dX12_isWord_29 rfl (lv_at hl 2 rfl) ?_
                refine gM_12_32 hx hb ht hown hK hP m_1171 dX12_isWord_30 ?_
                refine lv_aload_n hx hb dX12_isWord_33 rfl (lv_at hl 2 rfl) ?_
                refine gM_12_37 hx hb ht hown hK hP m_1176 (v := (iv 12 37)) rfl dX12_isWord_34 ?_
                refine lv_iload hx hb dX12_isWord_37 (lv_at hl 0 rfl) ?_
                refine lv_iadd hx hb dX12_isWord_39 ?_
                refine lv_topi (fun v14 ev14 => ?_)
                have tv14 := z_add ev14 (rfl : ((iv 12 37)).toInt = _) (by decide : (1 : Int32).toInt = 1) (by omega) (by omega)
                have : 0 ≤ (v14 : Int32).toInt ∧ (v14 : Int32).toInt ≤ 199 := ⟨by omega, by omega⟩
                refine lM_12_32 hx hb hK hP (f := (fa 12 32)) rfl (vp_in_iff.mpr ⟨by omega, by omega⟩) dX12_isWord_40 ?_
                refine lv_topi (fun v15 ev15 => ?_)
                refine lv_iload hx hb dX12_isWord_41 (lv_at hl 0 rfl) ?_
                refine lv_if_ne (tgt := 50) hx hb dX12_isWord_43 (by decide) (fun c16 => ?_) (fun c16 => ?_)
                · skip
                  refine lv_iload hx hb dX12_isWord_50 (lv_at hl 0 rfl) ?_
                  refine lv_iconst (v := 1) hx hb dX12_isWord_52 (by decide) ?_
                  refine lv_icmp_ne (tgt := 60) hx hb dX12_isWord_53 (by decide) (fun c17 => ?_) (fun c17 => ?_)
                  · exact absurd rfl c17
                  · skip
                    refine lv_iload_n hx hb dX12_isWord_56 rfl (lv_at hl 5 rfl) ?_
                    refine lv_goto (tgt := 95) hx hb dX12_isWord_57 (by decide) ?_
                    refine lv_icmp_ne (tgt := 102) hx hb dX12_isWord_95 (by decide) (fun c18 => ?_) (fun c18 => ?_)
                    · have fc18 := z_ne (rfl : (v15).toInt = _) (by decide : (116 : Int32).toInt = 116) c18
                      refine lv_iconst (v := 0) hx hb dX12_isWord_102 (by decide) ?_
                      refine lv_istore (lv' := [(8, .int 0), (9, .int 1), (0, .ref h), (1, .int 6), (2, .int 115), (3, .int 116), (4, .int 114), (5, .int 105), (6, .int 107), (7, .int 101)]) hx hb dX12_isWord_103 hl (by decide) rfl (fun ls hl => ?_)
                      refine lv_iinc (v := 2) (lv' := [(9, .int 2), (8, .int 0), (0, .ref h), (1, .int 6), (2, .int 115), (3, .int 116), (4, .int 114), (5, .int 105), (6, .int 107), (7, .int 101)]) hx hb dX12_isWord_105 hl (k := 1) rfl (by decide) (by decide) rfl (fun ls hl => ?_)
                      refine lv_goto (tgt := 18) hx hb dX12_isWord_108 (by decide) ?_
                      refine lv_iload hx hb dX12_isWord_18 (lv_at hl 0 rfl) ?_
                      refine lv_iload_n hx hb dX12_isWord_20 rfl (lv_at hl 3 rfl) ?_
                      refine lv_icmp_ge (tgt := 111) hx hb dX12_isWord_21 (by decide) (fun c19 => ?_) (fun c19 => ?_)
                      · exact absurd c19 (by decide)
                      · skip
                        refine lv_iload hx hb dX12_isWord_24 (lv_at hl 1 rfl) ?_
                        refine lv_if_eq (tgt := 111) hx hb dX12_isWord_26 (by decide) (fun c20 => ?_) (fun c20 => ?_)
                        · skip
                          refine lv_iload hx hb dX12_isWord_111 (lv_at hl 1 rfl) ?_
                          have : (0 : Int32).toInt = 0 := (by decide)
                          exact W.zret (v := 0) hx hb hr rfl (fun t ht9 hW => ⟨0, rfl, ⟨⟨by decide, by decide⟩, (show (((0 : Int32).toInt = 1 ∧ w_strike (fun j => sg ((fa 12 32) j).toInt) ((iv 12 37) : Int32).toInt (((iv 12 37) : Int32).toInt + ((iv 12 38) : Int32).toInt)) ∨ ((0 : Int32).toInt = 0 ∧ ¬ w_strike (fun j => sg ((fa 12 32) j).toInt) ((iv 12 37) : Int32).toInt (((iv 12 37) : Int32).toInt + ((iv 12 38) : Int32).toInt))) from (by have q0 := congrArg Int32.toInt (ev7.trans (congrArg (fa 12 32) (show (v6 : Int32).toNatClampNeg = ((iv 12 37).toInt).toNat + 0 from (by show (v6 : Int32).toInt.toNat = _; omega)))); have s0 := sg_i (v7 : Int32).toInt; rw [q0] at s0; have q1 := congrArg Int32.toInt (ev15.trans (congrArg (fa 12 32) (show (v14 : Int32).toNatClampNeg = ((iv 12 37).toInt).toNat + 1 from (by show (v14 : Int32).toInt.toNat = _; omega)))); have s1 := sg_i (v15 : Int32).toInt; rw [q1] at s1; exact Or.inr ⟨by omega, fun h9 => (by have h8 : ((iv 12 37).toInt + (iv 12 38).toInt) - (iv 12 37).toInt = 6 ∧ sg (fa 12 32 (((iv 12 37).toInt).toNat + 0)).toInt = 115 ∧ sg (fa 12 32 (((iv 12 37).toInt).toNat + 1)).toInt = 116 ∧ sg (fa 12 32 (((iv 12 37).toInt).toNat + 2)).toInt = 114 ∧ sg (fa 12 32 (((iv 12 37).toInt).toNat + 3)).toInt = 105 ∧ sg (fa 12 32 (((iv 12 37).toInt).toNat + 4)).toInt = 107 ∧ sg (fa 12 32 (((iv 12 37).toInt).toNat + 5)).toInt = 101 := h9; have h7 := h8.2.2.1; clear h8 h9; omega)⟩)), (show ((0 : Int32).toInt = 0 ∨ ((iv 12 38) : Int32).toInt = 6) from by omega)⟩, ht9⟩) (fun q hq => by cases hq) dX12_isWord_113
                        · exact absurd rfl c20
                    · have fc18 := z_eq (rfl : (v15).toInt = _) (by decide : (116 : Int32).toInt = 116) c18
                      refine lv_iconst (v := 1) hx hb dX12_isWord_98 (by decide) ?_
                      refine lv_goto (tgt := 103) hx hb dX12_isWord_99 (by decide) ?_
                      refine lv_istore (lv' := [(8, .int 1), (9, .int 1), (0, .ref h), (1, .int 6), (2, .int 115), (3, .int 116), (4, .int 114), (5, .int 105), (6, .int 107), (7, .int 101)]) hx hb dX12_isWord_103 hl (by decide) rfl (fun ls hl => ?_)
                      refine lv_iinc (v := 2) (lv' := [(9, .int 2), (8, .int 1), (0, .ref h), (1, .int 6), (2, .int 115), (3, .int 116), (4, .int 114), (5, .int 105), (6, .int 107), (7, .int 101)]) hx hb dX12_isWord_105 hl (k := 1) rfl (by decide) (by decide) rfl (fun ls hl => ?_)
                      refine lv_goto (tgt := 18) hx hb dX12_isWord_108 (by decide) ?_
                      refine lv_iload hx hb dX12_isWord_18 (lv_at hl 0 rfl) ?_
                      refine lv_iload_n hx hb dX12_isWord_20 rfl (lv_at hl 3 rfl) ?_
                      refine lv_icmp_ge (tgt := 111) hx hb dX12_isWord_21 (by decide) (fun c21 => ?_) (fun c21 => ?_)
                      · exact absurd c21 (by decide)
                      · skip
                        refine lv_iload hx hb dX12_isWord_24 (lv_at hl 1 rfl) ?_
                        refine lv_if_eq (tgt := 111) hx hb dX12_isWord_26 (by decide) (fun c22 => ?_) (fun c22 => ?_)
                        · exact absurd c22 (by decide)
                        · skip
                          refine lv_aload_n hx hb dX12_isWord_29 rfl (lv_at hl 2 rfl) ?_
                          refine gM_12_32 hx hb ht hown hK hP m_1171 dX12_isWord_30 ?_
                          refine lv_aload_n hx hb dX12_isWord_33 rfl (lv_at hl 2 rfl) ?_
                          refine gM_12_37 hx hb ht hown hK hP m_1176 (v := (iv 12 37)) rfl dX12_isWord_34 ?_
                          refine lv_iload hx hb dX12_isWord_37 (lv_at hl 0 rfl) ?_
                          refine lv_iadd hx hb dX12_isWord_39 ?_
                          refine lv_topi (fun v23 ev23 => ?_)
                          have tv23 := z_add ev23 (rfl : ((iv 12 37)).toInt = _) (by decide : (2 : Int32).toInt = 2) (by omega) (by omega)
                          have : 0 ≤ (v23 : Int32).toInt ∧ (v23 : Int32).toInt ≤ 199 := ⟨by omega, by omega⟩
                          refine lM_12_32 hx hb hK hP (f := (fa 12 32)) rfl (vp_in_iff.mpr ⟨by omega, by omega⟩) dX12_isWord_40 ?_
                          refine lv_topi (fun v24 ev24 => ?_)
                          refine lv_iload hx hb dX12_isWord_41 (lv_at hl 0 rfl) ?_
                          refine lv_if_ne (tgt := 50) hx hb dX12_isWord_43 (by decide) (fun c25 => ?_) (fun c25 => ?_)
                          · skip
                            refine lv_iload hx hb dX12_isWord_50 (lv_at hl 0 rfl) ?_
                            refine lv_iconst (v := 1) hx hb dX12_isWord_52 (by decide) ?_
                            refine lv_icmp_ne (tgt := 60) hx hb dX12_isWord_53 (by decide) (fun c26 => ?_) (fun c26 => ?_)
                            · skip
                              refine lv_iload hx hb dX12_isWord_60 (lv_at hl 0 rfl) ?_
                              refine lv_iconst (v := 2) hx hb dX12_isWord_62 (by decide) ?_
                              refine lv_icmp_ne (tgt := 71) hx hb dX12_isWord_63 (by decide) (fun c27 => ?_) (fun c27 => ?_)
                              · exact absurd rfl c27
                              · skip
                                refine lv_iload hx hb dX12_isWord_66 (lv_at hl 6 rfl) ?_
                                refine lv_goto (tgt := 95) hx hb dX12_isWord_68 (by decide) ?_
                                refine lv_icmp_ne (tgt := 102) hx hb dX12_isWord_95 (by decide) (fun c28 => ?_) (fun c28 => ?_)
                                · have fc28 := z_ne (rfl : (v24).toInt = _) (by decide : (114 : Int32).toInt = 114) c28
                                  refine lv_iconst (v := 0) hx hb dX12_isWord_102 (by decide) ?_
                                  refine lv_istore (lv' := [(8, .int 0), (9, .int 2), (0, .ref h), (1, .int 6), (2, .int 115), (3, .int 116), (4, .int 114), (5, .int 105), (6, .int 107), (7, .int 101)]) hx hb dX12_isWord_103 hl (by decide) rfl (fun ls hl => ?_)
                                  refine lv_iinc (v := 3) (lv' := [(9, .int 3), (8, .int 0), (0, .ref h), (1, .int 6), (2, .int 115), (3, .int 116), (4, .int 114), (5, .int 105), (6, .int 107), (7, .int 101)]) hx hb dX12_isWord_105 hl (k := 1) rfl (by decide) (by decide) rfl (fun ls hl => ?_)
                                  refine lv_goto (tgt := 18) hx hb dX12_isWord_108 (by decide) ?_
                                  refine lv_iload hx hb dX12_isWord_18 (lv_at hl 0 rfl) ?_
                                  refine lv_iload_n hx hb dX12_isWord_20 rfl (lv_at hl 3 rfl) ?_
                                  refine lv_icmp_ge (tgt := 111) hx hb dX12_isWord_21 (by decide) (fun c29 => ?_) (fun c29 => ?_)
                                  · exact absurd c29 (by decide)
                                  · skip
                                    refine lv_iload hx hb dX12_isWord_24 (lv_at hl 1 rfl) ?_
                                    refine lv_if_eq (tgt := 111) hx hb dX12_isWord_26 (by decide) (fun c30 => ?_) (fun c30 => ?_)
                                    · skip
                                      refine lv_iload hx hb dX12_isWord_111 (lv_at hl 1 rfl) ?_
                                      have : (0 : Int32).toInt = 0 := (by decide)
                                      exact W.zret (v := 0) hx hb hr rfl (fun t ht9 hW => ⟨0, rfl, ⟨⟨by decide, by decide⟩, (show (((0 : Int32).toInt = 1 ∧ w_strike (fun j => sg ((fa 12 32) j).toInt) ((iv 12 37) : Int32).toInt (((iv 12 37) : Int32).toInt + ((iv 12 38) : Int32).toInt)) ∨ ((0 : Int32).toInt = 0 ∧ ¬ w_strike (fun j => sg ((fa 12 32) j).toInt) ((iv 12 37) : Int32).toInt (((iv 12 37) : Int32).toInt + ((iv 12 38) : Int32).toInt))) from (by have q0 := congrArg Int32.toInt (ev7.trans (congrArg (fa 12 32) (show (v6 : Int32).toNatClampNeg = ((iv 12 37).toInt).toNat + 0 from (by show (v6 : Int32).toInt.toNat = _; omega)))); have s0 := sg_i (v7 : Int32).toInt; rw [q0] at s0; have q1 := congrArg Int32.toInt (ev15.trans (congrArg (fa 12 32) (show (v14 : Int32).toNatClampNeg = ((iv 12 37).toInt).toNat + 1 from (by show (v14 : Int32).toInt.toNat = _; omega)))); have s1 := sg_i (v15 : Int32).toInt; rw [q1] at s1; have q2 := congrArg Int32.toInt (ev24.trans (congrArg (fa 12 32) (show (v23 : Int32).toNatClampNeg = ((iv 12 37).toInt).toNat + 2 from (by show (v23 : Int32).toInt.toNat = _; omega)))); have s2 := sg_i (v24 : Int32).toInt; rw [q2] at s2; exact Or.inr ⟨by omega, fun h9 => (by have h8 : ((iv 12 37).toInt + (iv 12 38).toInt) - (iv 12 37).toInt = 6 ∧ sg (fa 12 32 (((iv 12 37).toInt).toNat + 0)).toInt = 115 ∧ sg (fa 12 32 (((iv 12 37).toInt).toNat + 1)).toInt = 116 ∧ sg (fa 12 32 (((iv 12 37).toInt).toNat + 2)).toInt = 114 ∧ sg (fa 12 32 (((iv 12 37).toInt).toNat + 3)).toInt = 105 ∧ sg (fa 12 32 (((iv 12 37).toInt).toNat + 4)).toInt = 107 ∧ sg (fa 12 32 (((iv 12 37).toInt).toNat + 5)).toInt = 101 := h9; have h7 := h8.2.2.2.1; clear h8 h9; omega)⟩)), (show ((0 : Int32).toInt = 0 ∨ ((iv 12 38) : Int32).toInt = 6) from by omega)⟩, ht9⟩) (fun q hq => by cases hq) dX12_isWord_113
                                    · exact absurd rfl c30
                                · have fc28 := z_eq (rfl : (v24).toInt = _) (by decide : (114 : Int32).toInt = 114) c28
                                  refine lv_iconst (v := 1) hx hb dX12_isWord_98 (by decide) ?_
                                  refine lv_goto (tgt := 103) hx hb dX12_isWord_99 (by decide) ?_
                                  refine lv_istore (lv' := [(8, .int 1), (9, .int 2), (0, .ref h), (1, .int 6), (2, .int 115), (3, .int 116), (4, .int 114), (5, .int 105), (6, .int 107), (7, .int 101)]) hx hb dX12_isWord_103 hl (by decide) rfl (fun ls hl => ?_)
                                  refine lv_iinc (v := 3) (lv' := [(9, .int 3), (8, .int 1), (0, .ref h), (1, .int 6), (2, .int 115), (3, .int 116), (4, .int 114), (5, .int 105), (6, .int 107), (7, .int 101)]) hx hb dX12_isWord_105 hl (k := 1) rfl (by decide) (by decide) rfl (fun ls hl => ?_)
                                  refine lv_goto (tgt := 18) hx hb dX12_isWord_108 (by decide) ?_
                                  refine lv_iload hx hb dX12_isWord_18 (lv_at hl 0 rfl) ?_
                                  refine lv_iload_n hx hb dX12_isWord_20 rfl (lv_at hl 3 rfl) ?_
                                  refine lv_icmp_ge (tgt := 111) hx hb dX12_isWord_21 (by decide) (fun c31 => ?_) (fun c31 => ?_)
                                  · exact absurd c31 (by decide)
                                  · skip
                                    refine lv_iload hx hb dX12_isWord_24 (lv_at hl 1 rfl) ?_
                                    refine lv_if_eq (tgt := 111) hx hb dX12_isWord_26 (by decide) (fun c32 => ?_) (fun c32 => ?_)
                                    · exact absurd c32 (by decide)
                                    · skip
                                      refine lv_aload_n hx hb dX12_isWord_29 rfl (lv_at hl 2 rfl) ?_
                                      refine gM_12_32 hx hb ht hown hK hP m_1171 dX12_isWord_30 ?_
                                      refine lv_aload_n hx hb dX12_isWord_33 rfl (lv_at hl 2 rfl) ?_
                                      refine gM_12_37 hx hb ht hown hK hP m_1176 (v := (iv 12 37)) rfl dX12_isWord_34 ?_
                                      refine lv_iload hx hb dX12_isWord_37 (lv_at hl 0 rfl) ?_
                                      refine lv_iadd hx hb dX12_isWord_39 ?_
                                      refine lv_topi (fun v33 ev33 => ?_)
                                      have tv33 := z_add ev33 (rfl : ((iv 12 37)).toInt = _) (by decide : (3 : Int32).toInt = 3) (by omega) (by omega)
                                      have : 0 ≤ (v33 : Int32).toInt ∧ (v33 : Int32).toInt ≤ 199 := ⟨by omega, by omega⟩
                                      refine lM_12_32 hx hb hK hP (f := (fa 12 32)) rfl (vp_in_iff.mpr ⟨by omega, by omega⟩) dX12_isWord_40 ?_
                                      refine lv_topi (fun v34 ev34 => ?_)
                                      refine lv_iload hx hb dX12_isWord_41 (lv_at hl 0 rfl) ?_
                                      refine lv_if_ne (tgt := 50) hx hb dX12_isWord_43 (by decide) (fun c35 => ?_) (fun c35 => ?_)
                                      · skip
                                        refine lv_iload hx hb dX12_isWord_50 (lv_at hl 0 rfl) ?_
                                        refine lv_iconst (v := 1) hx hb dX12_isWord_52 (by decide) ?_
                                        refine lv_icmp_ne (tgt := 60) hx hb dX12_isWord_53 (by decide) (fun c36 => ?_) (fun c36 => ?_)
                                        · skip
                                          refine lv_iload hx hb dX12_isWord_60 (lv_at hl 0 rfl) ?_
                                          refine lv_iconst (v := 2) hx hb dX12_isWord_62 (by decide) ?_
                                          refine lv_icmp_ne (tgt := 71) hx hb dX12_isWord_63 (by decide) (fun c37 => ?_) (fun c37 => ?_)
                                          · skip
                                            refine lv_iload hx hb dX12_isWord_71 (lv_at hl 0 rfl) ?_
                                            refine lv_iconst (v := 3) hx hb dX12_isWord_73 (by decide) ?_
                                            refine lv_icmp_ne (tgt := 82) hx hb dX12_isWord_74 (by decide) (fun c38 => ?_) (fun c38 => ?_)
                                            · exact absurd rfl c38
                                            · skip
                                              refine lv_iload hx hb dX12_isWord_77 (lv_at hl 7 rfl) ?_
                                              refine lv_goto (tgt := 95) hx hb dX12_isWord_79 (by decide) ?_
                                              refine lv_icmp_ne (tgt := 102) hx hb dX12_isWord_95 (by decide) (fun c39 => ?_) (fun c39 => ?_)
                                              · have fc39 := z_ne (rfl : (v34).toInt = _) (by decide : (105 : Int32).toInt = 105) c39
                                                refine lv_iconst (v := 0) hx hb dX12_isWord_102 (by decide) ?_
                                                refine lv_istore (lv' := [(8, .int 0), (9, .int 3), (0, .ref h), (1, .int 6), (2, .int 115), (3, .int 116), (4, .int 114), (5, .int 105), (6, .int 107), (7, .int 101)]) hx hb dX12_isWord_103 hl (by decide) rfl (fun ls hl => ?_)
                                                refine lv_iinc (v := 4) (lv' := [(9, .int 4), (8, .int 0), (0, .ref h), (1, .int 6), (2, .int 115), (3, .int 116), (4, .int 114), (5, .int 105), (6, .int 107), (7, .int 101)]) hx hb dX12_isWord_105 hl (k := 1) rfl (by decide) (by decide) rfl (fun ls hl => ?_)
                                                refine lv_goto (tgt := 18) hx hb dX12_isWord_108 (by decide) ?_
                                                refine lv_iload hx hb dX12_isWord_18 (lv_at hl 0 rfl) ?_
                                                refine lv_iload_n hx hb dX12_isWord_20 rfl (lv_at hl 3 rfl) ?_
                                                refine lv_icmp_ge (tgt := 111) hx hb dX12_isWord_21 (by decide) (fun c40 => ?_) (fun c40 => ?_)
                                                · exact absurd c40 (by decide)
                                                · skip
                                                  refine lv_iload hx hb dX12_isWord_24 (lv_at hl 1 rfl) ?_
                                                  refine lv_if_eq (tgt := 111) hx hb dX12_isWord_26 (by decide) (fun c41 => ?_) (fun c41 => ?_)
                                                  · skip
                                                    refine lv_iload hx hb dX12_isWord_111 (lv_at hl 1 rfl) ?_
                                                    have : (0 : Int32).toInt = 0 := (by decide)
                                                    exact W.zret (v := 0) hx hb hr rfl (fun t ht9 hW => ⟨0, rfl, ⟨⟨by decide, by decide⟩, (show (((0 : Int32).toInt = 1 ∧ w_strike (fun j => sg ((fa 12 32) j).toInt) ((iv 12 37) : Int32).toInt (((iv 12 37) : Int32).toInt + ((iv 12 38) : Int32).toInt)) ∨ ((0 : Int32).toInt = 0 ∧ ¬ w_strike (fun j => sg ((fa 12 32) j).toInt) ((iv 12 37) : Int32).toInt (((iv 12 37) : Int32).toInt + ((iv 12 38) : Int32).toInt))) from (by have q0 := congrArg Int32.toInt (ev7.trans (congrArg (fa 12 32) (show (v6 : Int32).toNatClampNeg = ((iv 12 37).toInt).toNat + 0 from (by show (v6 : Int32).toInt.toNat = _; omega)))); have s0 := sg_i (v7 : Int32).toInt; rw [q0] at s0; have q1 := congrArg Int32.toInt (ev15.trans (congrArg (fa 12 32) (show (v14 : Int32).toNatClampNeg = ((iv 12 37).toInt).toNat + 1 from (by show (v14 : Int32).toInt.toNat = _; omega)))); have s1 := sg_i (v15 : Int32).toInt; rw [q1] at s1; have q2 := congrArg Int32.toInt (ev24.trans (congrArg (fa 12 32) (show (v23 : Int32).toNatClampNeg = ((iv 12 37).toInt).toNat + 2 from (by show (v23 : Int32).toInt.toNat = _; omega)))); have s2 := sg_i (v24 : Int32).toInt; rw [q2] at s2; have q3 := congrArg Int32.toInt (ev34.trans (congrArg (fa 12 32) (show (v33 : Int32).toNatClampNeg = ((iv 12 37).toInt).toNat + 3 from (by show (v33 : Int32).toInt.toNat = _; omega)))); have s3 := sg_i (v34 : Int32).toInt; rw [q3] at s3; exact Or.inr ⟨by omega, fun h9 => (by have h8 : ((iv 12 37).toInt + (iv 12 38).toInt) - (iv 12 37).toInt = 6 ∧ sg (fa 12 32 (((iv 12 37).toInt).toNat + 0)).toInt = 115 ∧ sg (fa 12 32 (((iv 12 37).toInt).toNat + 1)).toInt = 116 ∧ sg (fa 12 32 (((iv 12 37).toInt).toNat + 2)).toInt = 114 ∧ sg (fa 12 32 (((iv 12 37).toInt).toNat + 3)).toInt = 105 ∧ sg (fa 12 32 (((iv 12 37).toInt).toNat + 4)).toInt = 107 ∧ sg (fa 12 32 (((iv 12 37).toInt).toNat + 5)).toInt = 101 := h9; have h7 := h8.2.2.2.2.1; clear h8 h9; omega)⟩)), (show ((0 : Int32).toInt = 0 ∨ ((iv 12 38) : Int32).toInt = 6) from by omega)⟩, ht9⟩) (fun q hq => by cases hq) dX12_isWord_113
                                                  · exact absurd rfl c41
                                              · have fc39 := z_eq (rfl : (v34).toInt = _) (by decide : (105 : Int32).toInt = 105) c39
                                                refine lv_iconst (v := 1) hx hb dX12_isWord_98 (by decide) ?_
                                                refine lv_goto (tgt := 103) hx hb dX12_isWord_99 (by decide) ?_
                                                refine lv_istore (lv' := [(8, .int 1), (9, .int 3), (0, .ref h), (1, .int 6), (2, .int 115), (3, .int 116), (4, .int 114), (5, .int 105), (6, .int 107), (7, .int 101)]) hx hb dX12_isWord_103 hl (by decide) rfl (fun ls hl => ?_)
                                                refine lv_iinc (v := 4) (lv' := [(9, .int 4), (8, .int 1), (0, .ref h), (1, .int 6), (2, .int 115), (3, .int 116), (4, .int 114), (5, .int 105), (6, .int 107), (7, .int 101)]) hx hb dX12_isWord_105 hl (k := 1) rfl (by decide) (by decide) rfl (fun ls hl => ?_)
                                                refine lv_goto (tgt := 18) hx hb dX12_isWord_108 (by decide) ?_
                                                refine lv_iload hx hb dX12_isWord_18 (lv_at hl 0 rfl) ?_
                                                refine lv_iload_n hx hb dX12_isWord_20 rfl (lv_at hl 3 rfl) ?_
                                                refine lv_icmp_ge (tgt := 111) hx hb dX12_isWord_21 (by decide) (fun c42 => ?_) (fun c42 => ?_)
                                                · exact absurd c42 (by decide)
                                                · skip
                                                  refine lv_iload hx hb dX12_isWord_24 (lv_at hl 1 rfl) ?_
                                                  refine lv_if_eq (tgt := 111) hx hb dX12_isWord_26 (by decide) (fun c43 => ?_) (fun c43 => ?_)
                                                  · exact absurd c43 (by decide)
                                                  · skip
                                                    refine lv_aload_n hx hb dX12_isWord_29 rfl (lv_at hl 2 rfl) ?_
                                                    refine gM_12_32 hx hb ht hown hK hP m_1171 dX12_isWord_30 ?_
                                                    refine lv_aload_n hx hb dX12_isWord_33 rfl (lv_at hl 2 rfl) ?_
                                                    refine gM_12_37 hx hb ht hown hK hP m_1176 (v := (iv 12 37)) rfl dX12_isWord_34 ?_
                                                    refine lv_iload hx hb dX12_isWord_37 (lv_at hl 0 rfl) ?_
                                                    refine lv_iadd hx hb dX12_isWord_39 ?_
                                                    refine lv_topi (fun v44 ev44 => ?_)
                                                    have tv44 := z_add ev44 (rfl : ((iv 12 37)).toInt = _) (by decide : (4 : Int32).toInt = 4) (by omega) (by omega)
                                                    have : 0 ≤ (v44 : Int32).toInt ∧ (v44 : Int32).toInt ≤ 199 := ⟨by omega, by omega⟩
                                                    refine lM_12_32 hx hb hK hP (f := (fa 12 32)) rfl (vp_in_iff.mpr ⟨by omega, by omega⟩) dX12_isWord_40 ?_
                                                    refine lv_topi (fun v45 ev45 => ?_)
                                                    refine lv_iload hx hb dX12_isWord_41 (lv_at hl 0 rfl) ?_
                                                    refine lv_if_ne (tgt := 50) hx hb dX12_isWord_43 (by decide) (fun c46 => ?_) (fun c46 => ?_)
                                                    · skip
                                                      refine lv_iload hx hb dX12_isWord_50 (lv_at hl 0 rfl) ?_
                                                      refine lv_iconst (v := 1) hx hb dX12_isWord_52 (by decide) ?_
                                                      refine lv_icmp_ne (tgt := 60) hx hb dX12_isWord_53 (by decide) (fun c47 => ?_) (fun c47 => ?_)
                                                      · skip
                                                        refine lv_iload hx hb dX12_isWord_60 (lv_at hl 0 rfl) ?_
                                                        refine lv_iconst (v := 2) hx hb dX12_isWord_62 (by decide) ?_
                                                        refine lv_icmp_ne (tgt := 71) hx hb dX12_isWord_63 (by decide) (fun c48 => ?_) (fun c48 => ?_)
                                                        · skip
                                                          refine lv_iload hx hb dX12_isWord_71 (lv_at hl 0 rfl) ?_
                                                          refine lv_iconst (v := 3) hx hb dX12_isWord_73 (by decide) ?_
                                                          refine lv_icmp_ne (tgt := 82) hx hb dX12_isWord_74 (by decide) (fun c49 => ?_) (fun c49 => ?_)
                                                          · skip
                                                            refine lv_iload hx hb dX12_isWord_82 (lv_at hl 0 rfl) ?_
                                                            refine lv_iconst (v := 4) hx hb dX12_isWord_84 (by decide) ?_
                                                            refine lv_icmp_ne (tgt := 93) hx hb dX12_isWord_85 (by decide) (fun c50 => ?_) (fun c50 => ?_)
                                                            · exact absurd rfl c50
                                                            · skip
                                                              refine lv_iload hx hb dX12_isWord_88 (lv_at hl 8 rfl) ?_
                                                              refine lv_goto (tgt := 95) hx hb dX12_isWord_90 (by decide) ?_
                                                              refine lv_icmp_ne (tgt := 102) hx hb dX12_isWord_95 (by decide) (fun c51 => ?_) (fun c51 => ?_)
                                                              · have fc51 := z_ne (rfl : (v45).toInt = _) (by decide : (107 : Int32).toInt = 107) c51
                                                                refine lv_iconst (v := 0) hx hb dX12_isWord_102 (by decide) ?_
                                                                refine lv_istore (lv' := [(8, .int 0), (9, .int 4), (0, .ref h), (1, .int 6), (2, .int 115), (3, .int 116), (4, .int 114), (5, .int 105), (6, .int 107), (7, .int 101)]) hx hb dX12_isWord_103 hl (by decide) rfl (fun ls hl => ?_)
                                                                refine lv_iinc (v := 5) (lv' := [(9, .int 5), (8, .int 0), (0, .ref h), (1, .int 6), (2, .int 115), (3, .int 116), (4, .int 114), (5, .int 105), (6, .int 107), (7, .int 101)]) hx hb dX12_isWord_105 hl (k := 1) rfl (by decide) (by decide) rfl (fun ls hl => ?_)
                                                                refine lv_goto (tgt := 18) hx hb dX12_isWord_108 (by decide) ?_
                                                                refine lv_iload hx hb dX12_isWord_18 (lv_at hl 0 rfl) ?_
                                                                refine lv_iload_n hx hb dX12_isWord_20 rfl (lv_at hl 3 rfl) ?_
                                                                refine lv_icmp_ge (tgt := 111) hx hb dX12_isWord_21 (by decide) (fun c52 => ?_) (fun c52 => ?_)
                                                                · exact absurd c52 (by decide)
                                                                · skip
                                                                  refine lv_iload hx hb dX12_isWord_24 (lv_at hl 1 rfl) ?_
                                                                  refine lv_if_eq (tgt := 111) hx hb dX12_isWord_26 (by decide) (fun c53 => ?_) (fun c53 => ?_)
                                                                  · skip
                                                                    refine lv_iload hx hb dX12_isWord_111 (lv_at hl 1 rfl) ?_
                                                                    have : (0 : Int32).toInt = 0 := (by decide)
                                                                    exact W.zret (v := 0) hx hb hr rfl (fun t ht9 hW => ⟨0, rfl, ⟨⟨by decide, by decide⟩, (show (((0 : Int32).toInt = 1 ∧ w_strike (fun j => sg ((fa 12 32) j).toInt) ((iv 12 37) : Int32).toInt (((iv 12 37) : Int32).toInt + ((iv 12 38) : Int32).toInt)) ∨ ((0 : Int32).toInt = 0 ∧ ¬ w_strike (fun j => sg ((fa 12 32) j).toInt) ((iv 12 37) : Int32).toInt (((iv 12 37) : Int32).toInt + ((iv 12 38) : Int32).toInt))) from (by have q0 := congrArg Int32.toInt (ev7.trans (congrArg (fa 12 32) (show (v6 : Int32).toNatClampNeg = ((iv 12 37).toInt).toNat + 0 from (by show (v6 : Int32).toInt.toNat = _; omega)))); have s0 := sg_i (v7 : Int32).toInt; rw [q0] at s0; have q1 := congrArg Int32.toInt (ev15.trans (congrArg (fa 12 32) (show (v14 : Int32).toNatClampNeg = ((iv 12 37).toInt).toNat + 1 from (by show (v14 : Int32).toInt.toNat = _; omega)))); have s1 := sg_i (v15 : Int32).toInt; rw [q1] at s1; have q2 := congrArg Int32.toInt (ev24.trans (congrArg (fa 12 32) (show (v23 : Int32).toNatClampNeg = ((iv 12 37).toInt).toNat + 2 from (by show (v23 : Int32).toInt.toNat = _; omega)))); have s2 := sg_i (v24 : Int32).toInt; rw [q2] at s2; have q3 := congrArg Int32.toInt (ev34.trans (congrArg (fa 12 32) (show (v33 : Int32).toNatClampNeg = ((iv 12 37).toInt).toNat + 3 from (by show (v33 : Int32).toInt.toNat = _; omega)))); have s3 := sg_i (v34 : Int32).toInt; rw [q3] at s3; have q4 := congrArg Int32.toInt (ev45.trans (congrArg (fa 12 32) (show (v44 : Int32).toNatClampNeg = ((iv 12 37).toInt).toNat + 4 from (by show (v44 : Int32).toInt.toNat = _; omega)))); have s4 := sg_i (v45 : Int32).toInt; rw [q4] at s4; exact Or.inr ⟨by omega, fun h9 => (by have h8 : ((iv 12 37).toInt + (iv 12 38).toInt) - (iv 12 37).toInt = 6 ∧ sg (fa 12 32 (((iv 12 37).toInt).toNat + 0)).toInt = 115 ∧ sg (fa 12 32 (((iv 12 37).toInt).toNat + 1)).toInt = 116 ∧ sg (fa 12 32 (((iv 12 37).toInt).toNat + 2)).toInt = 114 ∧ sg (fa 12 32 (((iv 12 37).toInt).toNat + 3)).toInt = 105 ∧ sg (fa 12 32 (((iv 12 37).toInt).toNat + 4)).toInt = 107 ∧ sg (fa 12 32 (((iv 12 37).toInt).toNat + 5)).toInt = 101 := h9; have h7 := h8.2.2.2.2.2.1; clear h8 h9; omega)⟩)), (show ((0 : Int32).toInt = 0 ∨ ((iv 12 38) : Int32).toInt = 6) from by omega)⟩, ht9⟩) (fun q hq => by cases hq) dX12_isWord_113
                                                                  · exact absurd rfl c53
                                                              · have fc51 := z_eq (rfl : (v45).toInt = _) (by decide : (107 : Int32).toInt = 107) c51
                                                                refine lv_iconst (v := 1) hx hb dX12_isWord_98 (by decide) ?_
                                                                refine lv_goto (tgt := 103) hx hb dX12_isWord_99 (by decide) ?_
                                                                refine lv_istore (lv' := [(8, .int 1), (9, .int 4), (0, .ref h), (1, .int 6), (2, .int 115), (3, .int 116), (4, .int 114), (5, .int 105), (6, .int 107), (7, .int 101)]) hx hb dX12_isWord_103 hl (by decide) rfl (fun ls hl => ?_)
                                                                refine lv_iinc (v := 5) (lv' := [(9, .int 5), (8, .int 1), (0, .ref h), (1, .int 6), (2, .int 115), (3, .int 116), (4, .int 114), (5, .int 105), (6, .int 107), (7, .int 101)]) hx hb dX12_isWord_105 hl (k := 1) rfl (by decide) (by decide) rfl (fun ls hl => ?_)
                                                                refine lv_goto (tgt := 18) hx hb dX12_isWord_108 (by decide) ?_
                                                                refine lv_iload hx hb dX12_isWord_18 (lv_at hl 0 rfl) ?_
                                                                refine lv_iload_n hx hb dX12_isWord_20 rfl (lv_at hl 3 rfl) ?_
                                                                refine lv_icmp_ge (tgt := 111) hx hb dX12_isWord_21 (by decide) (fun c54 => ?_) (fun c54 => ?_)
                                                                · exact absurd c54 (by decide)
                                                                · skip
                                                                  refine lv_iload hx hb dX12_isWord_24 (lv_at hl 1 rfl) ?_
                                                                  refine lv_if_eq (tgt := 111) hx hb dX12_isWord_26 (by decide) (fun c55 => ?_) (fun c55 => ?_)
                                                                  · exact absurd c55 (by decide)
                                                                  · skip
                                                                    refine lv_aload_n hx hb dX12_isWord_29 rfl (lv_at hl 2 rfl) ?_
                                                                    refine gM_12_32 hx hb ht hown hK hP m_1171 dX12_isWord_30 ?_
                                                                    refine lv_aload_n hx hb dX12_isWord_33 rfl (lv_at hl 2 rfl) ?_
                                                                    refine gM_12_37 hx hb ht hown hK hP m_1176 (v := (iv 12 37)) rfl dX12_isWord_34 ?_
                                                                    refine lv_iload hx hb dX12_isWord_37 (lv_at hl 0 rfl) ?_
                                                                    refine lv_iadd hx hb dX12_isWord_39 ?_
                                                                    refine lv_topi (fun v56 ev56 => ?_)
                                                                    have tv56 := z_add ev56 (rfl : ((iv 12 37)).toInt = _) (by decide : (5 : Int32).toInt = 5) (by omega) (by omega)
                                                                    have : 0 ≤ (v56 : Int32).toInt ∧ (v56 : Int32).toInt ≤ 199 := ⟨by omega, by omega⟩
                                                                    refine lM_12_32 hx hb hK hP (f := (fa 12 32)) rfl (vp_in_iff.mpr ⟨by omega, by omega⟩) dX12_isWord_40 ?_
                                                                    refine lv_topi (fun v57 ev57 => ?_)
                                                                    refine lv_iload hx hb dX12_isWord_41 (lv_at hl 0 rfl) ?_
                                                                    refine lv_if_ne (tgt := 50) hx hb dX12_isWord_43 (by decide) (fun c58 => ?_) (fun c58 => ?_)
                                                                    · skip
                                                                      refine lv_iload hx hb dX12_isWord_50 (lv_at hl 0 rfl) ?_
                                                                      refine lv_iconst (v := 1) hx hb dX12_isWord_52 (by decide) ?_
                                                                      refine lv_icmp_ne (tgt := 60) hx hb dX12_isWord_53 (by decide) (fun c59 => ?_) (fun c59 => ?_)
                                                                      · skip
                                                                        refine lv_iload hx hb dX12_isWord_60 (lv_at hl 0 rfl) ?_
                                                                        refine lv_iconst (v := 2) hx hb dX12_isWord_62 (by decide) ?_
                                                                        refine lv_icmp_ne (tgt := 71) hx hb dX12_isWord_63 (by decide) (fun c60 => ?_) (fun c60 => ?_)
                                                                        · skip
                                                                          refine lv_iload hx hb dX12_isWord_71 (lv_at hl 0 rfl) ?_
                                                                          refine lv_iconst (v := 3) hx hb dX12_isWord_73 (by decide) ?_
                                                                          refine lv_icmp_ne (tgt := 82) hx hb dX12_isWord_74 (by decide) (fun c61 => ?_) (fun c61 => ?_)
                                                                          · skip
                                                                            refine lv_iload hx hb dX12_isWord_82 (lv_at hl 0 rfl) ?_
                                                                            refine lv_iconst (v := 4) hx hb dX12_isWord_84 (by decide) ?_
                                                                            refine lv_icmp_ne (tgt := 93) hx hb dX12_isWord_85 (by decide) (fun c62 => ?_) (fun c62 => ?_)
                                                                            · skip
                                                                              refine lv_iload hx hb dX12_isWord_93 (lv_at hl 9 rfl) ?_
                                                                              refine lv_icmp_ne (tgt := 102) hx hb dX12_isWord_95 (by decide) (fun c63 => ?_) (fun c63 => ?_)
                                                                              · have fc63 := z_ne (rfl : (v57).toInt = _) (by decide : (101 : Int32).toInt = 101) c63
                                                                                refine lv_iconst (v := 0) hx hb dX12_isWord_102 (by decide) ?_
                                                                                refine lv_istore (lv' := [(8, .int 0), (9, .int 5), (0, .ref h), (1, .int 6), (2, .int 115), (3, .int 116), (4, .int 114), (5, .int 105), (6, .int 107), (7, .int 101)]) hx hb dX12_isWord_103 hl (by decide) rfl (fun ls hl => ?_)
                                                                                refine lv_iinc (v := 6) (lv' := [(9, .int 6), (8, .int 0), (0, .ref h), (1, .int 6), (2, .int 115), (3, .int 116), (4, .int 114), (5, .int 105), (6, .int 107), (7, .int 101)]) hx hb dX12_isWord_105 hl (k := 1) rfl (by decide) (by decide) rfl (fun ls hl => ?_)
                                                                                refine lv_goto (tgt := 18) hx hb dX12_isWord_108 (by decide) ?_
                                                                                refine lv_iload hx hb dX12_isWord_18 (lv_at hl 0 rfl) ?_
                                                                                refine lv_iload_n hx hb dX12_isWord_20 rfl (lv_at hl 3 rfl) ?_
                                                                                refine lv_icmp_ge (tgt := 111) hx hb dX12_isWord_21 (by decide) (fun c64 => ?_) (fun c64 => ?_)
                                                                                · skip
                                                                                  refine lv_iload hx hb dX12_isWord_111 (lv_at hl 1 rfl) ?_
                                                                                  have : (0 : Int32).toInt = 0 := (by decide)
                                                                                  exact W.zret (v := 0) hx hb hr rfl (fun t ht9 hW => ⟨0, rfl, ⟨⟨by decide, by decide⟩, (show (((0 : Int32).toInt = 1 ∧ w_strike (fun j => sg ((fa 12 32) j).toInt) ((iv 12 37) : Int32).toInt (((iv 12 37) : Int32).toInt + ((iv 12 38) : Int32).toInt)) ∨ ((0 : Int32).toInt = 0 ∧ ¬ w_strike (fun j => sg ((fa 12 32) j).toInt) ((iv 12 37) : Int32).toInt (((iv 12 37) : Int32).toInt + ((iv 12 38) : Int32).toInt))) from (by have q0 := congrArg Int32.toInt (ev7.trans (congrArg (fa 12 32) (show (v6 : Int32).toNatClampNeg = ((iv 12 37).toInt).toNat + 0 from (by show (v6 : Int32).toInt.toNat = _; omega)))); have s0 := sg_i (v7 : Int32).toInt; rw [q0] at s0; have q1 := congrArg Int32.toInt (ev15.trans (congrArg (fa 12 32) (show (v14 : Int32).toNatClampNeg = ((iv 12 37).toInt).toNat + 1 from (by show (v14 : Int32).toInt.toNat = _; omega)))); have s1 := sg_i (v15 : Int32).toInt; rw [q1] at s1; have q2 := congrArg Int32.toInt (ev24.trans (congrArg (fa 12 32) (show (v23 : Int32).toNatClampNeg = ((iv 12 37).toInt).toNat + 2 from (by show (v23 : Int32).toInt.toNat = _; omega)))); have s2 := sg_i (v24 : Int32).toInt; rw [q2] at s2; have q3 := congrArg Int32.toInt (ev34.trans (congrArg (fa 12 32) (show (v33 : Int32).toNatClampNeg = ((iv 12 37).toInt).toNat + 3 from (by show (v33 : Int32).toInt.toNat = _; omega)))); have s3 := sg_i (v34 : Int32).toInt; rw [q3] at s3; have q4 := congrArg Int32.toInt (ev45.trans (congrArg (fa 12 32) (show (v44 : Int32).toNatClampNeg = ((iv 12 37).toInt).toNat + 4 from (by show (v44 : Int32).toInt.toNat = _; omega)))); have s4 := sg_i (v45 : Int32).toInt; rw [q4] at s4; have q5 := congrArg Int32.toInt (ev57.trans (congrArg (fa 12 32) (show (v56 : Int32).toNatClampNeg = ((iv 12 37).toInt).toNat + 5 from (by show (v56 : Int32).toInt.toNat = _; omega)))); have s5 := sg_i (v57 : Int32).toInt; rw [q5] at s5; exact Or.inr ⟨by omega, fun h9 => (by have h8 : ((iv 12 37).toInt + (iv 12 38).toInt) - (iv 12 37).toInt = 6 ∧ sg (fa 12 32 (((iv 12 37).toInt).toNat + 0)).toInt = 115 ∧ sg (fa 12 32 (((iv 12 37).toInt).toNat + 1)).toInt = 116 ∧ sg (fa 12 32 (((iv 12 37).toInt).toNat + 2)).toInt = 114 ∧ sg (fa 12 32 (((iv 12 37).toInt).toNat + 3)).toInt = 105 ∧ sg (fa 12 32 (((iv 12 37).toInt).toNat + 4)).toInt = 107 ∧ sg (fa 12 32 (((iv 12 37).toInt).toNat + 5)).toInt = 101 := h9; have h7 := h8.2.2.2.2.2.2; clear h8 h9; omega)⟩)), (show ((0 : Int32).toInt = 0 ∨ ((iv 12 38) : Int32).toInt = 6) from by omega)⟩, ht9⟩) (fun q hq => by cases hq) dX12_isWord_113
                                                                                · exact absurd c64 (by decide)
                                                                              · have fc63 := z_eq (rfl : (v57).toInt = _) (by decide : (101 : Int32).toInt = 101) c63
                                                                                refine lv_iconst (v := 1) hx hb dX12_isWord_98 (by decide) ?_
                                                                                refine lv_goto (tgt := 103) hx hb dX12_isWord_99 (by decide) ?_
                                                                                refine lv_istore (lv' := [(8, .int 1), (9, .int 5), (0, .ref h), (1, .int 6), (2, .int 115), (3, .int 116), (4, .int 114), (5, .int 105), (6, .int 107), (7, .int 101)]) hx hb dX12_isWord_103 hl (by decide) rfl (fun ls hl => ?_)
                                                                                refine lv_iinc (v := 6) (lv' := [(9, .int 6), (8, .int 1), (0, .ref h), (1, .int 6), (2, .int 115), (3, .int 116), (4, .int 114), (5, .int 105), (6, .int 107), (7, .int 101)]) hx hb dX12_isWord_105 hl (k := 1) rfl (by decide) (by decide) rfl (fun ls hl => ?_)
                                                                                refine lv_goto (tgt := 18) hx hb dX12_isWord_108 (by decide) ?_
                                                                                refine lv_iload hx hb dX12_isWord_18 (lv_at hl 0 rfl) ?_
                                                                                refine lv_iload_n hx hb dX12_isWord_20 rfl (lv_at hl 3 rfl) ?_
                                                                                refine lv_icmp_ge (tgt := 111) hx hb dX12_isWord_21 (by decide) (fun c65 => ?_) (fun c65 => ?_)
                                                                                · skip
                                                                                  refine lv_iload hx hb dX12_isWord_111 (lv_at hl 1 rfl) ?_
                                                                                  have : (1 : Int32).toInt = 1 := (by decide)
                                                                                  exact W.zret (v := 1) hx hb hr rfl (fun t ht9 hW => ⟨1, rfl, ⟨⟨by decide, by decide⟩, (show (((1 : Int32).toInt = 1 ∧ w_strike (fun j => sg ((fa 12 32) j).toInt) ((iv 12 37) : Int32).toInt (((iv 12 37) : Int32).toInt + ((iv 12 38) : Int32).toInt)) ∨ ((1 : Int32).toInt = 0 ∧ ¬ w_strike (fun j => sg ((fa 12 32) j).toInt) ((iv 12 37) : Int32).toInt (((iv 12 37) : Int32).toInt + ((iv 12 38) : Int32).toInt))) from (by have q0 := congrArg Int32.toInt (ev7.trans (congrArg (fa 12 32) (show (v6 : Int32).toNatClampNeg = ((iv 12 37).toInt).toNat + 0 from (by show (v6 : Int32).toInt.toNat = _; omega)))); have s0 := sg_i (v7 : Int32).toInt; rw [q0] at s0; have q1 := congrArg Int32.toInt (ev15.trans (congrArg (fa 12 32) (show (v14 : Int32).toNatClampNeg = ((iv 12 37).toInt).toNat + 1 from (by show (v14 : Int32).toInt.toNat = _; omega)))); have s1 := sg_i (v15 : Int32).toInt; rw [q1] at s1; have q2 := congrArg Int32.toInt (ev24.trans (congrArg (fa 12 32) (show (v23 : Int32).toNatClampNeg = ((iv 12 37).toInt).toNat + 2 from (by show (v23 : Int32).toInt.toNat = _; omega)))); have s2 := sg_i (v24 : Int32).toInt; rw [q2] at s2; have q3 := congrArg Int32.toInt (ev34.trans (congrArg (fa 12 32) (show (v33 : Int32).toNatClampNeg = ((iv 12 37).toInt).toNat + 3 from (by show (v33 : Int32).toInt.toNat = _; omega)))); have s3 := sg_i (v34 : Int32).toInt; rw [q3] at s3; have q4 := congrArg Int32.toInt (ev45.trans (congrArg (fa 12 32) (show (v44 : Int32).toNatClampNeg = ((iv 12 37).toInt).toNat + 4 from (by show (v44 : Int32).toInt.toNat = _; omega)))); have s4 := sg_i (v45 : Int32).toInt; rw [q4] at s4; have q5 := congrArg Int32.toInt (ev57.trans (congrArg (fa 12 32) (show (v56 : Int32).toNatClampNeg = ((iv 12 37).toInt).toNat + 5 from (by show (v56 : Int32).toInt.toNat = _; omega)))); have s5 := sg_i (v57 : Int32).toInt; rw [q5] at s5; exact Or.inl ⟨by omega, (show ((iv 12 37).toInt + (iv 12 38).toInt) - (iv 12 37).toInt = 6 ∧ sg (fa 12 32 (((iv 12 37).toInt).toNat + 0)).toInt = 115 ∧ sg (fa 12 32 (((iv 12 37).toInt).toNat + 1)).toInt = 116 ∧ sg (fa 12 32 (((iv 12 37).toInt).toNat + 2)).toInt = 114 ∧ sg (fa 12 32 (((iv 12 37).toInt).toNat + 3)).toInt = 105 ∧ sg (fa 12 32 (((iv 12 37).toInt).toNat + 4)).toInt = 107 ∧ sg (fa 12 32 (((iv 12 37).toInt).toNat + 5)).toInt = 101 from ⟨by omega, by omega, by omega, by omega, by omega, by omega, by omega⟩)⟩)), (show ((1 : Int32).toInt = 0 ∨ ((iv 12 38) : Int32).toInt = 6) from by omega)⟩, ht9⟩) (fun q hq => by cases hq) dX12_isWord_113
                                                                                · exact absurd c65 (by decide)
                                                                            · exact absurd c62 (by decide)
                                                                          · exact absurd c61 (by decide)
                                                                        · exact absurd c60 (by decide)
                                                                      · exact absurd c59 (by decide)
                                                                    · exact absurd c58 (by decide)
                                                          · exact absurd c49 (by decide)
                                                        · exact absurd c48 (by decide)
                                                      · exact absurd c47 (by decide)
                                                    · exact absurd c46 (by decide)
                                          · exact absurd c37 (by decide)
                                        · exact absurd c36 (by decide)
                                      · exact absurd c35 (by decide)
                            · exact absurd c26 (by decide)
                          · exact absurd c25 (by decide)
                · exact absurd c16 (by decide)
set_option maxHeartbeats 4000000 in
set_option maxRecDepth 100000 in
/-- X12_isWord -/
theorem c_X12_isWord_r_water (l : Launch) (dC : Nat → ClassId) (dI : Nat → Nat → Nat) (h : Nat) (g : Nat → Nat → Nat) (ca : Nat → Nat → ClassId) (iv : Nat → Nat → Int32) (lv : Nat → Nat → Int64) (fa : Nat → Nat → Nat → Int32) (la : Nat → Nat → Nat → Int64) (hI : IX iv fa) (p_0 : (iv 12 37).toInt + (iv 12 38).toInt ≤ 200) : Met l yX12_isWord (wc yX12_isWord cX12_isWord 10 (some .boolean)) ({ frames := 0, cells := 0, slots := 0, locals := 0 } : Room) (pR (dC, dI) classes (WM h g ca iv lv fa la) (TM ca) [.ref h, .int 5, .int 119, .int 97, .int 116, .int 101, .int 114, .int 0]) (vp_Si (fun r => (0 ≤ r.toInt ∧ r.toInt ≤ 1) ∧ (((r.toInt = 1 ∧ w_water (fun j => sg ((fa 12 32) j).toInt) (iv 12 37).toInt ((iv 12 37).toInt + (iv 12 38).toInt)) ∨ (r.toInt = 0 ∧ ¬ w_water (fun j => sg ((fa 12 32) j).toInt) (iv 12 37).toInt ((iv 12 37).toInt + (iv 12 38).toInt)))) ∧ ((r.toInt = 0 ∨ (iv 12 38).toInt = 5)))) 0 0 (fun _ => False) := by
  refine Met.ofW (cc := cX12_isWord) (maxL := 10) (ret := (some .boolean)) (by decide) rfl ?_
  intro p e s m args below meth c s₁ B hml hv
  obtain ⟨rfl, hP, hK⟩ := hv
  have hx := B.exec
  have hb := B.bytes
  have hr := B.returns
  have ht := tb_tl (atoms_spec (ws := wc yX12_isWord cX12_isWord 10 (some .boolean)) B.pre)
  have hown : s.vm.findClass RX12 = some m.cls := findClass_of_methodNamed B.named
  have hlocks := B.notSynchronized
  have hl := lv_entry [.ref h, .int 5, .int 119, .int 97, .int 116, .int 101, .int 114, .int 0] (n := 10) (Nat.le_of_ble_eq_true rfl)
  rw [lg_entry_eq]
  generalize (lg_sl [.ref h, .int 5, .int 119, .int 97, .int 116, .int 101, .int 114, .int 0] ++ List.replicate (10 - (lg_sl [.ref h, .int 5, .int 119, .int 97, .int 116, .int 101, .int 114, .int 0]).length) Slot.unset).toArray = ls at hl ⊢
  have hl : lv_has ls 10 [(0, .ref h), (1, .int 5), (2, .int 119), (3, .int 97), (4, .int 116), (5, .int 101), (6, .int 114), (7, .int 0)] := hl
  refine lv_aload_n hx hb dX12_isWord_0 rfl (lv_at hl 0 rfl) ?_
  have i_12_38 : 0 ≤ (iv 12 38).toInt ∧ (iv 12 38).toInt ≤ 200 := hI.1 12 38
  refine gM_12_38 hx hb ht hown hK hP m_1177 (v := (iv 12 38)) rfl dX12_isWord_1 ?_
  refine lv_iload_n hx hb dX12_isWord_4 rfl (lv_at hl 1 rfl) ?_
  refine lv_icmp_ne (tgt := 12) hx hb dX12_isWord_5 (by decide) (fun c1 => ?_) (fun c1 => ?_)
  · have fc1 := z_ne (rfl : ((iv 12 38)).toInt = _) (by decide : (5 : Int32).toInt = 5) c1
    refine lv_iconst (v := 0) hx hb dX12_isWord_12 (by decide) ?_
    refine lv_istore (lv' := [(8, .int 0), (0, .ref h), (1, .int 5), (2, .int 119), (3, .int 97), (4, .int 116), (5, .int 101), (6, .int 114), (7, .int 0)]) hx hb dX12_isWord_13 hl (by decide) rfl (fun ls hl => ?_)
    refine lv_iconst (v := 0) hx hb dX12_isWord_15 (by decide) ?_
    refine lv_istore (lv' := [(9, .int 0), (8, .int 0), (0, .ref h), (1, .int 5), (2, .int 119), (3, .int 97), (4, .int 116), (5, .int 101), (6, .int 114), (7, .int 0)]) hx hb dX12_isWord_16 hl (by decide) rfl (fun ls hl => ?_)
    refine lv_iload hx hb dX12_isWord_18 (lv_at hl 0 rfl) ?_
    refine lv_iload_n hx hb dX12_isWord_20 rfl (lv_at hl 3 rfl) ?_
    refine lv_icmp_ge (tgt := 111) hx hb dX12_isWord_21 (by decide) (fun c2 => ?_) (fun c2 => ?_)
    · exact absurd c2 (by decide)
    · skip
      refine lv_iload hx hb dX12_isWord_24 (lv_at hl 1 rfl) ?_
      refine lv_if_eq (tgt := 111) hx hb dX12_isWord_26 (by decide) (fun c3 => ?_) (fun c3 => ?_)
      · skip
        refine lv_iload hx hb dX12_isWord_111 (lv_at hl 1 rfl) ?_
        have : (0 : Int32).toInt = 0 := (by decide)
        have i_12_37 : 0 ≤ (iv 12 37).toInt ∧ (iv 12 37).toInt ≤ 200 := hI.1 12 37
        exact W.zret (v := 0) hx hb hr rfl (fun t ht9 hW => ⟨0, rfl, ⟨⟨by decide, by decide⟩, (show (((0 : Int32).toInt = 1 ∧ w_water (fun j => sg ((fa 12 32) j).toInt) ((iv 12 37) : Int32).toInt (((iv 12 37) : Int32).toInt + ((iv 12 38) : Int32).toInt)) ∨ ((0 : Int32).toInt = 0 ∧ ¬ w_water (fun j => sg ((fa 12 32) j).toInt) ((iv 12 37) : Int32).toInt (((iv 12 37) : Int32).toInt + ((iv 12 38) : Int32).toInt))) from (by exact Or.inr ⟨by omega, fun h9 => (by have h8 : ((iv 12 37).toInt + (iv 12 38).toInt) - (iv 12 37).toInt = 5 ∧ sg (fa 12 32 (((iv 12 37).toInt).toNat + 0)).toInt = 119 ∧ sg (fa 12 32 (((iv 12 37).toInt).toNat + 1)).toInt = 97 ∧ sg (fa 12 32 (((iv 12 37).toInt).toNat + 2)).toInt = 116 ∧ sg (fa 12 32 (((iv 12 37).toInt).toNat + 3)).toInt = 101 ∧ sg (fa 12 32 (((iv 12 37).toInt).toNat + 4)).toInt = 114 := h9; have h7 := h8.1; omega)⟩)), (show ((0 : Int32).toInt = 0 ∨ ((iv 12 38) : Int32).toInt = 5) from by omega)⟩, ht9⟩) (fun q hq => by cases hq) dX12_isWord_113
      · exact absurd rfl c3
  · have fc1 := z_eq (rfl : ((iv 12 38)).toInt = _) (by decide : (5 : Int32).toInt = 5) c1
    refine lv_iconst (v := 1) hx hb dX12_isWord_8 (by decide) ?_
    refine lv_goto (tgt := 13) hx hb dX12_isWord_9 (by decide) ?_
    refine lv_istore (lv' := [(8, .int 1), (0, .ref h), (1, .int 5), (2, .int 119), (3, .int 97), (4, .int 116), (5, .int 101), (6, .int 114), (7, .int 0)]) hx hb dX12_isWord_13 hl (by decide) rfl (fun ls hl => ?_)
    refine lv_iconst (v := 0) hx hb dX12_isWord_15 (by decide) ?_
    refine lv_istore (lv' := [(9, .int 0), (8, .int 1), (0, .ref h), (1, .int 5), (2, .int 119), (3, .int 97), (4, .int 116), (5, .int 101), (6, .int 114), (7, .int 0)]) hx hb dX12_isWord_16 hl (by decide) rfl (fun ls hl => ?_)
    refine lv_iload hx hb dX12_isWord_18 (lv_at hl 0 rfl) ?_
    refine lv_iload_n hx hb dX12_isWord_20 rfl (lv_at hl 3 rfl) ?_
    refine lv_icmp_ge (tgt := 111) hx hb dX12_isWord_21 (by decide) (fun c4 => ?_) (fun c4 => ?_)
    · exact absurd c4 (by decide)
    · skip
      refine lv_iload hx hb dX12_isWord_24 (lv_at hl 1 rfl) ?_
      refine lv_if_eq (tgt := 111) hx hb dX12_isWord_26 (by decide) (fun c5 => ?_) (fun c5 => ?_)
      · exact absurd c5 (by decide)
      · skip
        refine lv_aload_n hx hb dX12_isWord_29 rfl (lv_at hl 2 rfl) ?_
        refine gM_12_32 hx hb ht hown hK hP m_1171 dX12_isWord_30 ?_
        refine lv_aload_n hx hb dX12_isWord_33 rfl (lv_at hl 2 rfl) ?_
        have i_12_37 : 0 ≤ (iv 12 37).toInt ∧ (iv 12 37).toInt ≤ 200 := hI.1 12 37
        refine gM_12_37 hx hb ht hown hK hP m_1176 (v := (iv 12 37)) rfl dX12_isWord_34 ?_
        refine lv_iload hx hb dX12_isWord_37 (lv_at hl 0 rfl) ?_
        refine lv_iadd hx hb dX12_isWord_39 ?_
        refine lv_topi (fun v6 ev6 => ?_)
        have tv6 := z_add ev6 (rfl : ((iv 12 37)).toInt = _) (by decide : (0 : Int32).toInt = 0) (by omega) (by omega)
        have : 0 ≤ (v6 : Int32).toInt ∧ (v6 : Int32).toInt ≤ 199 := ⟨by omega, by omega⟩
        refine lM_12_32 hx hb hK hP (f := (fa 12 32)) rfl (vp_in_iff.mpr ⟨by omega, by omega⟩) dX12_isWord_40 ?_
        refine lv_topi (fun v7 ev7 => ?_)
        refine lv_iload hx hb dX12_isWord_41 (lv_at hl 0 rfl) ?_
        refine lv_if_ne (tgt := 50) hx hb dX12_isWord_43 (by decide) (fun c8 => ?_) (fun c8 => ?_)
        · exact absurd rfl c8
        · skip
          refine lv_iload_n hx hb dX12_isWord_46 rfl (lv_at hl 4 rfl) ?_
          refine lv_goto (tgt := 95) hx hb dX12_isWord_47 (by decide) ?_
          refine lv_icmp_ne (tgt := 102) hx hb dX12_isWord_95 (by decide) (fun c9 => ?_) (fun c9 => ?_)
          · have fc9 := z_ne (rfl : (v7).toInt = _) (by decide : (119 : Int32).toInt = 119) c9
            refine lv_iconst (v := 0) hx hb dX12_isWord_102 (by decide) ?_
            refine lv_istore (lv' := [(8, .int 0), (9, .int 0), (0, .ref h), (1, .int 5), (2, .int 119), (3, .int 97), (4, .int 116), (5, .int 101), (6, .int 114), (7, .int 0)]) hx hb dX12_isWord_103 hl (by decide) rfl (fun ls hl => ?_)
            refine lv_iinc (v := 1) (lv' := [(9, .int 1), (8, .int 0), (0, .ref h), (1, .int 5), (2, .int 119), (3, .int 97), (4, .int 116), (5, .int 101), (6, .int 114), (7, .int 0)]) hx hb dX12_isWord_105 hl (k := 1) rfl (by decide) (by decide) rfl (fun ls hl => ?_)
            refine lv_goto (tgt := 18) hx hb dX12_isWord_108 (by decide) ?_
            refine lv_iload hx hb dX12_isWord_18 (lv_at hl 0 rfl) ?_
            refine lv_iload_n hx hb dX12_isWord_20 rfl (lv_at hl 3 rfl) ?_
            refine lv_icmp_ge (tgt := 111) hx hb dX12_isWord_21 (by decide) (fun c10 => ?_) (fun c10 => ?_)
            · exact absurd c10 (by decide)
            · skip
              refine lv_iload hx hb dX12_isWord_24 (lv_at hl 1 rfl) ?_
              refine lv_if_eq (tgt := 111) hx hb dX12_isWord_26 (by decide) (fun c11 => ?_) (fun c11 => ?_)
              · skip
                refine lv_iload hx hb dX12_isWord_111 (lv_at hl 1 rfl) ?_
                have : (0 : Int32).toInt = 0 := (by decide)
                exact W.zret (v := 0) hx hb hr rfl (fun t ht9 hW => ⟨0, rfl, ⟨⟨by decide, by decide⟩, (show (((0 : Int32).toInt = 1 ∧ w_water (fun j => sg ((fa 12 32) j).toInt) ((iv 12 37) : Int32).toInt (((iv 12 37) : Int32).toInt + ((iv 12 38) : Int32).toInt)) ∨ ((0 : Int32).toInt = 0 ∧ ¬ w_water (fun j => sg ((fa 12 32) j).toInt) ((iv 12 37) : Int32).toInt (((iv 12 37) : Int32).toInt + ((iv 12 38) : Int32).toInt))) from (by have q0 := congrArg Int32.toInt (ev7.trans (congrArg (fa 12 32) (show (v6 : Int32).toNatClampNeg = ((iv 12 37).toInt).toNat + 0 from (by show (v6 : Int32).toInt.toNat = _; omega)))); have s0 := sg_i (v7 : Int32).toInt; rw [q0] at s0; exact Or.inr ⟨by omega, fun h9 => (by have h8 : ((iv 12 37).toInt + (iv 12 38).toInt) - (iv 12 37).toInt = 5 ∧ sg (fa 12 32 (((iv 12 37).toInt).toNat + 0)).toInt = 119 ∧ sg (fa 12 32 (((iv 12 37).toInt).toNat + 1)).toInt = 97 ∧ sg (fa 12 32 (((iv 12 37).toInt).toNat + 2)).toInt = 116 ∧ sg (fa 12 32 (((iv 12 37).toInt).toNat + 3)).toInt = 101 ∧ sg (fa 12 32 (((iv 12 37).toInt).toNat + 4)).toInt = 114 := h9; have h7 := h8.2.1; clear h8 h9; omega)⟩)), (show ((0 : Int32).toInt = 0 ∨ ((iv 12 38) : Int32).toInt = 5) from by omega)⟩, ht9⟩) (fun q hq => by cases hq) dX12_isWord_113
              · exact absurd rfl c11
          · have fc9 := z_eq (rfl : (v7).toInt = _) (by decide : (119 : Int32).toInt = 119) c9
            refine lv_iconst (v := 1) hx hb dX12_isWord_98 (by decide) ?_
            refine lv_goto (tgt := 103) hx hb dX12_isWord_99 (by decide) ?_
            refine lv_istore (lv' := [(8, .int 1), (9, .int 0), (0, .ref h), (1, .int 5), (2, .int 119), (3, .int 97), (4, .int 116), (5, .int 101), (6, .int 114), (7, .int 0)]) hx hb dX12_isWord_103 hl (by decide) rfl (fun ls hl => ?_)
            refine lv_iinc (v := 1) (lv' := [(9, .int 1), (8, .int 1), (0, .ref h), (1, .int 5), (2, .int 119), (3, .int 97), (4, .int 116), (5, .int 101), (6, .int 114), (7, .int 0)]) hx hb dX12_isWord_105 hl (k := 1) rfl (by decide) (by decide) rfl (fun ls hl => ?_)
            refine lv_goto (tgt := 18) hx hb dX12_isWord_108 (by decide) ?_
            refine lv_iload hx hb dX12_isWord_18 (lv_at hl 0 rfl) ?_
            refine lv_iload_n hx hb dX12_isWord_20 rfl (lv_at hl 3 rfl) ?_
            refine lv_icmp_ge (tgt := 111) hx hb dX12_isWord_21 (by decide) (fun c12 => ?_) (fun c12 => ?_)
            · exact absurd c12 (by decide)
            · skip
              refine lv_iload hx hb dX12_isWord_24 (lv_at hl 1 rfl) ?_
              refine lv_if_eq (tgt := 111) hx hb dX12_isWord_26 (by decide) (fun c13 => ?_) (fun c13 => ?_)
              · exact absurd c13 (by decide)
              · skip
                refine lv_aload_n hx hb dX12_isWord_29 rfl (lv_at hl 2 rfl) ?_
                refine gM_12_32 hx hb ht hown hK hP m_1171 dX12_isWord_30 ?_
                refine lv_aload_n hx hb dX12_isWord_33 rfl (lv_at hl 2 rfl) ?_
                refine gM_12_37 hx hb ht hown hK hP m_1176 (v := (iv 12 37)) rfl dX12_isWord_34 ?_
                refine lv_iload hx hb dX12_isWord_37 (lv_at hl 0 rfl) ?_
                refine lv_iadd hx hb dX12_isWord_39 ?_
                refine lv_topi (fun v14 ev14 => ?_)
                have tv14 := z_add ev14 (rfl : ((iv 12 37)).toInt = _) (by decide : (1 : Int32).toInt = 1) (by omega) (by omega)
                have : 0 ≤ (v14 : Int32).toInt ∧ (v14 : Int32).toInt ≤ 199 := ⟨by omega, by omega⟩
                refine lM_12_32 hx hb hK hP (f := (fa 12 32)) rfl (vp_in_iff.mpr ⟨by omega, by omega⟩) dX12_isWord_40 ?_
                refine lv_topi (fun v15 ev15 => ?_)
                refine lv_iload hx hb dX12_isWord_41 (lv_at hl 0 rfl) ?_
                refine lv_if_ne (tgt := 50) hx hb dX12_isWord_43 (by decide) (fun c16 => ?_) (fun c16 => ?_)
                · skip
                  refine lv_iload hx hb dX12_isWord_50 (lv_at hl 0 rfl) ?_
                  refine lv_iconst (v := 1) hx hb dX12_isWord_52 (by decide) ?_
                  refine lv_icmp_ne (tgt := 60) hx hb dX12_isWord_53 (by decide) (fun c17 => ?_) (fun c17 => ?_)
                  · exact absurd rfl c17
                  · skip
                    refine lv_iload_n hx hb dX12_isWord_56 rfl (lv_at hl 5 rfl) ?_
                    refine lv_goto (tgt := 95) hx hb dX12_isWord_57 (by decide) ?_
                    refine lv_icmp_ne (tgt := 102) hx hb dX12_isWord_95 (by decide) (fun c18 => ?_) (fun c18 => ?_)
                    · have fc18 := z_ne (rfl : (v15).toInt = _) (by decide : (97 : Int32).toInt = 97) c18
                      refine lv_iconst (v := 0) hx hb dX12_isWord_102 (by decide) ?_
                      refine lv_istore (lv' := [(8, .int 0), (9, .int 1), (0, .ref h), (1, .int 5), (2, .int 119), (3, .int 97), (4, .int 116), (5, .int 101), (6, .int 114), (7, .int 0)]) hx hb dX12_isWord_103 hl (by decide) rfl (fun ls hl => ?_)
                      refine lv_iinc (v := 2) (lv' := [(9, .int 2), (8, .int 0), (0, .ref h), (1, .int 5), (2, .int 119), (3, .int 97), (4, .int 116), (5, .int 101), (6, .int 114), (7, .int 0)]) hx hb dX12_isWord_105 hl (k := 1) rfl (by decide) (by decide) rfl (fun ls hl => ?_)
                      refine lv_goto (tgt := 18) hx hb dX12_isWord_108 (by decide) ?_
                      refine lv_iload hx hb dX12_isWord_18 (lv_at hl 0 rfl) ?_
                      refine lv_iload_n hx hb dX12_isWord_20 rfl (lv_at hl 3 rfl) ?_
                      refine lv_icmp_ge (tgt := 111) hx hb dX12_isWord_21 (by decide) (fun c19 => ?_) (fun c19 => ?_)
                      · exact absurd c19 (by decide)
                      · skip
                        refine lv_iload hx hb dX12_isWord_24 (lv_at hl 1 rfl) ?_
                        refine lv_if_eq (tgt := 111) hx hb dX12_isWord_26 (by decide) (fun c20 => ?_) (fun c20 => ?_)
                        · skip
                          refine lv_iload hx hb dX12_isWord_111 (lv_at hl 1 rfl) ?_
                          have : (0 : Int32).toInt = 0 := (by decide)
                          exact W.zret (v := 0) hx hb hr rfl (fun t ht9 hW => ⟨0, rfl, ⟨⟨by decide, by decide⟩, (show (((0 : Int32).toInt = 1 ∧ w_water (fun j => sg ((fa 12 32) j).toInt) ((iv 12 37) : Int32).toInt (((iv 12 37) : Int32).toInt + ((iv 12 38) : Int32).toInt)) ∨ ((0 : Int32).toInt = 0 ∧ ¬ w_water (fun j => sg ((fa 12 32) j).toInt) ((iv 12 37) : Int32).toInt (((iv 12 37) : Int32).toInt + ((iv 12 38) : Int32).toInt))) from (by have q0 := congrArg Int32.toInt (ev7.trans (congrArg (fa 12 32) (show (v6 : Int32).toNatClampNeg = ((iv 12 37).toInt).toNat + 0 from (by show (v6 : Int32).toInt.toNat = _; omega)))); have s0 := sg_i (v7 : Int32).toInt; rw [q0] at s0; have q1 := congrArg Int32.toInt (ev15.trans (congrArg (fa 12 32) (show (v14 : Int32).toNatClampNeg = ((iv 12 37).toInt).toNat + 1 from (by show (v14 : Int32).toInt.toNat = _; omega)))); have s1 := sg_i (v15 : Int32).toInt; rw [q1] at s1; exact Or.inr ⟨by omega, fun h9 => (by have h8 : ((iv 12 37).toInt + (iv 12 38).toInt) - (iv 12 37).toInt = 5 ∧ sg (fa 12 32 (((iv 12 37).toInt).toNat + 0)).toInt = 119 ∧ sg (fa 12 32 (((iv 12 37).toInt).toNat + 1)).toInt = 97 ∧ sg (fa 12 32 (((iv 12 37).toInt).toNat + 2)).toInt = 116 ∧ sg (fa 12 32 (((iv 12 37).toInt).toNat + 3)).toInt = 101 ∧ sg (fa 12 32 (((iv 12 37).toInt).toNat + 4)).toInt = 114 := h9; have h7 := h8.2.2.1; clear h8 h9; omega)⟩)), (show ((0 : Int32).toInt = 0 ∨ ((iv 12 38) : Int32).toInt = 5) from by omega)⟩, ht9⟩) (fun q hq => by cases hq) dX12_isWord_113
                        · exact absurd rfl c20
                    · have fc18 := z_eq (rfl : (v15).toInt = _) (by decide : (97 : Int32).toInt = 97) c18
                      refine lv_iconst (v := 1) hx hb dX12_isWord_98 (by decide) ?_
                      refine lv_goto (tgt := 103) hx hb dX12_isWord_99 (by decide) ?_
                      refine lv_istore (lv' := [(8, .int 1), (9, .int 1), (0, .ref h), (1, .int 5), (2, .int 119), (3, .int 97), (4, .int 116), (5, .int 101), (6, .int 114), (7, .int 0)]) hx hb dX12_isWord_103 hl (by decide) rfl (fun ls hl => ?_)
                      refine lv_iinc (v := 2) (lv' := [(9, .int 2), (8, .int 1), (0, .ref h), (1, .int 5), (2, .int 119), (3, .int 97), (4, .int 116), (5, .int 101), (6, .int 114), (7, .int 0)]) hx hb dX12_isWord_105 hl (k := 1) rfl (by decide) (by decide) rfl (fun ls hl => ?_)
                      refine lv_goto (tgt := 18) hx hb dX12_isWord_108 (by decide) ?_
                      refine lv_iload hx hb dX12_isWord_18 (lv_at hl 0 rfl) ?_
                      refine lv_iload_n hx hb dX12_isWord_20 rfl (lv_at hl 3 rfl) ?_
                      refine lv_icmp_ge (tgt := 111) hx hb dX12_isWord_21 (by decide) (fun c21 => ?_) (fun c21 => ?_)
                      · exact absurd c21 (by decide)
                      · skip
                        refine lv_iload hx hb dX12_isWord_24 (lv_at hl 1 rfl) ?_
                        refine lv_if_eq (tgt := 111) hx hb dX12_isWord_26 (by decide) (fun c22 => ?_) (fun c22 => ?_)
                        · exact absurd c22 (by decide)
                        · skip
                          refine lv_aload_n hx hb dX12_isWord_29 rfl (lv_at hl 2 rfl) ?_
                          refine gM_12_32 hx hb ht hown hK hP m_1171 dX12_isWord_30 ?_
                          refine lv_aload_n hx hb dX12_isWord_33 rfl (lv_at hl 2 rfl) ?_
                          refine gM_12_37 hx hb ht hown hK hP m_1176 (v := (iv 12 37)) rfl dX12_isWord_34 ?_
                          refine lv_iload hx hb dX12_isWord_37 (lv_at hl 0 rfl) ?_
                          refine lv_iadd hx hb dX12_isWord_39 ?_
                          refine lv_topi (fun v23 ev23 => ?_)
                          have tv23 := z_add ev23 (rfl : ((iv 12 37)).toInt = _) (by decide : (2 : Int32).toInt = 2) (by omega) (by omega)
                          have : 0 ≤ (v23 : Int32).toInt ∧ (v23 : Int32).toInt ≤ 199 := ⟨by omega, by omega⟩
                          refine lM_12_32 hx hb hK hP (f := (fa 12 32)) rfl (vp_in_iff.mpr ⟨by omega, by omega⟩) dX12_isWord_40 ?_
                          refine lv_topi (fun v24 ev24 => ?_)
                          refine lv_iload hx hb dX12_isWord_41 (lv_at hl 0 rfl) ?_
                          refine lv_if_ne (tgt := 50) hx hb dX12_isWord_43 (by decide) (fun c25 => ?_) (fun c25 => ?_)
                          · skip
                            refine lv_iload hx hb dX12_isWord_50 (lv_at hl 0 rfl) ?_
                            refine lv_iconst (v := 1) hx hb dX12_isWord_52 (by decide) ?_
                            refine lv_icmp_ne (tgt := 60) hx hb dX12_isWord_53 (by decide) (fun c26 => ?_) (fun c26 => ?_)
                            · skip
                              refine lv_iload hx hb dX12_isWord_60 (lv_at hl 0 rfl) ?_
                              refine lv_iconst (v := 2) hx hb dX12_isWord_62 (by decide) ?_
                              refine lv_icmp_ne (tgt := 71) hx hb dX12_isWord_63 (by decide) (fun c27 => ?_) (fun c27 => ?_)
                              · exact absurd rfl c27
                              · skip
                                refine lv_iload hx hb dX12_isWord_66 (lv_at hl 6 rfl) ?_
                                refine lv_goto (tgt := 95) hx hb dX12_isWord_68 (by decide) ?_
                                refine lv_icmp_ne (tgt := 102) hx hb dX12_isWord_95 (by decide) (fun c28 => ?_) (fun c28 => ?_)
                                · have fc28 := z_ne (rfl : (v24).toInt = _) (by decide : (116 : Int32).toInt = 116) c28
                                  refine lv_iconst (v := 0) hx hb dX12_isWord_102 (by decide) ?_
                                  refine lv_istore (lv' := [(8, .int 0), (9, .int 2), (0, .ref h), (1, .int 5), (2, .int 119), (3, .int 97), (4, .int 116), (5, .int 101), (6, .int 114), (7, .int 0)]) hx hb dX12_isWord_103 hl (by decide) rfl (fun ls hl => ?_)
                                  refine lv_iinc (v := 3) (lv' := [(9, .int 3), (8, .int 0), (0, .ref h), (1, .int 5), (2, .int 119), (3, .int 97), (4, .int 116), (5, .int 101), (6, .int 114), (7, .int 0)]) hx hb dX12_isWord_105 hl (k := 1) rfl (by decide) (by decide) rfl (fun ls hl => ?_)
                                  refine lv_goto (tgt := 18) hx hb dX12_isWord_108 (by decide) ?_
                                  refine lv_iload hx hb dX12_isWord_18 (lv_at hl 0 rfl) ?_
                                  refine lv_iload_n hx hb dX12_isWord_20 rfl (lv_at hl 3 rfl) ?_
                                  refine lv_icmp_ge (tgt := 111) hx hb dX12_isWord_21 (by decide) (fun c29 => ?_) (fun c29 => ?_)
                                  · exact absurd c29 (by decide)
                                  · skip
                                    refine lv_iload hx hb dX12_isWord_24 (lv_at hl 1 rfl) ?_
                                    refine lv_if_eq (tgt := 111) hx hb dX12_isWord_26 (by decide) (fun c30 => ?_) (fun c30 => ?_)
                                    · skip
                                      refine lv_iload hx hb dX12_isWord_111 (lv_at hl 1 rfl) ?_
                                      have : (0 : Int32).toInt = 0 := (by decide)
                                      exact W.zret (v := 0) hx hb hr rfl (fun t ht9 hW => ⟨0, rfl, ⟨⟨by decide, by decide⟩, (show (((0 : Int32).toInt = 1 ∧ w_water (fun j => sg ((fa 12 32) j).toInt) ((iv 12 37) : Int32).toInt (((iv 12 37) : Int32).toInt + ((iv 12 38) : Int32).toInt)) ∨ ((0 : Int32).toInt = 0 ∧ ¬ w_water (fun j => sg ((fa 12 32) j).toInt) ((iv 12 37) : Int32).toInt (((iv 12 37) : Int32).toInt + ((iv 12 38) : Int32).toInt))) from (by have q0 := congrArg Int32.toInt (ev7.trans (congrArg (fa 12 32) (show (v6 : Int32).toNatClampNeg = ((iv 12 37).toInt).toNat + 0 from (by show (v6 : Int32).toInt.toNat = _; omega)))); have s0 := sg_i (v7 : Int32).toInt; rw [q0] at s0; have q1 := congrArg Int32.toInt (ev15.trans (congrArg (fa 12 32) (show (v14 : Int32).toNatClampNeg = ((iv 12 37).toInt).toNat + 1 from (by show (v14 : Int32).toInt.toNat = _; omega)))); have s1 := sg_i (v15 : Int32).toInt; rw [q1] at s1; have q2 := congrArg Int32.toInt (ev24.trans (congrArg (fa 12 32) (show (v23 : Int32).toNatClampNeg = ((iv 12 37).toInt).toNat + 2 from (by show (v23 : Int32).toInt.toNat = _; omega)))); have s2 := sg_i (v24 : Int32).toInt; rw [q2] at s2; exact Or.inr ⟨by omega, fun h9 => (by have h8 : ((iv 12 37).toInt + (iv 12 38).toInt) - (iv 12 37).toInt = 5 ∧ sg (fa 12 32 (((iv 12 37).toInt).toNat + 0)).toInt = 119 ∧ sg (fa 12 32 (((iv 12 37).toInt).toNat + 1)).toInt = 97 ∧ sg (fa 12 32 (((iv 12 37).toInt).toNat + 2)).toInt = 116 ∧ sg (fa 12 32 (((iv 12 37).toInt).toNat + 3)).toInt = 101 ∧ sg (fa 12 32 (((iv 12 37).toInt).toNat + 4)).toInt = 114 := h9; have h7 := h8.2.2.2.1; clear h8 h9; omega)⟩)), (show ((0 : Int32).toInt = 0 ∨ ((iv 12 38) : Int32).toInt = 5) from by omega)⟩, ht9⟩) (fun q hq => by cases hq) dX12_isWord_113
                                    · exact absurd rfl c30
                                · have fc28 := z_eq (rfl : (v24).toInt = _) (by decide : (116 : Int32).toInt = 116) c28
                                  refine lv_iconst (v := 1) hx hb dX12_isWord_98 (by decide) ?_
                                  refine lv_goto (tgt := 103) hx hb dX12_isWord_99 (by decide) ?_
                                  refine lv_istore (lv' := [(8, .int 1), (9, .int 2), (0, .ref h), (1, .int 5), (2, .int 119), (3, .int 97), (4, .int 116), (5, .int 101), (6, .int 114), (7, .int 0)]) hx hb dX12_isWord_103 hl (by decide) rfl (fun ls hl => ?_)
                                  refine lv_iinc (v := 3) (lv' := [(9, .int 3), (8, .int 1), (0, .ref h), (1, .int 5), (2, .int 119), (3, .int 97), (4, .int 116), (5, .int 101), (6, .int 114), (7, .int 0)]) hx hb dX12_isWord_105 hl (k := 1) rfl (by decide) (by decide) rfl (fun ls hl => ?_)
                                  refine lv_goto (tgt := 18) hx hb dX12_isWord_108 (by decide) ?_
                                  refine lv_iload hx hb dX12_isWord_18 (lv_at hl 0 rfl) ?_
                                  refine lv_iload_n hx hb dX12_isWord_20 rfl (lv_at hl 3 rfl) ?_
                                  refine lv_icmp_ge (tgt := 111) hx hb dX12_isWord_21 (by decide) (fun c31 => ?_) (fun c31 => ?_)
                                  · exact absurd c31 (by decide)
                                  · skip
                                    refine lv_iload hx hb dX12_isWord_24 (lv_at hl 1 rfl) ?_
                                    refine lv_if_eq (tgt := 111) hx hb dX12_isWord_26 (by decide) (fun c32 => ?_) (fun c32 => ?_)
                                    · exact absurd c32 (by decide)
                                    · skip
                                      refine lv_aload_n hx hb dX12_isWord_29 rfl (lv_at hl 2 rfl) ?_
                                      refine gM_12_32 hx hb ht hown hK hP m_1171 dX12_isWord_30 ?_
                                      refine lv_aload_n hx hb dX12_isWord_33 rfl (lv_at hl 2 rfl) ?_
                                      refine gM_12_37 hx hb ht hown hK hP m_1176 (v := (iv 12 37)) rfl dX12_isWord_34 ?_
                                      refine lv_iload hx hb dX12_isWord_37 (lv_at hl 0 rfl) ?_
                                      refine lv_iadd hx hb dX12_isWord_39 ?_
                                      refine lv_topi (fun v33 ev33 => ?_)
                                      have tv33 := z_add ev33 (rfl : ((iv 12 37)).toInt = _) (by decide : (3 : Int32).toInt = 3) (by omega) (by omega)
                                      have : 0 ≤ (v33 : Int32).toInt ∧ (v33 : Int32).toInt ≤ 199 := ⟨by omega, by omega⟩
                                      refine lM_12_32 hx hb hK hP (f := (fa 12 32)) rfl (vp_in_iff.mpr ⟨by omega, by omega⟩) dX12_isWord_40 ?_
                                      refine lv_topi (fun v34 ev34 => ?_)
                                      refine lv_iload hx hb dX12_isWord_41 (lv_at hl 0 rfl) ?_
                                      refine lv_if_ne (tgt := 50) hx hb dX12_isWord_43 (by decide) (fun c35 => ?_) (fun c35 => ?_)
                                      · skip
                                        refine lv_iload hx hb dX12_isWord_50 (lv_at hl 0 rfl) ?_
                                        refine lv_iconst (v := 1) hx hb dX12_isWord_52 (by decide) ?_
                                        refine lv_icmp_ne (tgt := 60) hx hb dX12_isWord_53 (by decide) (fun c36 => ?_) (fun c36 => ?_)
                                        · skip
                                          refine lv_iload hx hb dX12_isWord_60 (lv_at hl 0 rfl) ?_
                                          refine lv_iconst (v := 2) hx hb dX12_isWord_62 (by decide) ?_
                                          refine lv_icmp_ne (tgt := 71) hx hb dX12_isWord_63 (by decide) (fun c37 => ?_) (fun c37 => ?_)
                                          · skip
                                            refine lv_iload hx hb dX12_isWord_71 (lv_at hl 0 rfl) ?_
                                            refine lv_iconst (v := 3) hx hb dX12_isWord_73 (by decide) ?_
                                            refine lv_icmp_ne (tgt := 82) hx hb dX12_isWord_74 (by decide) (fun c38 => ?_) (fun c38 => ?_)
                                            · exact absurd rfl c38
                                            · skip
                                              refine lv_iload hx hb dX12_isWord_77 (lv_at hl 7 rfl) ?_
                                              refine lv_goto (tgt := 95) hx hb dX12_isWord_79 (by decide) ?_
                                              refine lv_icmp_ne (tgt := 102) hx hb dX12_isWord_95 (by decide) (fun c39 => ?_) (fun c39 => ?_)
                                              · have fc39 := z_ne (rfl : (v34).toInt = _) (by decide : (101 : Int32).toInt = 101) c39
                                                refine lv_iconst (v := 0) hx hb dX12_isWord_102 (by decide) ?_
                                                refine lv_istore (lv' := [(8, .int 0), (9, .int 3), (0, .ref h), (1, .int 5), (2, .int 119), (3, .int 97), (4, .int 116), (5, .int 101), (6, .int 114), (7, .int 0)]) hx hb dX12_isWord_103 hl (by decide) rfl (fun ls hl => ?_)
                                                refine lv_iinc (v := 4) (lv' := [(9, .int 4), (8, .int 0), (0, .ref h), (1, .int 5), (2, .int 119), (3, .int 97), (4, .int 116), (5, .int 101), (6, .int 114), (7, .int 0)]) hx hb dX12_isWord_105 hl (k := 1) rfl (by decide) (by decide) rfl (fun ls hl => ?_)
                                                refine lv_goto (tgt := 18) hx hb dX12_isWord_108 (by decide) ?_
                                                refine lv_iload hx hb dX12_isWord_18 (lv_at hl 0 rfl) ?_
                                                refine lv_iload_n hx hb dX12_isWord_20 rfl (lv_at hl 3 rfl) ?_
                                                refine lv_icmp_ge (tgt := 111) hx hb dX12_isWord_21 (by decide) (fun c40 => ?_) (fun c40 => ?_)
                                                · exact absurd c40 (by decide)
                                                · skip
                                                  refine lv_iload hx hb dX12_isWord_24 (lv_at hl 1 rfl) ?_
                                                  refine lv_if_eq (tgt := 111) hx hb dX12_isWord_26 (by decide) (fun c41 => ?_) (fun c41 => ?_)
                                                  · skip
                                                    refine lv_iload hx hb dX12_isWord_111 (lv_at hl 1 rfl) ?_
                                                    have : (0 : Int32).toInt = 0 := (by decide)
                                                    exact W.zret (v := 0) hx hb hr rfl (fun t ht9 hW => ⟨0, rfl, ⟨⟨by decide, by decide⟩, (show (((0 : Int32).toInt = 1 ∧ w_water (fun j => sg ((fa 12 32) j).toInt) ((iv 12 37) : Int32).toInt (((iv 12 37) : Int32).toInt + ((iv 12 38) : Int32).toInt)) ∨ ((0 : Int32).toInt = 0 ∧ ¬ w_water (fun j => sg ((fa 12 32) j).toInt) ((iv 12 37) : Int32).toInt (((iv 12 37) : Int32).toInt + ((iv 12 38) : Int32).toInt))) from (by have q0 := congrArg Int32.toInt (ev7.trans (congrArg (fa 12 32) (show (v6 : Int32).toNatClampNeg = ((iv 12 37).toInt).toNat + 0 from (by show (v6 : Int32).toInt.toNat = _; omega)))); have s0 := sg_i (v7 : Int32).toInt; rw [q0] at s0; have q1 := congrArg Int32.toInt (ev15.trans (congrArg (fa 12 32) (show (v14 : Int32).toNatClampNeg = ((iv 12 37).toInt).toNat + 1 from (by show (v14 : Int32).toInt.toNat = _; omega)))); have s1 := sg_i (v15 : Int32).toInt; rw [q1] at s1; have q2 := congrArg Int32.toInt (ev24.trans (congrArg (fa 12 32) (show (v23 : Int32).toNatClampNeg = ((iv 12 37).toInt).toNat + 2 from (by show (v23 : Int32).toInt.toNat = _; omega)))); have s2 := sg_i (v24 : Int32).toInt; rw [q2] at s2; have q3 := congrArg Int32.toInt (ev34.trans (congrArg (fa 12 32) (show (v33 : Int32).toNatClampNeg = ((iv 12 37).toInt).toNat + 3 from (by show (v33 : Int32).toInt.toNat = _; omega)))); have s3 := sg_i (v34 : Int32).toInt; rw [q3] at s3; exact Or.inr ⟨by omega, fun h9 => (by have h8 : ((iv 12 37).toInt + (iv 12 38).toInt) - (iv 12 37).toInt = 5 ∧ sg (fa 12 32 (((iv 12 37).toInt).toNat + 0)).toInt = 119 ∧ sg (fa 12 32 (((iv 12 37).toInt).toNat + 1)).toInt = 97 ∧ sg (fa 12 32 (((iv 12 37).toInt).toNat + 2)).toInt = 116 ∧ sg (fa 12 32 (((iv 12 37).toInt).toNat + 3)).toInt = 101 ∧ sg (fa 12 32 (((iv 12 37).toInt).toNat + 4)).toInt = 114 := h9; have h7 := h8.2.2.2.2.1; clear h8 h9; omega)⟩)), (show ((0 : Int32).toInt = 0 ∨ ((iv 12 38) : Int32).toInt = 5) from by omega)⟩, ht9⟩) (fun q hq => by cases hq) dX12_isWord_113
                                                  · exact absurd rfl c41
                                              · have fc39 := z_eq (rfl : (v34).toInt = _) (by decide : (101 : Int32).toInt = 101) c39
                                                refine lv_iconst (v := 1) hx hb dX12_isWord_98 (by decide) ?_
                                                refine lv_goto (tgt := 103) hx hb dX12_isWord_99 (by decide) ?_
                                                refine lv_istore (lv' := [(8, .int 1), (9, .int 3), (0, .ref h), (1, .int 5), (2, .int 119), (3, .int 97), (4, .int 116), (5, .int 101), (6, .int 114), (7, .int 0)]) hx hb dX12_isWord_103 hl (by decide) rfl (fun ls hl => ?_)
                                                refine lv_iinc (v := 4) (lv' := [(9, .int 4), (8, .int 1), (0, .ref h), (1, .int 5), (2, .int 119), (3, .int 97), (4, .int 116), (5, .int 101), (6, .int 114), (7, .int 0)]) hx hb dX12_isWord_105 hl (k := 1) rfl (by decide) (by decide) rfl (fun ls hl => ?_)
                                                refine lv_goto (tgt := 18) hx hb dX12_isWord_108 (by decide) ?_
                                                refine lv_iload hx hb dX12_isWord_18 (lv_at hl 0 rfl) ?_
                                                refine lv_iload_n hx hb dX12_isWord_20 rfl (lv_at hl 3 rfl) ?_
                                                refine lv_icmp_ge (tgt := 111) hx hb dX12_isWord_21 (by decide) (fun c42 => ?_) (fun c42 => ?_)
                                                · exact absurd c42 (by decide)
                                                · skip
                                                  refine lv_iload hx hb dX12_isWord_24 (lv_at hl 1 rfl) ?_
                                                  refine lv_if_eq (tgt := 111) hx hb dX12_isWord_26 (by decide) (fun c43 => ?_) (fun c43 => ?_)
                                                  · exact absurd c43 (by decide)
                                                  · skip
                                                    refine lv_aload_n hx hb dX12_isWord_29 rfl (lv_at hl 2 rfl) ?_
                                                    refine gM_12_32 hx hb ht hown hK hP m_1171 dX12_isWord_30 ?_
                                                    refine lv_aload_n hx hb dX12_isWord_33 rfl (lv_at hl 2 rfl) ?_
                                                    refine gM_12_37 hx hb ht hown hK hP m_1176 (v := (iv 12 37)) rfl dX12_isWord_34 ?_
                                                    refine lv_iload hx hb dX12_isWord_37 (lv_at hl 0 rfl) ?_
                                                    refine lv_iadd hx hb dX12_isWord_39 ?_
                                                    refine lv_topi (fun v44 ev44 => ?_)
                                                    have tv44 := z_add ev44 (rfl : ((iv 12 37)).toInt = _) (by decide : (4 : Int32).toInt = 4) (by omega) (by omega)
                                                    have : 0 ≤ (v44 : Int32).toInt ∧ (v44 : Int32).toInt ≤ 199 := ⟨by omega, by omega⟩
                                                    refine lM_12_32 hx hb hK hP (f := (fa 12 32)) rfl (vp_in_iff.mpr ⟨by omega, by omega⟩) dX12_isWord_40 ?_
                                                    refine lv_topi (fun v45 ev45 => ?_)
                                                    refine lv_iload hx hb dX12_isWord_41 (lv_at hl 0 rfl) ?_
                                                    refine lv_if_ne (tgt := 50) hx hb dX12_isWord_43 (by decide) (fun c46 => ?_) (fun c46 => ?_)
                                                    · skip
                                                      refine lv_iload hx hb dX12_isWord_50 (lv_at hl 0 rfl) ?_
                                                      refine lv_iconst (v := 1) hx hb dX12_isWord_52 (by decide) ?_
                                                      refine lv_icmp_ne (tgt := 60) hx hb dX12_isWord_53 (by decide) (fun c47 => ?_) (fun c47 => ?_)
                                                      · skip
                                                        refine lv_iload hx hb dX12_isWord_60 (lv_at hl 0 rfl) ?_
                                                        refine lv_iconst (v := 2) hx hb dX12_isWord_62 (by decide) ?_
                                                        refine lv_icmp_ne (tgt := 71) hx hb dX12_isWord_63 (by decide) (fun c48 => ?_) (fun c48 => ?_)
                                                        · skip
                                                          refine lv_iload hx hb dX12_isWord_71 (lv_at hl 0 rfl) ?_
                                                          refine lv_iconst (v := 3) hx hb dX12_isWord_73 (by decide) ?_
                                                          refine lv_icmp_ne (tgt := 82) hx hb dX12_isWord_74 (by decide) (fun c49 => ?_) (fun c49 => ?_)
                                                          · skip
                                                            refine lv_iload hx hb dX12_isWord_82 (lv_at hl 0 rfl) ?_
                                                            refine lv_iconst (v := 4) hx hb dX12_isWord_84 (by decide) ?_
                                                            refine lv_icmp_ne (tgt := 93) hx hb dX12_isWord_85 (by decide) (fun c50 => ?_) (fun c50 => ?_)
                                                            · exact absurd rfl c50
                                                            · skip
                                                              refine lv_iload hx hb dX12_isWord_88 (lv_at hl 8 rfl) ?_
                                                              refine lv_goto (tgt := 95) hx hb dX12_isWord_90 (by decide) ?_
                                                              refine lv_icmp_ne (tgt := 102) hx hb dX12_isWord_95 (by decide) (fun c51 => ?_) (fun c51 => ?_)
                                                              · have fc51 := z_ne (rfl : (v45).toInt = _) (by decide : (114 : Int32).toInt = 114) c51
                                                                refine lv_iconst (v := 0) hx hb dX12_isWord_102 (by decide) ?_
                                                                refine lv_istore (lv' := [(8, .int 0), (9, .int 4), (0, .ref h), (1, .int 5), (2, .int 119), (3, .int 97), (4, .int 116), (5, .int 101), (6, .int 114), (7, .int 0)]) hx hb dX12_isWord_103 hl (by decide) rfl (fun ls hl => ?_)
                                                                refine lv_iinc (v := 5) (lv' := [(9, .int 5), (8, .int 0), (0, .ref h), (1, .int 5), (2, .int 119), (3, .int 97), (4, .int 116), (5, .int 101), (6, .int 114), (7, .int 0)]) hx hb dX12_isWord_105 hl (k := 1) rfl (by decide) (by decide) rfl (fun ls hl => ?_)
                                                                refine lv_goto (tgt := 18) hx hb dX12_isWord_108 (by decide) ?_
                                                                refine lv_iload hx hb dX12_isWord_18 (lv_at hl 0 rfl) ?_
                                                                refine lv_iload_n hx hb dX12_isWord_20 rfl (lv_at hl 3 rfl) ?_
                                                                refine lv_icmp_ge (tgt := 111) hx hb dX12_isWord_21 (by decide) (fun c52 => ?_) (fun c52 => ?_)
                                                                · skip
                                                                  refine lv_iload hx hb dX12_isWord_111 (lv_at hl 1 rfl) ?_
                                                                  have : (0 : Int32).toInt = 0 := (by decide)
                                                                  exact W.zret (v := 0) hx hb hr rfl (fun t ht9 hW => ⟨0, rfl, ⟨⟨by decide, by decide⟩, (show (((0 : Int32).toInt = 1 ∧ w_water (fun j => sg ((fa 12 32) j).toInt) ((iv 12 37) : Int32).toInt (((iv 12 37) : Int32).toInt + ((iv 12 38) : Int32).toInt)) ∨ ((0 : Int32).toInt = 0 ∧ ¬ w_water (fun j => sg ((fa 12 32) j).toInt) ((iv 12 37) : Int32).toInt (((iv 12 37) : Int32).toInt + ((iv 12 38) : Int32).toInt))) from (by have q0 := congrArg Int32.toInt (ev7.trans (congrArg (fa 12 32) (show (v6 : Int32).toNatClampNeg = ((iv 12 37).toInt).toNat + 0 from (by show (v6 : Int32).toInt.toNat = _; omega)))); have s0 := sg_i (v7 : Int32).toInt; rw [q0] at s0; have q1 := congrArg Int32.toInt (ev15.trans (congrArg (fa 12 32) (show (v14 : Int32).toNatClampNeg = ((iv 12 37).toInt).toNat + 1 from (by show (v14 : Int32).toInt.toNat = _; omega)))); have s1 := sg_i (v15 : Int32).toInt; rw [q1] at s1; have q2 := congrArg Int32.toInt (ev24.trans (congrArg (fa 12 32) (show (v23 : Int32).toNatClampNeg = ((iv 12 37).toInt).toNat + 2 from (by show (v23 : Int32).toInt.toNat = _; omega)))); have s2 := sg_i (v24 : Int32).toInt; rw [q2] at s2; have q3 := congrArg Int32.toInt (ev34.trans (congrArg (fa 12 32) (show (v33 : Int32).toNatClampNeg = ((iv 12 37).toInt).toNat + 3 from (by show (v33 : Int32).toInt.toNat = _; omega)))); have s3 := sg_i (v34 : Int32).toInt; rw [q3] at s3; have q4 := congrArg Int32.toInt (ev45.trans (congrArg (fa 12 32) (show (v44 : Int32).toNatClampNeg = ((iv 12 37).toInt).toNat + 4 from (by show (v44 : Int32).toInt.toNat = _; omega)))); have s4 := sg_i (v45 : Int32).toInt; rw [q4] at s4; exact Or.inr ⟨by omega, fun h9 => (by have h8 : ((iv 12 37).toInt + (iv 12 38).toInt) - (iv 12 37).toInt = 5 ∧ sg (fa 12 32 (((iv 12 37).toInt).toNat + 0)).toInt = 119 ∧ sg (fa 12 32 (((iv 12 37).toInt).toNat + 1)).toInt = 97 ∧ sg (fa 12 32 (((iv 12 37).toInt).toNat + 2)).toInt = 116 ∧ sg (fa 12 32 (((iv 12 37).toInt).toNat + 3)).toInt = 101 ∧ sg (fa 12 32 (((iv 12 37).toInt).toNat + 4)).toInt = 114 := h9; have h7 := h8.2.2.2.2.2; clear h8 h9; omega)⟩)), (show ((0 : Int32).toInt = 0 ∨ ((iv 12 38) : Int32).toInt = 5) from by omega)⟩, ht9⟩) (fun q hq => by cases hq) dX12_isWord_113
                                                                · exact absurd c52 (by decide)
                                                              · have fc51 := z_eq (rfl : (v45).toInt = _) (by decide : (114 : Int32).toInt = 114) c51
                                                                refine lv_iconst (v := 1) hx hb dX12_isWord_98 (by decide) ?_
                                                                refine lv_goto (tgt := 103) hx hb dX12_isWord_99 (by decide) ?_
                                                                refine lv_istore (lv' := [(8, .int 1), (9, .int 4), (0, .ref h), (1, .int 5), (2, .int 119), (3, .int 97), (4, .int 116), (5, .int 101), (6, .int 114), (7, .int 0)]) hx hb dX12_isWord_103 hl (by decide) rfl (fun ls hl => ?_)
                                                                refine lv_iinc (v := 5) (lv' := [(9, .int 5), (8, .int 1), (0, .ref h), (1, .int 5), (2, .int 119), (3, .int 97), (4, .int 116), (5, .int 101), (6, .int 114), (7, .int 0)]) hx hb dX12_isWord_105 hl (k := 1) rfl (by decide) (by decide) rfl (fun ls hl => ?_)
                                                                refine lv_goto (tgt := 18) hx hb dX12_isWord_108 (by decide) ?_
                                                                refine lv_iload hx hb dX12_isWord_18 (lv_at hl 0 rfl) ?_
                                                                refine lv_iload_n hx hb dX12_isWord_20 rfl (lv_at hl 3 rfl) ?_
                                                                refine lv_icmp_ge (tgt := 111) hx hb dX12_isWord_21 (by decide) (fun c53 => ?_) (fun c53 => ?_)
                                                                · skip
                                                                  refine lv_iload hx hb dX12_isWord_111 (lv_at hl 1 rfl) ?_
                                                                  have : (1 : Int32).toInt = 1 := (by decide)
                                                                  exact W.zret (v := 1) hx hb hr rfl (fun t ht9 hW => ⟨1, rfl, ⟨⟨by decide, by decide⟩, (show (((1 : Int32).toInt = 1 ∧ w_water (fun j => sg ((fa 12 32) j).toInt) ((iv 12 37) : Int32).toInt (((iv 12 37) : Int32).toInt + ((iv 12 38) : Int32).toInt)) ∨ ((1 : Int32).toInt = 0 ∧ ¬ w_water (fun j => sg ((fa 12 32) j).toInt) ((iv 12 37) : Int32).toInt (((iv 12 37) : Int32).toInt + ((iv 12 38) : Int32).toInt))) from (by have q0 := congrArg Int32.toInt (ev7.trans (congrArg (fa 12 32) (show (v6 : Int32).toNatClampNeg = ((iv 12 37).toInt).toNat + 0 from (by show (v6 : Int32).toInt.toNat = _; omega)))); have s0 := sg_i (v7 : Int32).toInt; rw [q0] at s0; have q1 := congrArg Int32.toInt (ev15.trans (congrArg (fa 12 32) (show (v14 : Int32).toNatClampNeg = ((iv 12 37).toInt).toNat + 1 from (by show (v14 : Int32).toInt.toNat = _; omega)))); have s1 := sg_i (v15 : Int32).toInt; rw [q1] at s1; have q2 := congrArg Int32.toInt (ev24.trans (congrArg (fa 12 32) (show (v23 : Int32).toNatClampNeg = ((iv 12 37).toInt).toNat + 2 from (by show (v23 : Int32).toInt.toNat = _; omega)))); have s2 := sg_i (v24 : Int32).toInt; rw [q2] at s2; have q3 := congrArg Int32.toInt (ev34.trans (congrArg (fa 12 32) (show (v33 : Int32).toNatClampNeg = ((iv 12 37).toInt).toNat + 3 from (by show (v33 : Int32).toInt.toNat = _; omega)))); have s3 := sg_i (v34 : Int32).toInt; rw [q3] at s3; have q4 := congrArg Int32.toInt (ev45.trans (congrArg (fa 12 32) (show (v44 : Int32).toNatClampNeg = ((iv 12 37).toInt).toNat + 4 from (by show (v44 : Int32).toInt.toNat = _; omega)))); have s4 := sg_i (v45 : Int32).toInt; rw [q4] at s4; exact Or.inl ⟨by omega, (show ((iv 12 37).toInt + (iv 12 38).toInt) - (iv 12 37).toInt = 5 ∧ sg (fa 12 32 (((iv 12 37).toInt).toNat + 0)).toInt = 119 ∧ sg (fa 12 32 (((iv 12 37).toInt).toNat + 1)).toInt = 97 ∧ sg (fa 12 32 (((iv 12 37).toInt).toNat + 2)).toInt = 116 ∧ sg (fa 12 32 (((iv 12 37).toInt).toNat + 3)).toInt = 101 ∧ sg (fa 12 32 (((iv 12 37).toInt).toNat + 4)).toInt = 114 from ⟨by omega, by omega, by omega, by omega, by omega, by omega⟩)⟩)), (show ((1 : Int32).toInt = 0 ∨ ((iv 12 38) : Int32).toInt = 5) from by omega)⟩, ht9⟩) (fun q hq => by cases hq) dX12_isWord_113
                                                                · exact absurd c53 (by decide)
                                                          · exact absurd c49 (by decide)
                                                        · exact absurd c48 (by decide)
                                                      · exact absurd c47 (by decide)
                                                    · exact absurd c46 (by decide)
                                          · exact absurd c37 (by decide)
                                        · exact absurd c36 (by decide)
                                      · exact absurd c35 (by decide)
                            · exact absurd c26 (by decide)
                          · exact absurd c25 (by decide)
                · exact absurd c16 (by decide)
set_option maxHeartbeats 4000000 in
set_option maxRecDepth 100000 in
/-- X12_isWord -/
theorem c_X12_isWord_r_skeins (l : Launch) (dC : Nat → ClassId) (dI : Nat → Nat → Nat) (h : Nat) (g : Nat → Nat → Nat) (ca : Nat → Nat → ClassId) (iv : Nat → Nat → Int32) (lv : Nat → Nat → Int64) (fa : Nat → Nat → Nat → Int32) (la : Nat → Nat → Nat → Int64) (hI : IX iv fa) (p_0 : (iv 12 37).toInt + (iv 12 38).toInt ≤ 200) : Met l yX12_isWord (wc yX12_isWord cX12_isWord 10 (some .boolean)) ({ frames := 0, cells := 0, slots := 0, locals := 0 } : Room) (pR (dC, dI) classes (WM h g ca iv lv fa la) (TM ca) [.ref h, .int 6, .int 115, .int 107, .int 101, .int 105, .int 110, .int 115]) (vp_Si (fun r => (0 ≤ r.toInt ∧ r.toInt ≤ 1) ∧ (((r.toInt = 1 ∧ w_skeins (fun j => sg ((fa 12 32) j).toInt) (iv 12 37).toInt ((iv 12 37).toInt + (iv 12 38).toInt)) ∨ (r.toInt = 0 ∧ ¬ w_skeins (fun j => sg ((fa 12 32) j).toInt) (iv 12 37).toInt ((iv 12 37).toInt + (iv 12 38).toInt)))) ∧ ((r.toInt = 0 ∨ (iv 12 38).toInt = 6)))) 0 0 (fun _ => False) := by
  refine Met.ofW (cc := cX12_isWord) (maxL := 10) (ret := (some .boolean)) (by decide) rfl ?_
  intro p e s m args below meth c s₁ B hml hv
  obtain ⟨rfl, hP, hK⟩ := hv
  have hx := B.exec
  have hb := B.bytes
  have hr := B.returns
  have ht := tb_tl (atoms_spec (ws := wc yX12_isWord cX12_isWord 10 (some .boolean)) B.pre)
  have hown : s.vm.findClass RX12 = some m.cls := findClass_of_methodNamed B.named
  have hlocks := B.notSynchronized
  have hl := lv_entry [.ref h, .int 6, .int 115, .int 107, .int 101, .int 105, .int 110, .int 115] (n := 10) (Nat.le_of_ble_eq_true rfl)
  rw [lg_entry_eq]
  generalize (lg_sl [.ref h, .int 6, .int 115, .int 107, .int 101, .int 105, .int 110, .int 115] ++ List.replicate (10 - (lg_sl [.ref h, .int 6, .int 115, .int 107, .int 101, .int 105, .int 110, .int 115]).length) Slot.unset).toArray = ls at hl ⊢
  have hl : lv_has ls 10 [(0, .ref h), (1, .int 6), (2, .int 115), (3, .int 107), (4, .int 101), (5, .int 105), (6, .int 110), (7, .int 115)] := hl
  refine lv_aload_n hx hb dX12_isWord_0 rfl (lv_at hl 0 rfl) ?_
  have i_12_38 : 0 ≤ (iv 12 38).toInt ∧ (iv 12 38).toInt ≤ 200 := hI.1 12 38
  refine gM_12_38 hx hb ht hown hK hP m_1177 (v := (iv 12 38)) rfl dX12_isWord_1 ?_
  refine lv_iload_n hx hb dX12_isWord_4 rfl (lv_at hl 1 rfl) ?_
  refine lv_icmp_ne (tgt := 12) hx hb dX12_isWord_5 (by decide) (fun c1 => ?_) (fun c1 => ?_)
  · have fc1 := z_ne (rfl : ((iv 12 38)).toInt = _) (by decide : (6 : Int32).toInt = 6) c1
    refine lv_iconst (v := 0) hx hb dX12_isWord_12 (by decide) ?_
    refine lv_istore (lv' := [(8, .int 0), (0, .ref h), (1, .int 6), (2, .int 115), (3, .int 107), (4, .int 101), (5, .int 105), (6, .int 110), (7, .int 115)]) hx hb dX12_isWord_13 hl (by decide) rfl (fun ls hl => ?_)
    refine lv_iconst (v := 0) hx hb dX12_isWord_15 (by decide) ?_
    refine lv_istore (lv' := [(9, .int 0), (8, .int 0), (0, .ref h), (1, .int 6), (2, .int 115), (3, .int 107), (4, .int 101), (5, .int 105), (6, .int 110), (7, .int 115)]) hx hb dX12_isWord_16 hl (by decide) rfl (fun ls hl => ?_)
    refine lv_iload hx hb dX12_isWord_18 (lv_at hl 0 rfl) ?_
    refine lv_iload_n hx hb dX12_isWord_20 rfl (lv_at hl 3 rfl) ?_
    refine lv_icmp_ge (tgt := 111) hx hb dX12_isWord_21 (by decide) (fun c2 => ?_) (fun c2 => ?_)
    · exact absurd c2 (by decide)
    · skip
      refine lv_iload hx hb dX12_isWord_24 (lv_at hl 1 rfl) ?_
      refine lv_if_eq (tgt := 111) hx hb dX12_isWord_26 (by decide) (fun c3 => ?_) (fun c3 => ?_)
      · skip
        refine lv_iload hx hb dX12_isWord_111 (lv_at hl 1 rfl) ?_
        have : (0 : Int32).toInt = 0 := (by decide)
        have i_12_37 : 0 ≤ (iv 12 37).toInt ∧ (iv 12 37).toInt ≤ 200 := hI.1 12 37
        exact W.zret (v := 0) hx hb hr rfl (fun t ht9 hW => ⟨0, rfl, ⟨⟨by decide, by decide⟩, (show (((0 : Int32).toInt = 1 ∧ w_skeins (fun j => sg ((fa 12 32) j).toInt) ((iv 12 37) : Int32).toInt (((iv 12 37) : Int32).toInt + ((iv 12 38) : Int32).toInt)) ∨ ((0 : Int32).toInt = 0 ∧ ¬ w_skeins (fun j => sg ((fa 12 32) j).toInt) ((iv 12 37) : Int32).toInt (((iv 12 37) : Int32).toInt + ((iv 12 38) : Int32).toInt))) from (by exact Or.inr ⟨by omega, fun h9 => (by have h8 : ((iv 12 37).toInt + (iv 12 38).toInt) - (iv 12 37).toInt = 6 ∧ sg (fa 12 32 (((iv 12 37).toInt).toNat + 0)).toInt = 115 ∧ sg (fa 12 32 (((iv 12 37).toInt).toNat + 1)).toInt = 107 ∧ sg (fa 12 32 (((iv 12 37).toInt).toNat + 2)).toInt = 101 ∧ sg (fa 12 32 (((iv 12 37).toInt).toNat + 3)).toInt = 105 ∧ sg (fa 12 32 (((iv 12 37).toInt).toNat + 4)).toInt = 110 ∧ sg (fa 12 32 (((iv 12 37).toInt).toNat + 5)).toInt = 115 := h9; have h7 := h8.1; omega)⟩)), (show ((0 : Int32).toInt = 0 ∨ ((iv 12 38) : Int32).toInt = 6) from by omega)⟩, ht9⟩) (fun q hq => by cases hq) dX12_isWord_113
      · exact absurd rfl c3
  · have fc1 := z_eq (rfl : ((iv 12 38)).toInt = _) (by decide : (6 : Int32).toInt = 6) c1
    refine lv_iconst (v := 1) hx hb dX12_isWord_8 (by decide) ?_
    refine lv_goto (tgt := 13) hx hb dX12_isWord_9 (by decide) ?_
    refine lv_istore (lv' := [(8, .int 1), (0, .ref h), (1, .int 6), (2, .int 115), (3, .int 107), (4, .int 101), (5, .int 105), (6, .int 110), (7, .int 115)]) hx hb dX12_isWord_13 hl (by decide) rfl (fun ls hl => ?_)
    refine lv_iconst (v := 0) hx hb dX12_isWord_15 (by decide) ?_
    refine lv_istore (lv' := [(9, .int 0), (8, .int 1), (0, .ref h), (1, .int 6), (2, .int 115), (3, .int 107), (4, .int 101), (5, .int 105), (6, .int 110), (7, .int 115)]) hx hb dX12_isWord_16 hl (by decide) rfl (fun ls hl => ?_)
    refine lv_iload hx hb dX12_isWord_18 (lv_at hl 0 rfl) ?_
    refine lv_iload_n hx hb dX12_isWord_20 rfl (lv_at hl 3 rfl) ?_
    refine lv_icmp_ge (tgt := 111) hx hb dX12_isWord_21 (by decide) (fun c4 => ?_) (fun c4 => ?_)
    · exact absurd c4 (by decide)
    · skip
      refine lv_iload hx hb dX12_isWord_24 (lv_at hl 1 rfl) ?_
      refine lv_if_eq (tgt := 111) hx hb dX12_isWord_26 (by decide) (fun c5 => ?_) (fun c5 => ?_)
      · exact absurd c5 (by decide)
      · skip
        refine lv_aload_n hx hb dX12_isWord_29 rfl (lv_at hl 2 rfl) ?_
        refine gM_12_32 hx hb ht hown hK hP m_1171 dX12_isWord_30 ?_
        refine lv_aload_n hx hb dX12_isWord_33 rfl (lv_at hl 2 rfl) ?_
        have i_12_37 : 0 ≤ (iv 12 37).toInt ∧ (iv 12 37).toInt ≤ 200 := hI.1 12 37
        refine gM_12_37 hx hb ht hown hK hP m_1176 (v := (iv 12 37)) rfl dX12_isWord_34 ?_
        refine lv_iload hx hb dX12_isWord_37 (lv_at hl 0 rfl) ?_
        refine lv_iadd hx hb dX12_isWord_39 ?_
        refine lv_topi (fun v6 ev6 => ?_)
        have tv6 := z_add ev6 (rfl : ((iv 12 37)).toInt = _) (by decide : (0 : Int32).toInt = 0) (by omega) (by omega)
        have : 0 ≤ (v6 : Int32).toInt ∧ (v6 : Int32).toInt ≤ 199 := ⟨by omega, by omega⟩
        refine lM_12_32 hx hb hK hP (f := (fa 12 32)) rfl (vp_in_iff.mpr ⟨by omega, by omega⟩) dX12_isWord_40 ?_
        refine lv_topi (fun v7 ev7 => ?_)
        refine lv_iload hx hb dX12_isWord_41 (lv_at hl 0 rfl) ?_
        refine lv_if_ne (tgt := 50) hx hb dX12_isWord_43 (by decide) (fun c8 => ?_) (fun c8 => ?_)
        · exact absurd rfl c8
        · skip
          refine lv_iload_n hx hb dX12_isWord_46 rfl (lv_at hl 4 rfl) ?_
          refine lv_goto (tgt := 95) hx hb dX12_isWord_47 (by decide) ?_
          refine lv_icmp_ne (tgt := 102) hx hb dX12_isWord_95 (by decide) (fun c9 => ?_) (fun c9 => ?_)
          · have fc9 := z_ne (rfl : (v7).toInt = _) (by decide : (115 : Int32).toInt = 115) c9
            refine lv_iconst (v := 0) hx hb dX12_isWord_102 (by decide) ?_
            refine lv_istore (lv' := [(8, .int 0), (9, .int 0), (0, .ref h), (1, .int 6), (2, .int 115), (3, .int 107), (4, .int 101), (5, .int 105), (6, .int 110), (7, .int 115)]) hx hb dX12_isWord_103 hl (by decide) rfl (fun ls hl => ?_)
            refine lv_iinc (v := 1) (lv' := [(9, .int 1), (8, .int 0), (0, .ref h), (1, .int 6), (2, .int 115), (3, .int 107), (4, .int 101), (5, .int 105), (6, .int 110), (7, .int 115)]) hx hb dX12_isWord_105 hl (k := 1) rfl (by decide) (by decide) rfl (fun ls hl => ?_)
            refine lv_goto (tgt := 18) hx hb dX12_isWord_108 (by decide) ?_
            refine lv_iload hx hb dX12_isWord_18 (lv_at hl 0 rfl) ?_
            refine lv_iload_n hx hb dX12_isWord_20 rfl (lv_at hl 3 rfl) ?_
            refine lv_icmp_ge (tgt := 111) hx hb dX12_isWord_21 (by decide) (fun c10 => ?_) (fun c10 => ?_)
            · exact absurd c10 (by decide)
            · skip
              refine lv_iload hx hb dX12_isWord_24 (lv_at hl 1 rfl) ?_
              refine lv_if_eq (tgt := 111) hx hb dX12_isWord_26 (by decide) (fun c11 => ?_) (fun c11 => ?_)
              · skip
                refine lv_iload hx hb dX12_isWord_111 (lv_at hl 1 rfl) ?_
                have : (0 : Int32).toInt = 0 := (by decide)
                exact W.zret (v := 0) hx hb hr rfl (fun t ht9 hW => ⟨0, rfl, ⟨⟨by decide, by decide⟩, (show (((0 : Int32).toInt = 1 ∧ w_skeins (fun j => sg ((fa 12 32) j).toInt) ((iv 12 37) : Int32).toInt (((iv 12 37) : Int32).toInt + ((iv 12 38) : Int32).toInt)) ∨ ((0 : Int32).toInt = 0 ∧ ¬ w_skeins (fun j => sg ((fa 12 32) j).toInt) ((iv 12 37) : Int32).toInt (((iv 12 37) : Int32).toInt + ((iv 12 38) : Int32).toInt))) from (by have q0 := congrArg Int32.toInt (ev7.trans (congrArg (fa 12 32) (show (v6 : Int32).toNatClampNeg = ((iv 12 37).toInt).toNat + 0 from (by show (v6 : Int32).toInt.toNat = _; omega)))); have s0 := sg_i (v7 : Int32).toInt; rw [q0] at s0; exact Or.inr ⟨by omega, fun h9 => (by have h8 : ((iv 12 37).toInt + (iv 12 38).toInt) - (iv 12 37).toInt = 6 ∧ sg (fa 12 32 (((iv 12 37).toInt).toNat + 0)).toInt = 115 ∧ sg (fa 12 32 (((iv 12 37).toInt).toNat + 1)).toInt = 107 ∧ sg (fa 12 32 (((iv 12 37).toInt).toNat + 2)).toInt = 101 ∧ sg (fa 12 32 (((iv 12 37).toInt).toNat + 3)).toInt = 105 ∧ sg (fa 12 32 (((iv 12 37).toInt).toNat + 4)).toInt = 110 ∧ sg (fa 12 32 (((iv 12 37).toInt).toNat + 5)).toInt = 115 := h9; have h7 := h8.2.1; clear h8 h9; omega)⟩)), (show ((0 : Int32).toInt = 0 ∨ ((iv 12 38) : Int32).toInt = 6) from by omega)⟩, ht9⟩) (fun q hq => by cases hq) dX12_isWord_113
              · exact absurd rfl c11
          · have fc9 := z_eq (rfl : (v7).toInt = _) (by decide : (115 : Int32).toInt = 115) c9
            refine lv_iconst (v := 1) hx hb dX12_isWord_98 (by decide) ?_
            refine lv_goto (tgt := 103) hx hb dX12_isWord_99 (by decide) ?_
            refine lv_istore (lv' := [(8, .int 1), (9, .int 0), (0, .ref h), (1, .int 6), (2, .int 115), (3, .int 107), (4, .int 101), (5, .int 105), (6, .int 110), (7, .int 115)]) hx hb dX12_isWord_103 hl (by decide) rfl (fun ls hl => ?_)
            refine lv_iinc (v := 1) (lv' := [(9, .int 1), (8, .int 1), (0, .ref h), (1, .int 6), (2, .int 115), (3, .int 107), (4, .int 101), (5, .int 105), (6, .int 110), (7, .int 115)]) hx hb dX12_isWord_105 hl (k := 1) rfl (by decide) (by decide) rfl (fun ls hl => ?_)
            refine lv_goto (tgt := 18) hx hb dX12_isWord_108 (by decide) ?_
            refine lv_iload hx hb dX12_isWord_18 (lv_at hl 0 rfl) ?_
            refine lv_iload_n hx hb dX12_isWord_20 rfl (lv_at hl 3 rfl) ?_
            refine lv_icmp_ge (tgt := 111) hx hb dX12_isWord_21 (by decide) (fun c12 => ?_) (fun c12 => ?_)
            · exact absurd c12 (by decide)
            · skip
              refine lv_iload hx hb dX12_isWord_24 (lv_at hl 1 rfl) ?_
              refine lv_if_eq (tgt := 111) hx hb dX12_isWord_26 (by decide) (fun c13 => ?_) (fun c13 => ?_)
              · exact absurd c13 (by decide)
              · skip
                refine lv_aload_n hx hb dX12_isWord_29 rfl (lv_at hl 2 rfl) ?_
                refine gM_12_32 hx hb ht hown hK hP m_1171 dX12_isWord_30 ?_
                refine lv_aload_n hx hb dX12_isWord_33 rfl (lv_at hl 2 rfl) ?_
                refine gM_12_37 hx hb ht hown hK hP m_1176 (v := (iv 12 37)) rfl dX12_isWord_34 ?_
                refine lv_iload hx hb dX12_isWord_37 (lv_at hl 0 rfl) ?_
                refine lv_iadd hx hb dX12_isWord_39 ?_
                refine lv_topi (fun v14 ev14 => ?_)
                have tv14 := z_add ev14 (rfl : ((iv 12 37)).toInt = _) (by decide : (1 : Int32).toInt = 1) (by omega) (by omega)
                have : 0 ≤ (v14 : Int32).toInt ∧ (v14 : Int32).toInt ≤ 199 := ⟨by omega, by omega⟩
                refine lM_12_32 hx hb hK hP (f := (fa 12 32)) rfl (vp_in_iff.mpr ⟨by omega, by omega⟩) dX12_isWord_40 ?_
                refine lv_topi (fun v15 ev15 => ?_)
                refine lv_iload hx hb dX12_isWord_41 (lv_at hl 0 rfl) ?_
                refine lv_if_ne (tgt := 50) hx hb dX12_isWord_43 (by decide) (fun c16 => ?_) (fun c16 => ?_)
                · skip
                  refine lv_iload hx hb dX12_isWord_50 (lv_at hl 0 rfl) ?_
                  refine lv_iconst (v := 1) hx hb dX12_isWord_52 (by decide) ?_
                  refine lv_icmp_ne (tgt := 60) hx hb dX12_isWord_53 (by decide) (fun c17 => ?_) (fun c17 => ?_)
                  · exact absurd rfl c17
                  · skip
                    refine lv_iload_n hx hb dX12_isWord_56 rfl (lv_at hl 5 rfl) ?_
                    refine lv_goto (tgt := 95) hx hb dX12_isWord_57 (by decide) ?_
                    refine lv_icmp_ne (tgt := 102) hx hb dX12_isWord_95 (by decide) (fun c18 => ?_) (fun c18 => ?_)
                    · have fc18 := z_ne (rfl : (v15).toInt = _) (by decide : (107 : Int32).toInt = 107) c18
                      refine lv_iconst (v := 0) hx hb dX12_isWord_102 (by decide) ?_
                      refine lv_istore (lv' := [(8, .int 0), (9, .int 1), (0, .ref h), (1, .int 6), (2, .int 115), (3, .int 107), (4, .int 101), (5, .int 105), (6, .int 110), (7, .int 115)]) hx hb dX12_isWord_103 hl (by decide) rfl (fun ls hl => ?_)
                      refine lv_iinc (v := 2) (lv' := [(9, .int 2), (8, .int 0), (0, .ref h), (1, .int 6), (2, .int 115), (3, .int 107), (4, .int 101), (5, .int 105), (6, .int 110), (7, .int 115)]) hx hb dX12_isWord_105 hl (k := 1) rfl (by decide) (by decide) rfl (fun ls hl => ?_)
                      refine lv_goto (tgt := 18) hx hb dX12_isWord_108 (by decide) ?_
                      refine lv_iload hx hb dX12_isWord_18 (lv_at hl 0 rfl) ?_
                      refine lv_iload_n hx hb dX12_isWord_20 rfl (lv_at hl 3 rfl) ?_
                      refine lv_icmp_ge (tgt := 111) hx hb dX12_isWord_21 (by decide) (fun c19 => ?_) (fun c19 => ?_)
                      · exact absurd c19 (by decide)
                      · skip
                        refine lv_iload hx hb dX12_isWord_24 (lv_at hl 1 rfl) ?_
                        refine lv_if_eq (tgt := 111) hx hb dX12_isWord_26 (by decide) (fun c20 => ?_) (fun c20 => ?_)
                        · skip
                          refine lv_iload hx hb dX12_isWord_111 (lv_at hl 1 rfl) ?_
                          have : (0 : Int32).toInt = 0 := (by decide)
                          exact W.zret (v := 0) hx hb hr rfl (fun t ht9 hW => ⟨0, rfl, ⟨⟨by decide, by decide⟩, (show (((0 : Int32).toInt = 1 ∧ w_skeins (fun j => sg ((fa 12 32) j).toInt) ((iv 12 37) : Int32).toInt (((iv 12 37) : Int32).toInt + ((iv 12 38) : Int32).toInt)) ∨ ((0 : Int32).toInt = 0 ∧ ¬ w_skeins (fun j => sg ((fa 12 32) j).toInt) ((iv 12 37) : Int32).toInt (((iv 12 37) : Int32).toInt + ((iv 12 38) : Int32).toInt))) from (by have q0 := congrArg Int32.toInt (ev7.trans (congrArg (fa 12 32) (show (v6 : Int32).toNatClampNeg = ((iv 12 37).toInt).toNat + 0 from (by show (v6 : Int32).toInt.toNat = _; omega)))); have s0 := sg_i (v7 : Int32).toInt; rw [q0] at s0; have q1 := congrArg Int32.toInt (ev15.trans (congrArg (fa 12 32) (show (v14 : Int32).toNatClampNeg = ((iv 12 37).toInt).toNat + 1 from (by show (v14 : Int32).toInt.toNat = _; omega)))); have s1 := sg_i (v15 : Int32).toInt; rw [q1] at s1; exact Or.inr ⟨by omega, fun h9 => (by have h8 : ((iv 12 37).toInt + (iv 12 38).toInt) - (iv 12 37).toInt = 6 ∧ sg (fa 12 32 (((iv 12 37).toInt).toNat + 0)).toInt = 115 ∧ sg (fa 12 32 (((iv 12 37).toInt).toNat + 1)).toInt = 107 ∧ sg (fa 12 32 (((iv 12 37).toInt).toNat + 2)).toInt = 101 ∧ sg (fa 12 32 (((iv 12 37).toInt).toNat + 3)).toInt = 105 ∧ sg (fa 12 32 (((iv 12 37).toInt).toNat + 4)).toInt = 110 ∧ sg (fa 12 32 (((iv 12 37).toInt).toNat + 5)).toInt = 115 := h9; have h7 := h8.2.2.1; clear h8 h9; omega)⟩)), (show ((0 : Int32).toInt = 0 ∨ ((iv 12 38) : Int32).toInt = 6) from by omega)⟩, ht9⟩) (fun q hq => by cases hq) dX12_isWord_113
                        · exact absurd rfl c20
                    · have fc18 := z_eq (rfl : (v15).toInt = _) (by decide : (107 : Int32).toInt = 107) c18
                      refine lv_iconst (v := 1) hx hb dX12_isWord_98 (by decide) ?_
                      refine lv_goto (tgt := 103) hx hb dX12_isWord_99 (by decide) ?_
                      refine lv_istore (lv' := [(8, .int 1), (9, .int 1), (0, .ref h), (1, .int 6), (2, .int 115), (3, .int 107), (4, .int 101), (5, .int 105), (6, .int 110), (7, .int 115)]) hx hb dX12_isWord_103 hl (by decide) rfl (fun ls hl => ?_)
                      refine lv_iinc (v := 2) (lv' := [(9, .int 2), (8, .int 1), (0, .ref h), (1, .int 6), (2, .int 115), (3, .int 107), (4, .int 101), (5, .int 105), (6, .int 110), (7, .int 115)]) hx hb dX12_isWord_105 hl (k := 1) rfl (by decide) (by decide) rfl (fun ls hl => ?_)
                      refine lv_goto (tgt := 18) hx hb dX12_isWord_108 (by decide) ?_
                      refine lv_iload hx hb dX12_isWord_18 (lv_at hl 0 rfl) ?_
                      refine lv_iload_n hx hb dX12_isWord_20 rfl (lv_at hl 3 rfl) ?_
                      refine lv_icmp_ge (tgt := 111) hx hb dX12_isWord_21 (by decide) (fun c21 => ?_) (fun c21 => ?_)
                      · exact absurd c21 (by decide)
                      · skip
                        refine lv_iload hx hb dX12_isWord_24 (lv_at hl 1 rfl) ?_
                        refine lv_if_eq (tgt := 111) hx hb dX12_isWord_26 (by decide) (fun c22 => ?_) (fun c22 => ?_)
                        · exact absurd c22 (by decide)
                        · skip
                          refine lv_aload_n hx hb dX12_isWord_29 rfl (lv_at hl 2 rfl) ?_
                          refine gM_12_32 hx hb ht hown hK hP m_1171 dX12_isWord_30 ?_
                          refine lv_aload_n hx hb dX12_isWord_33 rfl (lv_at hl 2 rfl) ?_
                          refine gM_12_37 hx hb ht hown hK hP m_1176 (v := (iv 12 37)) rfl dX12_isWord_34 ?_
                          refine lv_iload hx hb dX12_isWord_37 (lv_at hl 0 rfl) ?_
                          refine lv_iadd hx hb dX12_isWord_39 ?_
                          refine lv_topi (fun v23 ev23 => ?_)
                          have tv23 := z_add ev23 (rfl : ((iv 12 37)).toInt = _) (by decide : (2 : Int32).toInt = 2) (by omega) (by omega)
                          have : 0 ≤ (v23 : Int32).toInt ∧ (v23 : Int32).toInt ≤ 199 := ⟨by omega, by omega⟩
                          refine lM_12_32 hx hb hK hP (f := (fa 12 32)) rfl (vp_in_iff.mpr ⟨by omega, by omega⟩) dX12_isWord_40 ?_
                          refine lv_topi (fun v24 ev24 => ?_)
                          refine lv_iload hx hb dX12_isWord_41 (lv_at hl 0 rfl) ?_
                          refine lv_if_ne (tgt := 50) hx hb dX12_isWord_43 (by decide) (fun c25 => ?_) (fun c25 => ?_)
                          · skip
                            refine lv_iload hx hb dX12_isWord_50 (lv_at hl 0 rfl) ?_
                            refine lv_iconst (v := 1) hx hb dX12_isWord_52 (by decide) ?_
                            refine lv_icmp_ne (tgt := 60) hx hb dX12_isWord_53 (by decide) (fun c26 => ?_) (fun c26 => ?_)
                            · skip
                              refine lv_iload hx hb dX12_isWord_60 (lv_at hl 0 rfl) ?_
                              refine lv_iconst (v := 2) hx hb dX12_isWord_62 (by decide) ?_
                              refine lv_icmp_ne (tgt := 71) hx hb dX12_isWord_63 (by decide) (fun c27 => ?_) (fun c27 => ?_)
                              · exact absurd rfl c27
                              · skip
                                refine lv_iload hx hb dX12_isWord_66 (lv_at hl 6 rfl) ?_
                                refine lv_goto (tgt := 95) hx hb dX12_isWord_68 (by decide) ?_
                                refine lv_icmp_ne (tgt := 102) hx hb dX12_isWord_95 (by decide) (fun c28 => ?_) (fun c28 => ?_)
                                · have fc28 := z_ne (rfl : (v24).toInt = _) (by decide : (101 : Int32).toInt = 101) c28
                                  refine lv_iconst (v := 0) hx hb dX12_isWord_102 (by decide) ?_
                                  refine lv_istore (lv' := [(8, .int 0), (9, .int 2), (0, .ref h), (1, .int 6), (2, .int 115), (3, .int 107), (4, .int 101), (5, .int 105), (6, .int 110), (7, .int 115)]) hx hb dX12_isWord_103 hl (by decide) rfl (fun ls hl => ?_)
                                  refine lv_iinc (v := 3) (lv' := [(9, .int 3), (8, .int 0), (0, .ref h), (1, .int 6), (2, .int 115), (3, .int 107), (4, .int 101), (5, .int 105), (6, .int 110), (7, .int 115)]) hx hb dX12_isWord_105 hl (k := 1) rfl (by decide) (by decide) rfl (fun ls hl => ?_)
                                  refine lv_goto (tgt := 18) hx hb dX12_isWord_108 (by decide) ?_
                                  refine lv_iload hx hb dX12_isWord_18 (lv_at hl 0 rfl) ?_
                                  refine lv_iload_n hx hb dX12_isWord_20 rfl (lv_at hl 3 rfl) ?_
                                  refine lv_icmp_ge (tgt := 111) hx hb dX12_isWord_21 (by decide) (fun c29 => ?_) (fun c29 => ?_)
                                  · exact absurd c29 (by decide)
                                  · skip
                                    refine lv_iload hx hb dX12_isWord_24 (lv_at hl 1 rfl) ?_
                                    refine lv_if_eq (tgt := 111) hx hb dX12_isWord_26 (by decide) (fun c30 => ?_) (fun c30 => ?_)
                                    · skip
                                      refine lv_iload hx hb dX12_isWord_111 (lv_at hl 1 rfl) ?_
                                      have : (0 : Int32).toInt = 0 := (by decide)
                                      exact W.zret (v := 0) hx hb hr rfl (fun t ht9 hW => ⟨0, rfl, ⟨⟨by decide, by decide⟩, (show (((0 : Int32).toInt = 1 ∧ w_skeins (fun j => sg ((fa 12 32) j).toInt) ((iv 12 37) : Int32).toInt (((iv 12 37) : Int32).toInt + ((iv 12 38) : Int32).toInt)) ∨ ((0 : Int32).toInt = 0 ∧ ¬ w_skeins (fun j => sg ((fa 12 32) j).toInt) ((iv 12 37) : Int32).toInt (((iv 12 37) : Int32).toInt + ((iv 12 38) : Int32).toInt))) from (by have q0 := congrArg Int32.toInt (ev7.trans (congrArg (fa 12 32) (show (v6 : Int32).toNatClampNeg = ((iv 12 37).toInt).toNat + 0 from (by show (v6 : Int32).toInt.toNat = _; omega)))); have s0 := sg_i (v7 : Int32).toInt; rw [q0] at s0; have q1 := congrArg Int32.toInt (ev15.trans (congrArg (fa 12 32) (show (v14 : Int32).toNatClampNeg = ((iv 12 37).toInt).toNat + 1 from (by show (v14 : Int32).toInt.toNat = _; omega)))); have s1 := sg_i (v15 : Int32).toInt; rw [q1] at s1; have q2 := congrArg Int32.toInt (ev24.trans (congrArg (fa 12 32) (show (v23 : Int32).toNatClampNeg = ((iv 12 37).toInt).toNat + 2 from (by show (v23 : Int32).toInt.toNat = _; omega)))); have s2 := sg_i (v24 : Int32).toInt; rw [q2] at s2; exact Or.inr ⟨by omega, fun h9 => (by have h8 : ((iv 12 37).toInt + (iv 12 38).toInt) - (iv 12 37).toInt = 6 ∧ sg (fa 12 32 (((iv 12 37).toInt).toNat + 0)).toInt = 115 ∧ sg (fa 12 32 (((iv 12 37).toInt).toNat + 1)).toInt = 107 ∧ sg (fa 12 32 (((iv 12 37).toInt).toNat + 2)).toInt = 101 ∧ sg (fa 12 32 (((iv 12 37).toInt).toNat + 3)).toInt = 105 ∧ sg (fa 12 32 (((iv 12 37).toInt).toNat + 4)).toInt = 110 ∧ sg (fa 12 32 (((iv 12 37).toInt).toNat + 5)).toInt = 115 := h9; have h7 := h8.2.2.2.1; clear h8 h9; omega)⟩)), (show ((0 : Int32).toInt = 0 ∨ ((iv 12 38) : Int32).toInt = 6) from by omega)⟩, ht9⟩) (fun q hq => by cases hq) dX12_isWord_113
                                    · exact absurd rfl c30
                                · have fc28 := z_eq (rfl : (v24).toInt = _) (by decide : (101 : Int32).toInt = 101) c28
                                  refine lv_iconst (v := 1) hx hb dX12_isWord_98 (by decide) ?_
                                  refine lv_goto (tgt := 103) hx hb dX12_isWord_99 (by decide) ?_
                                  refine lv_istore (lv' := [(8, .int 1), (9, .int 2), (0, .ref h), (1, .int 6), (2, .int 115), (3, .int 107), (4, .int 101), (5, .int 105), (6, .int 110), (7, .int 115)]) hx hb dX12_isWord_103 hl (by decide) rfl (fun ls hl => ?_)
                                  refine lv_iinc (v := 3) (lv' := [(9, .int 3), (8, .int 1), (0, .ref h), (1, .int 6), (2, .int 115), (3, .int 107), (4, .int 101), (5, .int 105), (6, .int 110), (7, .int 115)]) hx hb dX12_isWord_105 hl (k := 1) rfl (by decide) (by decide) rfl (fun ls hl => ?_)
                                  refine lv_goto (tgt := 18) hx hb dX12_isWord_108 (by decide) ?_
                                  refine lv_iload hx hb dX12_isWord_18 (lv_at hl 0 rfl) ?_
                                  refine lv_iload_n hx hb dX12_isWord_20 rfl (lv_at hl 3 rfl) ?_
                                  refine lv_icmp_ge (tgt := 111) hx hb dX12_isWord_21 (by decide) (fun c31 => ?_) (fun c31 => ?_)
                                  · exact absurd c31 (by decide)
                                  · skip
                                    refine lv_iload hx hb dX12_isWord_24 (lv_at hl 1 rfl) ?_
                                    refine lv_if_eq (tgt := 111) hx hb dX12_isWord_26 (by decide) (fun c32 => ?_) (fun c32 => ?_)
                                    · exact absurd c32 (by decide)
                                    · skip
                                      refine lv_aload_n hx hb dX12_isWord_29 rfl (lv_at hl 2 rfl) ?_
                                      refine gM_12_32 hx hb ht hown hK hP m_1171 dX12_isWord_30 ?_
                                      refine lv_aload_n hx hb dX12_isWord_33 rfl (lv_at hl 2 rfl) ?_
                                      refine gM_12_37 hx hb ht hown hK hP m_1176 (v := (iv 12 37)) rfl dX12_isWord_34 ?_
                                      refine lv_iload hx hb dX12_isWord_37 (lv_at hl 0 rfl) ?_
                                      refine lv_iadd hx hb dX12_isWord_39 ?_
                                      refine lv_topi (fun v33 ev33 => ?_)
                                      have tv33 := z_add ev33 (rfl : ((iv 12 37)).toInt = _) (by decide : (3 : Int32).toInt = 3) (by omega) (by omega)
                                      have : 0 ≤ (v33 : Int32).toInt ∧ (v33 : Int32).toInt ≤ 199 := ⟨by omega, by omega⟩
                                      refine lM_12_32 hx hb hK hP (f := (fa 12 32)) rfl (vp_in_iff.mpr ⟨by omega, by omega⟩) dX12_isWord_40 ?_
                                      refine lv_topi (fun v34 ev34 => ?_)
                                      refine lv_iload hx hb dX12_isWord_41 (lv_at hl 0 rfl) ?_
                                      refine lv_if_ne (tgt := 50) hx hb dX12_isWord_43 (by decide) (fun c35 => ?_) (fun c35 => ?_)
                                      · skip
                                        refine lv_iload hx hb dX12_isWord_50 (lv_at hl 0 rfl) ?_
                                        refine lv_iconst (v := 1) hx hb dX12_isWord_52 (by decide) ?_
                                        refine lv_icmp_ne (tgt := 60) hx hb dX12_isWord_53 (by decide) (fun c36 => ?_) (fun c36 => ?_)
                                        · skip
                                          refine lv_iload hx hb dX12_isWord_60 (lv_at hl 0 rfl) ?_
                                          refine lv_iconst (v := 2) hx hb dX12_isWord_62 (by decide) ?_
                                          refine lv_icmp_ne (tgt := 71) hx hb dX12_isWord_63 (by decide) (fun c37 => ?_) (fun c37 => ?_)
                                          · skip
                                            refine lv_iload hx hb dX12_isWord_71 (lv_at hl 0 rfl) ?_
                                            refine lv_iconst (v := 3) hx hb dX12_isWord_73 (by decide) ?_
                                            refine lv_icmp_ne (tgt := 82) hx hb dX12_isWord_74 (by decide) (fun c38 => ?_) (fun c38 => ?_)
                                            · exact absurd rfl c38
                                            · skip
                                              refine lv_iload hx hb dX12_isWord_77 (lv_at hl 7 rfl) ?_
                                              refine lv_goto (tgt := 95) hx hb dX12_isWord_79 (by decide) ?_
                                              refine lv_icmp_ne (tgt := 102) hx hb dX12_isWord_95 (by decide) (fun c39 => ?_) (fun c39 => ?_)
                                              · have fc39 := z_ne (rfl : (v34).toInt = _) (by decide : (105 : Int32).toInt = 105) c39
                                                refine lv_iconst (v := 0) hx hb dX12_isWord_102 (by decide) ?_
                                                refine lv_istore (lv' := [(8, .int 0), (9, .int 3), (0, .ref h), (1, .int 6), (2, .int 115), (3, .int 107), (4, .int 101), (5, .int 105), (6, .int 110), (7, .int 115)]) hx hb dX12_isWord_103 hl (by decide) rfl (fun ls hl => ?_)
                                                refine lv_iinc (v := 4) (lv' := [(9, .int 4), (8, .int 0), (0, .ref h), (1, .int 6), (2, .int 115), (3, .int 107), (4, .int 101), (5, .int 105), (6, .int 110), (7, .int 115)]) hx hb dX12_isWord_105 hl (k := 1) rfl (by decide) (by decide) rfl (fun ls hl => ?_)
                                                refine lv_goto (tgt := 18) hx hb dX12_isWord_108 (by decide) ?_
                                                refine lv_iload hx hb dX12_isWord_18 (lv_at hl 0 rfl) ?_
                                                refine lv_iload_n hx hb dX12_isWord_20 rfl (lv_at hl 3 rfl) ?_
                                                refine lv_icmp_ge (tgt := 111) hx hb dX12_isWord_21 (by decide) (fun c40 => ?_) (fun c40 => ?_)
                                                · exact absurd c40 (by decide)
                                                · skip
                                                  refine lv_iload hx hb dX12_isWord_24 (lv_at hl 1 rfl) ?_
                                                  refine lv_if_eq (tgt := 111) hx hb dX12_isWord_26 (by decide) (fun c41 => ?_) (fun c41 => ?_)
                                                  · skip
                                                    refine lv_iload hx hb dX12_isWord_111 (lv_at hl 1 rfl) ?_
                                                    have : (0 : Int32).toInt = 0 := (by decide)
                                                    exact W.zret (v := 0) hx hb hr rfl (fun t ht9 hW => ⟨0, rfl, ⟨⟨by decide, by decide⟩, (show (((0 : Int32).toInt = 1 ∧ w_skeins (fun j => sg ((fa 12 32) j).toInt) ((iv 12 37) : Int32).toInt (((iv 12 37) : Int32).toInt + ((iv 12 38) : Int32).toInt)) ∨ ((0 : Int32).toInt = 0 ∧ ¬ w_skeins (fun j => sg ((fa 12 32) j).toInt) ((iv 12 37) : Int32).toInt (((iv 12 37) : Int32).toInt + ((iv 12 38) : Int32).toInt))) from (by have q0 := congrArg Int32.toInt (ev7.trans (congrArg (fa 12 32) (show (v6 : Int32).toNatClampNeg = ((iv 12 37).toInt).toNat + 0 from (by show (v6 : Int32).toInt.toNat = _; omega)))); have s0 := sg_i (v7 : Int32).toInt; rw [q0] at s0; have q1 := congrArg Int32.toInt (ev15.trans (congrArg (fa 12 32) (show (v14 : Int32).toNatClampNeg = ((iv 12 37).toInt).toNat + 1 from (by show (v14 : Int32).toInt.toNat = _; omega)))); have s1 := sg_i (v15 : Int32).toInt; rw [q1] at s1; have q2 := congrArg Int32.toInt (ev24.trans (congrArg (fa 12 32) (show (v23 : Int32).toNatClampNeg = ((iv 12 37).toInt).toNat + 2 from (by show (v23 : Int32).toInt.toNat = _; omega)))); have s2 := sg_i (v24 : Int32).toInt; rw [q2] at s2; have q3 := congrArg Int32.toInt (ev34.trans (congrArg (fa 12 32) (show (v33 : Int32).toNatClampNeg = ((iv 12 37).toInt).toNat + 3 from (by show (v33 : Int32).toInt.toNat = _; omega)))); have s3 := sg_i (v34 : Int32).toInt; rw [q3] at s3; exact Or.inr ⟨by omega, fun h9 => (by have h8 : ((iv 12 37).toInt + (iv 12 38).toInt) - (iv 12 37).toInt = 6 ∧ sg (fa 12 32 (((iv 12 37).toInt).toNat + 0)).toInt = 115 ∧ sg (fa 12 32 (((iv 12 37).toInt).toNat + 1)).toInt = 107 ∧ sg (fa 12 32 (((iv 12 37).toInt).toNat + 2)).toInt = 101 ∧ sg (fa 12 32 (((iv 12 37).toInt).toNat + 3)).toInt = 105 ∧ sg (fa 12 32 (((iv 12 37).toInt).toNat + 4)).toInt = 110 ∧ sg (fa 12 32 (((iv 12 37).toInt).toNat + 5)).toInt = 115 := h9; have h7 := h8.2.2.2.2.1; clear h8 h9; omega)⟩)), (show ((0 : Int32).toInt = 0 ∨ ((iv 12 38) : Int32).toInt = 6) from by omega)⟩, ht9⟩) (fun q hq => by cases hq) dX12_isWord_113
                                                  · exact absurd rfl c41
                                              · have fc39 := z_eq (rfl : (v34).toInt = _) (by decide : (105 : Int32).toInt = 105) c39
                                                refine lv_iconst (v := 1) hx hb dX12_isWord_98 (by decide) ?_
                                                refine lv_goto (tgt := 103) hx hb dX12_isWord_99 (by decide) ?_
                                                refine lv_istore (lv' := [(8, .int 1), (9, .int 3), (0, .ref h), (1, .int 6), (2, .int 115), (3, .int 107), (4, .int 101), (5, .int 105), (6, .int 110), (7, .int 115)]) hx hb dX12_isWord_103 hl (by decide) rfl (fun ls hl => ?_)
                                                refine lv_iinc (v := 4) (lv' := [(9, .int 4), (8, .int 1), (0, .ref h), (1, .int 6), (2, .int 115), (3, .int 107), (4, .int 101), (5, .int 105), (6, .int 110), (7, .int 115)]) hx hb dX12_isWord_105 hl (k := 1) rfl (by decide) (by decide) rfl (fun ls hl => ?_)
                                                refine lv_goto (tgt := 18) hx hb dX12_isWord_108 (by decide) ?_
                                                refine lv_iload hx hb dX12_isWord_18 (lv_at hl 0 rfl) ?_
                                                refine lv_iload_n hx hb dX12_isWord_20 rfl (lv_at hl 3 rfl) ?_
                                                refine lv_icmp_ge (tgt := 111) hx hb dX12_isWord_21 (by decide) (fun c42 => ?_) (fun c42 => ?_)
                                                · exact absurd c42 (by decide)
                                                · skip
                                                  refine lv_iload hx hb dX12_isWord_24 (lv_at hl 1 rfl) ?_
                                                  refine lv_if_eq (tgt := 111) hx hb dX12_isWord_26 (by decide) (fun c43 => ?_) (fun c43 => ?_)
                                                  · exact absurd c43 (by decide)
                                                  · skip
                                                    refine lv_aload_n hx hb dX12_isWord_29 rfl (lv_at hl 2 rfl) ?_
                                                    refine gM_12_32 hx hb ht hown hK hP m_1171 dX12_isWord_30 ?_
                                                    refine lv_aload_n hx hb dX12_isWord_33 rfl (lv_at hl 2 rfl) ?_
                                                    refine gM_12_37 hx hb ht hown hK hP m_1176 (v := (iv 12 37)) rfl dX12_isWord_34 ?_
                                                    refine lv_iload hx hb dX12_isWord_37 (lv_at hl 0 rfl) ?_
                                                    refine lv_iadd hx hb dX12_isWord_39 ?_
                                                    refine lv_topi (fun v44 ev44 => ?_)
                                                    have tv44 := z_add ev44 (rfl : ((iv 12 37)).toInt = _) (by decide : (4 : Int32).toInt = 4) (by omega) (by omega)
                                                    have : 0 ≤ (v44 : Int32).toInt ∧ (v44 : Int32).toInt ≤ 199 := ⟨by omega, by omega⟩
                                                    refine lM_12_32 hx hb hK hP (f := (fa 12 32)) rfl (vp_in_iff.mpr ⟨by omega, by omega⟩) dX12_isWord_40 ?_
                                                    refine lv_topi (fun v45 ev45 => ?_)
                                                    refine lv_iload hx hb dX12_isWord_41 (lv_at hl 0 rfl) ?_
                                                    refine lv_if_ne (tgt := 50) hx hb dX12_isWord_43 (by decide) (fun c46 => ?_) (fun c46 => ?_)
                                                    · skip
                                                      refine lv_iload hx hb dX12_isWord_50 (lv_at hl 0 rfl) ?_
                                                      refine lv_iconst (v := 1) hx hb dX12_isWord_52 (by decide) ?_
                                                      refine lv_icmp_ne (tgt := 60) hx hb dX12_isWord_53 (by decide) (fun c47 => ?_) (fun c47 => ?_)
                                                      · skip
                                                        refine lv_iload hx hb dX12_isWord_60 (lv_at hl 0 rfl) ?_
                                                        refine lv_iconst (v := 2) hx hb dX12_isWord_62 (by decide) ?_
                                                        refine lv_icmp_ne (tgt := 71) hx hb dX12_isWord_63 (by decide) (fun c48 => ?_) (fun c48 => ?_)
                                                        · skip
                                                          refine lv_iload hx hb dX12_isWord_71 (lv_at hl 0 rfl) ?_
                                                          refine lv_iconst (v := 3) hx hb dX12_isWord_73 (by decide) ?_
                                                          refine lv_icmp_ne (tgt := 82) hx hb dX12_isWord_74 (by decide) (fun c49 => ?_) (fun c49 => ?_)
                                                          · skip
                                                            refine lv_iload hx hb dX12_isWord_82 (lv_at hl 0 rfl) ?_
                                                            refine lv_iconst (v := 4) hx hb dX12_isWord_84 (by decide) ?_
                                                            refine lv_icmp_ne (tgt := 93) hx hb dX12_isWord_85 (by decide) (fun c50 => ?_) (fun c50 => ?_)
                                                            · exact absurd rfl c50
                                                            · skip
                                                              refine lv_iload hx hb dX12_isWord_88 (lv_at hl 8 rfl) ?_
                                                              refine lv_goto (tgt := 95) hx hb dX12_isWord_90 (by decide) ?_
                                                              refine lv_icmp_ne (tgt := 102) hx hb dX12_isWord_95 (by decide) (fun c51 => ?_) (fun c51 => ?_)
                                                              · have fc51 := z_ne (rfl : (v45).toInt = _) (by decide : (110 : Int32).toInt = 110) c51
                                                                refine lv_iconst (v := 0) hx hb dX12_isWord_102 (by decide) ?_
                                                                refine lv_istore (lv' := [(8, .int 0), (9, .int 4), (0, .ref h), (1, .int 6), (2, .int 115), (3, .int 107), (4, .int 101), (5, .int 105), (6, .int 110), (7, .int 115)]) hx hb dX12_isWord_103 hl (by decide) rfl (fun ls hl => ?_)
                                                                refine lv_iinc (v := 5) (lv' := [(9, .int 5), (8, .int 0), (0, .ref h), (1, .int 6), (2, .int 115), (3, .int 107), (4, .int 101), (5, .int 105), (6, .int 110), (7, .int 115)]) hx hb dX12_isWord_105 hl (k := 1) rfl (by decide) (by decide) rfl (fun ls hl => ?_)
                                                                refine lv_goto (tgt := 18) hx hb dX12_isWord_108 (by decide) ?_
                                                                refine lv_iload hx hb dX12_isWord_18 (lv_at hl 0 rfl) ?_
                                                                refine lv_iload_n hx hb dX12_isWord_20 rfl (lv_at hl 3 rfl) ?_
                                                                refine lv_icmp_ge (tgt := 111) hx hb dX12_isWord_21 (by decide) (fun c52 => ?_) (fun c52 => ?_)
                                                                · exact absurd c52 (by decide)
                                                                · skip
                                                                  refine lv_iload hx hb dX12_isWord_24 (lv_at hl 1 rfl) ?_
                                                                  refine lv_if_eq (tgt := 111) hx hb dX12_isWord_26 (by decide) (fun c53 => ?_) (fun c53 => ?_)
                                                                  · skip
                                                                    refine lv_iload hx hb dX12_isWord_111 (lv_at hl 1 rfl) ?_
                                                                    have : (0 : Int32).toInt = 0 := (by decide)
                                                                    exact W.zret (v := 0) hx hb hr rfl (fun t ht9 hW => ⟨0, rfl, ⟨⟨by decide, by decide⟩, (show (((0 : Int32).toInt = 1 ∧ w_skeins (fun j => sg ((fa 12 32) j).toInt) ((iv 12 37) : Int32).toInt (((iv 12 37) : Int32).toInt + ((iv 12 38) : Int32).toInt)) ∨ ((0 : Int32).toInt = 0 ∧ ¬ w_skeins (fun j => sg ((fa 12 32) j).toInt) ((iv 12 37) : Int32).toInt (((iv 12 37) : Int32).toInt + ((iv 12 38) : Int32).toInt))) from (by have q0 := congrArg Int32.toInt (ev7.trans (congrArg (fa 12 32) (show (v6 : Int32).toNatClampNeg = ((iv 12 37).toInt).toNat + 0 from (by show (v6 : Int32).toInt.toNat = _; omega)))); have s0 := sg_i (v7 : Int32).toInt; rw [q0] at s0; have q1 := congrArg Int32.toInt (ev15.trans (congrArg (fa 12 32) (show (v14 : Int32).toNatClampNeg = ((iv 12 37).toInt).toNat + 1 from (by show (v14 : Int32).toInt.toNat = _; omega)))); have s1 := sg_i (v15 : Int32).toInt; rw [q1] at s1; have q2 := congrArg Int32.toInt (ev24.trans (congrArg (fa 12 32) (show (v23 : Int32).toNatClampNeg = ((iv 12 37).toInt).toNat + 2 from (by show (v23 : Int32).toInt.toNat = _; omega)))); have s2 := sg_i (v24 : Int32).toInt; rw [q2] at s2; have q3 := congrArg Int32.toInt (ev34.trans (congrArg (fa 12 32) (show (v33 : Int32).toNatClampNeg = ((iv 12 37).toInt).toNat + 3 from (by show (v33 : Int32).toInt.toNat = _; omega)))); have s3 := sg_i (v34 : Int32).toInt; rw [q3] at s3; have q4 := congrArg Int32.toInt (ev45.trans (congrArg (fa 12 32) (show (v44 : Int32).toNatClampNeg = ((iv 12 37).toInt).toNat + 4 from (by show (v44 : Int32).toInt.toNat = _; omega)))); have s4 := sg_i (v45 : Int32).toInt; rw [q4] at s4; exact Or.inr ⟨by omega, fun h9 => (by have h8 : ((iv 12 37).toInt + (iv 12 38).toInt) - (iv 12 37).toInt = 6 ∧ sg (fa 12 32 (((iv 12 37).toInt).toNat + 0)).toInt = 115 ∧ sg (fa 12 32 (((iv 12 37).toInt).toNat + 1)).toInt = 107 ∧ sg (fa 12 32 (((iv 12 37).toInt).toNat + 2)).toInt = 101 ∧ sg (fa 12 32 (((iv 12 37).toInt).toNat + 3)).toInt = 105 ∧ sg (fa 12 32 (((iv 12 37).toInt).toNat + 4)).toInt = 110 ∧ sg (fa 12 32 (((iv 12 37).toInt).toNat + 5)).toInt = 115 := h9; have h7 := h8.2.2.2.2.2.1; clear h8 h9; omega)⟩)), (show ((0 : Int32).toInt = 0 ∨ ((iv 12 38) : Int32).toInt = 6) from by omega)⟩, ht9⟩) (fun q hq => by cases hq) dX12_isWord_113
                                                                  · exact absurd rfl c53
                                                              · have fc51 := z_eq (rfl : (v45).toInt = _) (by decide : (110 : Int32).toInt = 110) c51
                                                                refine lv_iconst (v := 1) hx hb dX12_isWord_98 (by decide) ?_
                                                                refine lv_goto (tgt := 103) hx hb dX12_isWord_99 (by decide) ?_
                                                                refine lv_istore (lv' := [(8, .int 1), (9, .int 4), (0, .ref h), (1, .int 6), (2, .int 115), (3, .int 107), (4, .int 101), (5, .int 105), (6, .int 110), (7, .int 115)]) hx hb dX12_isWord_103 hl (by decide) rfl (fun ls hl => ?_)
                                                                refine lv_iinc (v := 5) (lv' := [(9, .int 5), (8, .int 1), (0, .ref h), (1, .int 6), (2, .int 115), (3, .int 107), (4, .int 101), (5, .int 105), (6, .int 110), (7, .int 115)]) hx hb dX12_isWord_105 hl (k := 1) rfl (by decide) (by decide) rfl (fun ls hl => ?_)
                                                                refine lv_goto (tgt := 18) hx hb dX12_isWord_108 (by decide) ?_
                                                                refine lv_iload hx hb dX12_isWord_18 (lv_at hl 0 rfl) ?_
                                                                refine lv_iload_n hx hb dX12_isWord_20 rfl (lv_at hl 3 rfl) ?_
                                                                refine lv_icmp_ge (tgt := 111) hx hb dX12_isWord_21 (by decide) (fun c54 => ?_) (fun c54 => ?_)
                                                                · exact absurd c54 (by decide)
                                                                · skip
                                                                  refine lv_iload hx hb dX12_isWord_24 (lv_at hl 1 rfl) ?_
                                                                  refine lv_if_eq (tgt := 111) hx hb dX12_isWord_26 (by decide) (fun c55 => ?_) (fun c55 => ?_)
                                                                  · exact absurd c55 (by decide)
                                                                  · skip
                                                                    refine lv_aload_n hx hb dX12_isWord_29 rfl (lv_at hl 2 rfl) ?_
                                                                    refine gM_12_32 hx hb ht hown hK hP m_1171 dX12_isWord_30 ?_
                                                                    refine lv_aload_n hx hb dX12_isWord_33 rfl (lv_at hl 2 rfl) ?_
                                                                    refine gM_12_37 hx hb ht hown hK hP m_1176 (v := (iv 12 37)) rfl dX12_isWord_34 ?_
                                                                    refine lv_iload hx hb dX12_isWord_37 (lv_at hl 0 rfl) ?_
                                                                    refine lv_iadd hx hb dX12_isWord_39 ?_
                                                                    refine lv_topi (fun v56 ev56 => ?_)
                                                                    have tv56 := z_add ev56 (rfl : ((iv 12 37)).toInt = _) (by decide : (5 : Int32).toInt = 5) (by omega) (by omega)
                                                                    have : 0 ≤ (v56 : Int32).toInt ∧ (v56 : Int32).toInt ≤ 199 := ⟨by omega, by omega⟩
                                                                    refine lM_12_32 hx hb hK hP (f := (fa 12 32)) rfl (vp_in_iff.mpr ⟨by omega, by omega⟩) dX12_isWord_40 ?_
                                                                    refine lv_topi (fun v57 ev57 => ?_)
                                                                    refine lv_iload hx hb dX12_isWord_41 (lv_at hl 0 rfl) ?_
                                                                    refine lv_if_ne (tgt := 50) hx hb dX12_isWord_43 (by decide) (fun c58 => ?_) (fun c58 => ?_)
                                                                    · skip
                                                                      refine lv_iload hx hb dX12_isWord_50 (lv_at hl 0 rfl) ?_
                                                                      refine lv_iconst (v := 1) hx hb dX12_isWord_52 (by decide) ?_
                                                                      refine lv_icmp_ne (tgt := 60) hx hb dX12_isWord_53 (by decide) (fun c59 => ?_) (fun c59 => ?_)
                                                                      · skip
                                                                        refine lv_iload hx hb dX12_isWord_60 (lv_at hl 0 rfl) ?_
                                                                        refine lv_iconst (v := 2) hx hb dX12_isWord_62 (by decide) ?_
                                                                        refine lv_icmp_ne (tgt := 71) hx hb dX12_isWord_63 (by decide) (fun c60 => ?_) (fun c60 => ?_)
                                                                        · skip
                                                                          refine lv_iload hx hb dX12_isWord_71 (lv_at hl 0 rfl) ?_
                                                                          refine lv_iconst (v := 3) hx hb dX12_isWord_73 (by decide) ?_
                                                                          refine lv_icmp_ne (tgt := 82) hx hb dX12_isWord_74 (by decide) (fun c61 => ?_) (fun c61 => ?_)
                                                                          · skip
                                                                            refine lv_iload hx hb dX12_isWord_82 (lv_at hl 0 rfl) ?_
                                                                            refine lv_iconst (v := 4) hx hb dX12_isWord_84 (by decide) ?_
                                                                            refine lv_icmp_ne (tgt := 93) hx hb dX12_isWord_85 (by decide) (fun c62 => ?_) (fun c62 => ?_)
                                                                            · skip
                                                                              refine lv_iload hx hb dX12_isWord_93 (lv_at hl 9 rfl) ?_
                                                                              refine lv_icmp_ne (tgt := 102) hx hb dX12_isWord_95 (by decide) (fun c63 => ?_) (fun c63 => ?_)
                                                                              · have fc63 := z_ne (rfl : (v57).toInt = _) (by decide : (115 : Int32).toInt = 115) c63
                                                                                refine lv_iconst (v := 0) hx hb dX12_isWord_102 (by decide) ?_
                                                                                refine lv_istore (lv' := [(8, .int 0), (9, .int 5), (0, .ref h), (1, .int 6), (2, .int 115), (3, .int 107), (4, .int 101), (5, .int 105), (6, .int 110), (7, .int 115)]) hx hb dX12_isWord_103 hl (by decide) rfl (fun ls hl => ?_)
                                                                                refine lv_iinc (v := 6) (lv' := [(9, .int 6), (8, .int 0), (0, .ref h), (1, .int 6), (2, .int 115), (3, .int 107), (4, .int 101), (5, .int 105), (6, .int 110), (7, .int 115)]) hx hb dX12_isWord_105 hl (k := 1) rfl (by decide) (by decide) rfl (fun ls hl => ?_)
                                                                                refine lv_goto (tgt := 18) hx hb dX12_isWord_108 (by decide) ?_
                                                                                refine lv_iload hx hb dX12_isWord_18 (lv_at hl 0 rfl) ?_
                                                                                refine lv_iload_n hx hb dX12_isWord_20 rfl (lv_at hl 3 rfl) ?_
                                                                                refine lv_icmp_ge (tgt := 111) hx hb dX12_isWord_21 (by decide) (fun c64 => ?_) (fun c64 => ?_)
                                                                                · skip
                                                                                  refine lv_iload hx hb dX12_isWord_111 (lv_at hl 1 rfl) ?_
                                                                                  have : (0 : Int32).toInt = 0 := (by decide)
                                                                                  exact W.zret (v := 0) hx hb hr rfl (fun t ht9 hW => ⟨0, rfl, ⟨⟨by decide, by decide⟩, (show (((0 : Int32).toInt = 1 ∧ w_skeins (fun j => sg ((fa 12 32) j).toInt) ((iv 12 37) : Int32).toInt (((iv 12 37) : Int32).toInt + ((iv 12 38) : Int32).toInt)) ∨ ((0 : Int32).toInt = 0 ∧ ¬ w_skeins (fun j => sg ((fa 12 32) j).toInt) ((iv 12 37) : Int32).toInt (((iv 12 37) : Int32).toInt + ((iv 12 38) : Int32).toInt))) from (by have q0 := congrArg Int32.toInt (ev7.trans (congrArg (fa 12 32) (show (v6 : Int32).toNatClampNeg = ((iv 12 37).toInt).toNat + 0 from (by show (v6 : Int32).toInt.toNat = _; omega)))); have s0 := sg_i (v7 : Int32).toInt; rw [q0] at s0; have q1 := congrArg Int32.toInt (ev15.trans (congrArg (fa 12 32) (show (v14 : Int32).toNatClampNeg = ((iv 12 37).toInt).toNat + 1 from (by show (v14 : Int32).toInt.toNat = _; omega)))); have s1 := sg_i (v15 : Int32).toInt; rw [q1] at s1; have q2 := congrArg Int32.toInt (ev24.trans (congrArg (fa 12 32) (show (v23 : Int32).toNatClampNeg = ((iv 12 37).toInt).toNat + 2 from (by show (v23 : Int32).toInt.toNat = _; omega)))); have s2 := sg_i (v24 : Int32).toInt; rw [q2] at s2; have q3 := congrArg Int32.toInt (ev34.trans (congrArg (fa 12 32) (show (v33 : Int32).toNatClampNeg = ((iv 12 37).toInt).toNat + 3 from (by show (v33 : Int32).toInt.toNat = _; omega)))); have s3 := sg_i (v34 : Int32).toInt; rw [q3] at s3; have q4 := congrArg Int32.toInt (ev45.trans (congrArg (fa 12 32) (show (v44 : Int32).toNatClampNeg = ((iv 12 37).toInt).toNat + 4 from (by show (v44 : Int32).toInt.toNat = _; omega)))); have s4 := sg_i (v45 : Int32).toInt; rw [q4] at s4; have q5 := congrArg Int32.toInt (ev57.trans (congrArg (fa 12 32) (show (v56 : Int32).toNatClampNeg = ((iv 12 37).toInt).toNat + 5 from (by show (v56 : Int32).toInt.toNat = _; omega)))); have s5 := sg_i (v57 : Int32).toInt; rw [q5] at s5; exact Or.inr ⟨by omega, fun h9 => (by have h8 : ((iv 12 37).toInt + (iv 12 38).toInt) - (iv 12 37).toInt = 6 ∧ sg (fa 12 32 (((iv 12 37).toInt).toNat + 0)).toInt = 115 ∧ sg (fa 12 32 (((iv 12 37).toInt).toNat + 1)).toInt = 107 ∧ sg (fa 12 32 (((iv 12 37).toInt).toNat + 2)).toInt = 101 ∧ sg (fa 12 32 (((iv 12 37).toInt).toNat + 3)).toInt = 105 ∧ sg (fa 12 32 (((iv 12 37).toInt).toNat + 4)).toInt = 110 ∧ sg (fa 12 32 (((iv 12 37).toInt).toNat + 5)).toInt = 115 := h9; have h7 := h8.2.2.2.2.2.2; clear h8 h9; omega)⟩)), (show ((0 : Int32).toInt = 0 ∨ ((iv 12 38) : Int32).toInt = 6) from by omega)⟩, ht9⟩) (fun q hq => by cases hq) dX12_isWord_113
                                                                                · exact absurd c64 (by decide)
                                                                              · have fc63 := z_eq (rfl : (v57).toInt = _) (by decide : (115 : Int32).toInt = 115) c63
                                                                                refine lv_iconst (v := 1) hx hb dX12_isWord_98 (by decide) ?_
                                                                                refine lv_goto (tgt := 103) hx hb dX12_isWord_99 (by decide) ?_
                                                                                refine lv_istore (lv' := [(8, .int 1), (9, .int 5), (0, .ref h), (1, .int 6), (2, .int 115), (3, .int 107), (4, .int 101), (5, .int 105), (6, .int 110), (7, .int 115)]) hx hb dX12_isWord_103 hl (by decide) rfl (fun ls hl => ?_)
                                                                                refine lv_iinc (v := 6) (lv' := [(9, .int 6), (8, .int 1), (0, .ref h), (1, .int 6), (2, .int 115), (3, .int 107), (4, .int 101), (5, .int 105), (6, .int 110), (7, .int 115)]) hx hb dX12_isWord_105 hl (k := 1) rfl (by decide) (by decide) rfl (fun ls hl => ?_)
                                                                                refine lv_goto (tgt := 18) hx hb dX12_isWord_108 (by decide) ?_
                                                                                refine lv_iload hx hb dX12_isWord_18 (lv_at hl 0 rfl) ?_
                                                                                refine lv_iload_n hx hb dX12_isWord_20 rfl (lv_at hl 3 rfl) ?_
                                                                                refine lv_icmp_ge (tgt := 111) hx hb dX12_isWord_21 (by decide) (fun c65 => ?_) (fun c65 => ?_)
                                                                                · skip
                                                                                  refine lv_iload hx hb dX12_isWord_111 (lv_at hl 1 rfl) ?_
                                                                                  have : (1 : Int32).toInt = 1 := (by decide)
                                                                                  exact W.zret (v := 1) hx hb hr rfl (fun t ht9 hW => ⟨1, rfl, ⟨⟨by decide, by decide⟩, (show (((1 : Int32).toInt = 1 ∧ w_skeins (fun j => sg ((fa 12 32) j).toInt) ((iv 12 37) : Int32).toInt (((iv 12 37) : Int32).toInt + ((iv 12 38) : Int32).toInt)) ∨ ((1 : Int32).toInt = 0 ∧ ¬ w_skeins (fun j => sg ((fa 12 32) j).toInt) ((iv 12 37) : Int32).toInt (((iv 12 37) : Int32).toInt + ((iv 12 38) : Int32).toInt))) from (by have q0 := congrArg Int32.toInt (ev7.trans (congrArg (fa 12 32) (show (v6 : Int32).toNatClampNeg = ((iv 12 37).toInt).toNat + 0 from (by show (v6 : Int32).toInt.toNat = _; omega)))); have s0 := sg_i (v7 : Int32).toInt; rw [q0] at s0; have q1 := congrArg Int32.toInt (ev15.trans (congrArg (fa 12 32) (show (v14 : Int32).toNatClampNeg = ((iv 12 37).toInt).toNat + 1 from (by show (v14 : Int32).toInt.toNat = _; omega)))); have s1 := sg_i (v15 : Int32).toInt; rw [q1] at s1; have q2 := congrArg Int32.toInt (ev24.trans (congrArg (fa 12 32) (show (v23 : Int32).toNatClampNeg = ((iv 12 37).toInt).toNat + 2 from (by show (v23 : Int32).toInt.toNat = _; omega)))); have s2 := sg_i (v24 : Int32).toInt; rw [q2] at s2; have q3 := congrArg Int32.toInt (ev34.trans (congrArg (fa 12 32) (show (v33 : Int32).toNatClampNeg = ((iv 12 37).toInt).toNat + 3 from (by show (v33 : Int32).toInt.toNat = _; omega)))); have s3 := sg_i (v34 : Int32).toInt; rw [q3] at s3; have q4 := congrArg Int32.toInt (ev45.trans (congrArg (fa 12 32) (show (v44 : Int32).toNatClampNeg = ((iv 12 37).toInt).toNat + 4 from (by show (v44 : Int32).toInt.toNat = _; omega)))); have s4 := sg_i (v45 : Int32).toInt; rw [q4] at s4; have q5 := congrArg Int32.toInt (ev57.trans (congrArg (fa 12 32) (show (v56 : Int32).toNatClampNeg = ((iv 12 37).toInt).toNat + 5 from (by show (v56 : Int32).toInt.toNat = _; omega)))); have s5 := sg_i (v57 : Int32).toInt; rw [q5] at s5; exact Or.inl ⟨by omega, (show ((iv 12 37).toInt + (iv 12 38).toInt) - (iv 12 37).toInt = 6 ∧ sg (fa 12 32 (((iv 12 37).toInt).toNat + 0)).toInt = 115 ∧ sg (fa 12 32 (((iv 12 37).toInt).toNat + 1)).toInt = 107 ∧ sg (fa 12 32 (((iv 12 37).toInt).toNat + 2)).toInt = 101 ∧ sg (fa 12 32 (((iv 12 37).toInt).toNat + 3)).toInt = 105 ∧ sg (fa 12 32 (((iv 12 37).toInt).toNat + 4)).toInt = 110 ∧ sg (fa 12 32 (((iv 12 37).toInt).toNat + 5)).toInt = 115 from ⟨by omega, by omega, by omega, by omega, by omega, by omega, by omega⟩)⟩)), (show ((1 : Int32).toInt = 0 ∨ ((iv 12 38) : Int32).toInt = 6) from by omega)⟩, ht9⟩) (fun q hq => by cases hq) dX12_isWord_113
                                                                                · exact absurd c65 (by decide)
                                                                            · exact absurd c62 (by decide)
                                                                          · exact absurd c61 (by decide)
                                                                        · exact absurd c60 (by decide)
                                                                      · exact absurd c59 (by decide)
                                                                    · exact absurd c58 (by decide)
                                                          · exact absurd c49 (by decide)
                                                        · exact absurd c48 (by decide)
                                                      · exact absurd c47 (by decide)
                                                    · exact absurd c46 (by decide)
                                          · exact absurd c37 (by decide)
                                        · exact absurd c36 (by decide)
                                      · exact absurd c35 (by decide)
                            · exact absurd c26 (by decide)
                          · exact absurd c25 (by decide)
                · exact absurd c16 (by decide)
set_option maxHeartbeats 4000000 in
set_option maxRecDepth 100000 in
/-- X12_isWord -/
theorem c_X12_isWord_r_part (l : Launch) (dC : Nat → ClassId) (dI : Nat → Nat → Nat) (h : Nat) (g : Nat → Nat → Nat) (ca : Nat → Nat → ClassId) (iv : Nat → Nat → Int32) (lv : Nat → Nat → Int64) (fa : Nat → Nat → Nat → Int32) (la : Nat → Nat → Nat → Int64) (hI : IX iv fa) (p_0 : (iv 12 37).toInt + (iv 12 38).toInt ≤ 200) : Met l yX12_isWord (wc yX12_isWord cX12_isWord 10 (some .boolean)) ({ frames := 0, cells := 0, slots := 0, locals := 0 } : Room) (pR (dC, dI) classes (WM h g ca iv lv fa la) (TM ca) [.ref h, .int 4, .int 112, .int 97, .int 114, .int 116, .int 0, .int 0]) (vp_Si (fun r => (0 ≤ r.toInt ∧ r.toInt ≤ 1) ∧ (((r.toInt = 1 ∧ w_part (fun j => sg ((fa 12 32) j).toInt) (iv 12 37).toInt ((iv 12 37).toInt + (iv 12 38).toInt)) ∨ (r.toInt = 0 ∧ ¬ w_part (fun j => sg ((fa 12 32) j).toInt) (iv 12 37).toInt ((iv 12 37).toInt + (iv 12 38).toInt)))) ∧ ((r.toInt = 0 ∨ (iv 12 38).toInt = 4)))) 0 0 (fun _ => False) := by
  refine Met.ofW (cc := cX12_isWord) (maxL := 10) (ret := (some .boolean)) (by decide) rfl ?_
  intro p e s m args below meth c s₁ B hml hv
  obtain ⟨rfl, hP, hK⟩ := hv
  have hx := B.exec
  have hb := B.bytes
  have hr := B.returns
  have ht := tb_tl (atoms_spec (ws := wc yX12_isWord cX12_isWord 10 (some .boolean)) B.pre)
  have hown : s.vm.findClass RX12 = some m.cls := findClass_of_methodNamed B.named
  have hlocks := B.notSynchronized
  have hl := lv_entry [.ref h, .int 4, .int 112, .int 97, .int 114, .int 116, .int 0, .int 0] (n := 10) (Nat.le_of_ble_eq_true rfl)
  rw [lg_entry_eq]
  generalize (lg_sl [.ref h, .int 4, .int 112, .int 97, .int 114, .int 116, .int 0, .int 0] ++ List.replicate (10 - (lg_sl [.ref h, .int 4, .int 112, .int 97, .int 114, .int 116, .int 0, .int 0]).length) Slot.unset).toArray = ls at hl ⊢
  have hl : lv_has ls 10 [(0, .ref h), (1, .int 4), (2, .int 112), (3, .int 97), (4, .int 114), (5, .int 116), (6, .int 0), (7, .int 0)] := hl
  refine lv_aload_n hx hb dX12_isWord_0 rfl (lv_at hl 0 rfl) ?_
  have i_12_38 : 0 ≤ (iv 12 38).toInt ∧ (iv 12 38).toInt ≤ 200 := hI.1 12 38
  refine gM_12_38 hx hb ht hown hK hP m_1177 (v := (iv 12 38)) rfl dX12_isWord_1 ?_
  refine lv_iload_n hx hb dX12_isWord_4 rfl (lv_at hl 1 rfl) ?_
  refine lv_icmp_ne (tgt := 12) hx hb dX12_isWord_5 (by decide) (fun c1 => ?_) (fun c1 => ?_)
  · have fc1 := z_ne (rfl : ((iv 12 38)).toInt = _) (by decide : (4 : Int32).toInt = 4) c1
    refine lv_iconst (v := 0) hx hb dX12_isWord_12 (by decide) ?_
    refine lv_istore (lv' := [(8, .int 0), (0, .ref h), (1, .int 4), (2, .int 112), (3, .int 97), (4, .int 114), (5, .int 116), (6, .int 0), (7, .int 0)]) hx hb dX12_isWord_13 hl (by decide) rfl (fun ls hl => ?_)
    refine lv_iconst (v := 0) hx hb dX12_isWord_15 (by decide) ?_
    refine lv_istore (lv' := [(9, .int 0), (8, .int 0), (0, .ref h), (1, .int 4), (2, .int 112), (3, .int 97), (4, .int 114), (5, .int 116), (6, .int 0), (7, .int 0)]) hx hb dX12_isWord_16 hl (by decide) rfl (fun ls hl => ?_)
    refine lv_iload hx hb dX12_isWord_18 (lv_at hl 0 rfl) ?_
    refine lv_iload_n hx hb dX12_isWord_20 rfl (lv_at hl 3 rfl) ?_
    refine lv_icmp_ge (tgt := 111) hx hb dX12_isWord_21 (by decide) (fun c2 => ?_) (fun c2 => ?_)
    · exact absurd c2 (by decide)
    · skip
      refine lv_iload hx hb dX12_isWord_24 (lv_at hl 1 rfl) ?_
      refine lv_if_eq (tgt := 111) hx hb dX12_isWord_26 (by decide) (fun c3 => ?_) (fun c3 => ?_)
      · skip
        refine lv_iload hx hb dX12_isWord_111 (lv_at hl 1 rfl) ?_
        have : (0 : Int32).toInt = 0 := (by decide)
        have i_12_37 : 0 ≤ (iv 12 37).toInt ∧ (iv 12 37).toInt ≤ 200 := hI.1 12 37
        exact W.zret (v := 0) hx hb hr rfl (fun t ht9 hW => ⟨0, rfl, ⟨⟨by decide, by decide⟩, (show (((0 : Int32).toInt = 1 ∧ w_part (fun j => sg ((fa 12 32) j).toInt) ((iv 12 37) : Int32).toInt (((iv 12 37) : Int32).toInt + ((iv 12 38) : Int32).toInt)) ∨ ((0 : Int32).toInt = 0 ∧ ¬ w_part (fun j => sg ((fa 12 32) j).toInt) ((iv 12 37) : Int32).toInt (((iv 12 37) : Int32).toInt + ((iv 12 38) : Int32).toInt))) from (by exact Or.inr ⟨by omega, fun h9 => (by have h8 : ((iv 12 37).toInt + (iv 12 38).toInt) - (iv 12 37).toInt = 4 ∧ sg (fa 12 32 (((iv 12 37).toInt).toNat + 0)).toInt = 112 ∧ sg (fa 12 32 (((iv 12 37).toInt).toNat + 1)).toInt = 97 ∧ sg (fa 12 32 (((iv 12 37).toInt).toNat + 2)).toInt = 114 ∧ sg (fa 12 32 (((iv 12 37).toInt).toNat + 3)).toInt = 116 := h9; have h7 := h8.1; omega)⟩)), (show ((0 : Int32).toInt = 0 ∨ ((iv 12 38) : Int32).toInt = 4) from by omega)⟩, ht9⟩) (fun q hq => by cases hq) dX12_isWord_113
      · exact absurd rfl c3
  · have fc1 := z_eq (rfl : ((iv 12 38)).toInt = _) (by decide : (4 : Int32).toInt = 4) c1
    refine lv_iconst (v := 1) hx hb dX12_isWord_8 (by decide) ?_
    refine lv_goto (tgt := 13) hx hb dX12_isWord_9 (by decide) ?_
    refine lv_istore (lv' := [(8, .int 1), (0, .ref h), (1, .int 4), (2, .int 112), (3, .int 97), (4, .int 114), (5, .int 116), (6, .int 0), (7, .int 0)]) hx hb dX12_isWord_13 hl (by decide) rfl (fun ls hl => ?_)
    refine lv_iconst (v := 0) hx hb dX12_isWord_15 (by decide) ?_
    refine lv_istore (lv' := [(9, .int 0), (8, .int 1), (0, .ref h), (1, .int 4), (2, .int 112), (3, .int 97), (4, .int 114), (5, .int 116), (6, .int 0), (7, .int 0)]) hx hb dX12_isWord_16 hl (by decide) rfl (fun ls hl => ?_)
    refine lv_iload hx hb dX12_isWord_18 (lv_at hl 0 rfl) ?_
    refine lv_iload_n hx hb dX12_isWord_20 rfl (lv_at hl 3 rfl) ?_
    refine lv_icmp_ge (tgt := 111) hx hb dX12_isWord_21 (by decide) (fun c4 => ?_) (fun c4 => ?_)
    · exact absurd c4 (by decide)
    · skip
      refine lv_iload hx hb dX12_isWord_24 (lv_at hl 1 rfl) ?_
      refine lv_if_eq (tgt := 111) hx hb dX12_isWord_26 (by decide) (fun c5 => ?_) (fun c5 => ?_)
      · exact absurd c5 (by decide)
      · skip
        refine lv_aload_n hx hb dX12_isWord_29 rfl (lv_at hl 2 rfl) ?_
        refine gM_12_32 hx hb ht hown hK hP m_1171 dX12_isWord_30 ?_
        refine lv_aload_n hx hb dX12_isWord_33 rfl (lv_at hl 2 rfl) ?_
        have i_12_37 : 0 ≤ (iv 12 37).toInt ∧ (iv 12 37).toInt ≤ 200 := hI.1 12 37
        refine gM_12_37 hx hb ht hown hK hP m_1176 (v := (iv 12 37)) rfl dX12_isWord_34 ?_
        refine lv_iload hx hb dX12_isWord_37 (lv_at hl 0 rfl) ?_
        refine lv_iadd hx hb dX12_isWord_39 ?_
        refine lv_topi (fun v6 ev6 => ?_)
        have tv6 := z_add ev6 (rfl : ((iv 12 37)).toInt = _) (by decide : (0 : Int32).toInt = 0) (by omega) (by omega)
        have : 0 ≤ (v6 : Int32).toInt ∧ (v6 : Int32).toInt ≤ 199 := ⟨by omega, by omega⟩
        refine lM_12_32 hx hb hK hP (f := (fa 12 32)) rfl (vp_in_iff.mpr ⟨by omega, by omega⟩) dX12_isWord_40 ?_
        refine lv_topi (fun v7 ev7 => ?_)
        refine lv_iload hx hb dX12_isWord_41 (lv_at hl 0 rfl) ?_
        refine lv_if_ne (tgt := 50) hx hb dX12_isWord_43 (by decide) (fun c8 => ?_) (fun c8 => ?_)
        · exact absurd rfl c8
        · skip
          refine lv_iload_n hx hb dX12_isWord_46 rfl (lv_at hl 4 rfl) ?_
          refine lv_goto (tgt := 95) hx hb dX12_isWord_47 (by decide) ?_
          refine lv_icmp_ne (tgt := 102) hx hb dX12_isWord_95 (by decide) (fun c9 => ?_) (fun c9 => ?_)
          · have fc9 := z_ne (rfl : (v7).toInt = _) (by decide : (112 : Int32).toInt = 112) c9
            refine lv_iconst (v := 0) hx hb dX12_isWord_102 (by decide) ?_
            refine lv_istore (lv' := [(8, .int 0), (9, .int 0), (0, .ref h), (1, .int 4), (2, .int 112), (3, .int 97), (4, .int 114), (5, .int 116), (6, .int 0), (7, .int 0)]) hx hb dX12_isWord_103 hl (by decide) rfl (fun ls hl => ?_)
            refine lv_iinc (v := 1) (lv' := [(9, .int 1), (8, .int 0), (0, .ref h), (1, .int 4), (2, .int 112), (3, .int 97), (4, .int 114), (5, .int 116), (6, .int 0), (7, .int 0)]) hx hb dX12_isWord_105 hl (k := 1) rfl (by decide) (by decide) rfl (fun ls hl => ?_)
            refine lv_goto (tgt := 18) hx hb dX12_isWord_108 (by decide) ?_
            refine lv_iload hx hb dX12_isWord_18 (lv_at hl 0 rfl) ?_
            refine lv_iload_n hx hb dX12_isWord_20 rfl (lv_at hl 3 rfl) ?_
            refine lv_icmp_ge (tgt := 111) hx hb dX12_isWord_21 (by decide) (fun c10 => ?_) (fun c10 => ?_)
            · exact absurd c10 (by decide)
            · skip
              refine lv_iload hx hb dX12_isWord_24 (lv_at hl 1 rfl) ?_
              refine lv_if_eq (tgt := 111) hx hb dX12_isWord_26 (by decide) (fun c11 => ?_) (fun c11 => ?_)
              · skip
                refine lv_iload hx hb dX12_isWord_111 (lv_at hl 1 rfl) ?_
                have : (0 : Int32).toInt = 0 := (by decide)
                exact W.zret (v := 0) hx hb hr rfl (fun t ht9 hW => ⟨0, rfl, ⟨⟨by decide, by decide⟩, (show (((0 : Int32).toInt = 1 ∧ w_part (fun j => sg ((fa 12 32) j).toInt) ((iv 12 37) : Int32).toInt (((iv 12 37) : Int32).toInt + ((iv 12 38) : Int32).toInt)) ∨ ((0 : Int32).toInt = 0 ∧ ¬ w_part (fun j => sg ((fa 12 32) j).toInt) ((iv 12 37) : Int32).toInt (((iv 12 37) : Int32).toInt + ((iv 12 38) : Int32).toInt))) from (by have q0 := congrArg Int32.toInt (ev7.trans (congrArg (fa 12 32) (show (v6 : Int32).toNatClampNeg = ((iv 12 37).toInt).toNat + 0 from (by show (v6 : Int32).toInt.toNat = _; omega)))); have s0 := sg_i (v7 : Int32).toInt; rw [q0] at s0; exact Or.inr ⟨by omega, fun h9 => (by have h8 : ((iv 12 37).toInt + (iv 12 38).toInt) - (iv 12 37).toInt = 4 ∧ sg (fa 12 32 (((iv 12 37).toInt).toNat + 0)).toInt = 112 ∧ sg (fa 12 32 (((iv 12 37).toInt).toNat + 1)).toInt = 97 ∧ sg (fa 12 32 (((iv 12 37).toInt).toNat + 2)).toInt = 114 ∧ sg (fa 12 32 (((iv 12 37).toInt).toNat + 3)).toInt = 116 := h9; have h7 := h8.2.1; clear h8 h9; omega)⟩)), (show ((0 : Int32).toInt = 0 ∨ ((iv 12 38) : Int32).toInt = 4) from by omega)⟩, ht9⟩) (fun q hq => by cases hq) dX12_isWord_113
              · exact absurd rfl c11
          · have fc9 := z_eq (rfl : (v7).toInt = _) (by decide : (112 : Int32).toInt = 112) c9
            refine lv_iconst (v := 1) hx hb dX12_isWord_98 (by decide) ?_
            refine lv_goto (tgt := 103) hx hb dX12_isWord_99 (by decide) ?_
            refine lv_istore (lv' := [(8, .int 1), (9, .int 0), (0, .ref h), (1, .int 4), (2, .int 112), (3, .int 97), (4, .int 114), (5, .int 116), (6, .int 0), (7, .int 0)]) hx hb dX12_isWord_103 hl (by decide) rfl (fun ls hl => ?_)
            refine lv_iinc (v := 1) (lv' := [(9, .int 1), (8, .int 1), (0, .ref h), (1, .int 4), (2, .int 112), (3, .int 97), (4, .int 114), (5, .int 116), (6, .int 0), (7, .int 0)]) hx hb dX12_isWord_105 hl (k := 1) rfl (by decide) (by decide) rfl (fun ls hl => ?_)
            refine lv_goto (tgt := 18) hx hb dX12_isWord_108 (by decide) ?_
            refine lv_iload hx hb dX12_isWord_18 (lv_at hl 0 rfl) ?_
            refine lv_iload_n hx hb dX12_isWord_20 rfl (lv_at hl 3 rfl) ?_
            refine lv_icmp_ge (tgt := 111) hx hb dX12_isWord_21 (by decide) (fun c12 => ?_) (fun c12 => ?_)
            · exact absurd c12 (by decide)
            · skip
              refine lv_iload hx hb dX12_isWord_24 (lv_at hl 1 rfl) ?_
              refine lv_if_eq (tgt := 111) hx hb dX12_isWord_26 (by decide) (fun c13 => ?_) (fun c13 => ?_)
              · exact absurd c13 (by decide)
              · skip
                refine lv_aload_n hx hb dX12_isWord_29 rfl (lv_at hl 2 rfl) ?_
                refine gM_12_32 hx hb ht hown hK hP m_1171 dX12_isWord_30 ?_
                refine lv_aload_n hx hb dX12_isWord_33 rfl (lv_at hl 2 rfl) ?_
                refine gM_12_37 hx hb ht hown hK hP m_1176 (v := (iv 12 37)) rfl dX12_isWord_34 ?_
                refine lv_iload hx hb dX12_isWord_37 (lv_at hl 0 rfl) ?_
                refine lv_iadd hx hb dX12_isWord_39 ?_
                refine lv_topi (fun v14 ev14 => ?_)
                have tv14 := z_add ev14 (rfl : ((iv 12 37)).toInt = _) (by decide : (1 : Int32).toInt = 1) (by omega) (by omega)
                have : 0 ≤ (v14 : Int32).toInt ∧ (v14 : Int32).toInt ≤ 199 := ⟨by omega, by omega⟩
                refine lM_12_32 hx hb hK hP (f := (fa 12 32)) rfl (vp_in_iff.mpr ⟨by omega, by omega⟩) dX12_isWord_40 ?_
                refine lv_topi (fun v15 ev15 => ?_)
                refine lv_iload hx hb dX12_isWord_41 (lv_at hl 0 rfl) ?_
                refine lv_if_ne (tgt := 50) hx hb dX12_isWord_43 (by decide) (fun c16 => ?_) (fun c16 => ?_)
                · skip
                  refine lv_iload hx hb dX12_isWord_50 (lv_at hl 0 rfl) ?_
                  refine lv_iconst (v := 1) hx hb dX12_isWord_52 (by decide) ?_
                  refine lv_icmp_ne (tgt := 60) hx hb dX12_isWord_53 (by decide) (fun c17 => ?_) (fun c17 => ?_)
                  · exact absurd rfl c17
                  · skip
                    refine lv_iload_n hx hb dX12_isWord_56 rfl (lv_at hl 5 rfl) ?_
                    refine lv_goto (tgt := 95) hx hb dX12_isWord_57 (by decide) ?_
                    refine lv_icmp_ne (tgt := 102) hx hb dX12_isWord_95 (by decide) (fun c18 => ?_) (fun c18 => ?_)
                    · have fc18 := z_ne (rfl : (v15).toInt = _) (by decide : (97 : Int32).toInt = 97) c18
                      refine lv_iconst (v := 0) hx hb dX12_isWord_102 (by decide) ?_
                      refine lv_istore (lv' := [(8, .int 0), (9, .int 1), (0, .ref h), (1, .int 4), (2, .int 112), (3, .int 97), (4, .int 114), (5, .int 116), (6, .int 0), (7, .int 0)]) hx hb dX12_isWord_103 hl (by decide) rfl (fun ls hl => ?_)
                      refine lv_iinc (v := 2) (lv' := [(9, .int 2), (8, .int 0), (0, .ref h), (1, .int 4), (2, .int 112), (3, .int 97), (4, .int 114), (5, .int 116), (6, .int 0), (7, .int 0)]) hx hb dX12_isWord_105 hl (k := 1) rfl (by decide) (by decide) rfl (fun ls hl => ?_)
                      refine lv_goto (tgt := 18) hx hb dX12_isWord_108 (by decide) ?_
                      refine lv_iload hx hb dX12_isWord_18 (lv_at hl 0 rfl) ?_
                      refine lv_iload_n hx hb dX12_isWord_20 rfl (lv_at hl 3 rfl) ?_
                      refine lv_icmp_ge (tgt := 111) hx hb dX12_isWord_21 (by decide) (fun c19 => ?_) (fun c19 => ?_)
                      · exact absurd c19 (by decide)
                      · skip
                        refine lv_iload hx hb dX12_isWord_24 (lv_at hl 1 rfl) ?_
                        refine lv_if_eq (tgt := 111) hx hb dX12_isWord_26 (by decide) (fun c20 => ?_) (fun c20 => ?_)
                        · skip
                          refine lv_iload hx hb dX12_isWord_111 (lv_at hl 1 rfl) ?_
                          have : (0 : Int32).toInt = 0 := (by decide)
                          exact W.zret (v := 0) hx hb hr rfl (fun t ht9 hW => ⟨0, rfl, ⟨⟨by decide, by decide⟩, (show (((0 : Int32).toInt = 1 ∧ w_part (fun j => sg ((fa 12 32) j).toInt) ((iv 12 37) : Int32).toInt (((iv 12 37) : Int32).toInt + ((iv 12 38) : Int32).toInt)) ∨ ((0 : Int32).toInt = 0 ∧ ¬ w_part (fun j => sg ((fa 12 32) j).toInt) ((iv 12 37) : Int32).toInt (((iv 12 37) : Int32).toInt + ((iv 12 38) : Int32).toInt))) from (by have q0 := congrArg Int32.toInt (ev7.trans (congrArg (fa 12 32) (show (v6 : Int32).toNatClampNeg = ((iv 12 37).toInt).toNat + 0 from (by show (v6 : Int32).toInt.toNat = _; omega)))); have s0 := sg_i (v7 : Int32).toInt; rw [q0] at s0; have q1 := congrArg Int32.toInt (ev15.trans (congrArg (fa 12 32) (show (v14 : Int32).toNatClampNeg = ((iv 12 37).toInt).toNat + 1 from (by show (v14 : Int32).toInt.toNat = _; omega)))); have s1 := sg_i (v15 : Int32).toInt; rw [q1] at s1; exact Or.inr ⟨by omega, fun h9 => (by have h8 : ((iv 12 37).toInt + (iv 12 38).toInt) - (iv 12 37).toInt = 4 ∧ sg (fa 12 32 (((iv 12 37).toInt).toNat + 0)).toInt = 112 ∧ sg (fa 12 32 (((iv 12 37).toInt).toNat + 1)).toInt = 97 ∧ sg (fa 12 32 (((iv 12 37).toInt).toNat + 2)).toInt = 114 ∧ sg (fa 12 32 (((iv 12 37).toInt).toNat + 3)).toInt = 116 := h9; have h7 := h8.2.2.1; clear h8 h9; omega)⟩)), (show ((0 : Int32).toInt = 0 ∨ ((iv 12 38) : Int32).toInt = 4) from by omega)⟩, ht9⟩) (fun q hq => by cases hq) dX12_isWord_113
                        · exact absurd rfl c20
                    · have fc18 := z_eq (rfl : (v15).toInt = _) (by decide : (97 : Int32).toInt = 97) c18
                      refine lv_iconst (v := 1) hx hb dX12_isWord_98 (by decide) ?_
                      refine lv_goto (tgt := 103) hx hb dX12_isWord_99 (by decide) ?_
                      refine lv_istore (lv' := [(8, .int 1), (9, .int 1), (0, .ref h), (1, .int 4), (2, .int 112), (3, .int 97), (4, .int 114), (5, .int 116), (6, .int 0), (7, .int 0)]) hx hb dX12_isWord_103 hl (by decide) rfl (fun ls hl => ?_)
                      refine lv_iinc (v := 2) (lv' := [(9, .int 2), (8, .int 1), (0, .ref h), (1, .int 4), (2, .int 112), (3, .int 97), (4, .int 114), (5, .int 116), (6, .int 0), (7, .int 0)]) hx hb dX12_isWord_105 hl (k := 1) rfl (by decide) (by decide) rfl (fun ls hl => ?_)
                      refine lv_goto (tgt := 18) hx hb dX12_isWord_108 (by decide) ?_
                      refine lv_iload hx hb dX12_isWord_18 (lv_at hl 0 rfl) ?_
                      refine lv_iload_n hx hb dX12_isWord_20 rfl (lv_at hl 3 rfl) ?_
                      refine lv_icmp_ge (tgt := 111) hx hb dX12_isWord_21 (by decide) (fun c21 => ?_) (fun c21 => ?_)
                      · exact absurd c21 (by decide)
                      · skip
                        refine lv_iload hx hb dX12_isWord_24 (lv_at hl 1 rfl) ?_
                        refine lv_if_eq (tgt := 111) hx hb dX12_isWord_26 (by decide) (fun c22 => ?_) (fun c22 => ?_)
                        · exact absurd c22 (by decide)
                        · skip
                          refine lv_aload_n hx hb dX12_isWord_29 rfl (lv_at hl 2 rfl) ?_
                          refine gM_12_32 hx hb ht hown hK hP m_1171 dX12_isWord_30 ?_
                          refine lv_aload_n hx hb dX12_isWord_33 rfl (lv_at hl 2 rfl) ?_
                          refine gM_12_37 hx hb ht hown hK hP m_1176 (v := (iv 12 37)) rfl dX12_isWord_34 ?_
                          refine lv_iload hx hb dX12_isWord_37 (lv_at hl 0 rfl) ?_
                          refine lv_iadd hx hb dX12_isWord_39 ?_
                          refine lv_topi (fun v23 ev23 => ?_)
                          have tv23 := z_add ev23 (rfl : ((iv 12 37)).toInt = _) (by decide : (2 : Int32).toInt = 2) (by omega) (by omega)
                          have : 0 ≤ (v23 : Int32).toInt ∧ (v23 : Int32).toInt ≤ 199 := ⟨by omega, by omega⟩
                          refine lM_12_32 hx hb hK hP (f := (fa 12 32)) rfl (vp_in_iff.mpr ⟨by omega, by omega⟩) dX12_isWord_40 ?_
                          refine lv_topi (fun v24 ev24 => ?_)
                          refine lv_iload hx hb dX12_isWord_41 (lv_at hl 0 rfl) ?_
                          refine lv_if_ne (tgt := 50) hx hb dX12_isWord_43 (by decide) (fun c25 => ?_) (fun c25 => ?_)
                          · skip
                            refine lv_iload hx hb dX12_isWord_50 (lv_at hl 0 rfl) ?_
                            refine lv_iconst (v := 1) hx hb dX12_isWord_52 (by decide) ?_
                            refine lv_icmp_ne (tgt := 60) hx hb dX12_isWord_53 (by decide) (fun c26 => ?_) (fun c26 => ?_)
                            · skip
                              refine lv_iload hx hb dX12_isWord_60 (lv_at hl 0 rfl) ?_
                              refine lv_iconst (v := 2) hx hb dX12_isWord_62 (by decide) ?_
                              refine lv_icmp_ne (tgt := 71) hx hb dX12_isWord_63 (by decide) (fun c27 => ?_) (fun c27 => ?_)
                              · exact absurd rfl c27
                              · skip
                                refine lv_iload hx hb dX12_isWord_66 (lv_at hl 6 rfl) ?_
                                refine lv_goto (tgt := 95) hx hb dX12_isWord_68 (by decide) ?_
                                refine lv_icmp_ne (tgt := 102) hx hb dX12_isWord_95 (by decide) (fun c28 => ?_) (fun c28 => ?_)
                                · have fc28 := z_ne (rfl : (v24).toInt = _) (by decide : (114 : Int32).toInt = 114) c28
                                  refine lv_iconst (v := 0) hx hb dX12_isWord_102 (by decide) ?_
                                  refine lv_istore (lv' := [(8, .int 0), (9, .int 2), (0, .ref h), (1, .int 4), (2, .int 112), (3, .int 97), (4, .int 114), (5, .int 116), (6, .int 0), (7, .int 0)]) hx hb dX12_isWord_103 hl (by decide) rfl (fun ls hl => ?_)
                                  refine lv_iinc (v := 3) (lv' := [(9, .int 3), (8, .int 0), (0, .ref h), (1, .int 4), (2, .int 112), (3, .int 97), (4, .int 114), (5, .int 116), (6, .int 0), (7, .int 0)]) hx hb dX12_isWord_105 hl (k := 1) rfl (by decide) (by decide) rfl (fun ls hl => ?_)
                                  refine lv_goto (tgt := 18) hx hb dX12_isWord_108 (by decide) ?_
                                  refine lv_iload hx hb dX12_isWord_18 (lv_at hl 0 rfl) ?_
                                  refine lv_iload_n hx hb dX12_isWord_20 rfl (lv_at hl 3 rfl) ?_
                                  refine lv_icmp_ge (tgt := 111) hx hb dX12_isWord_21 (by decide) (fun c29 => ?_) (fun c29 => ?_)
                                  · exact absurd c29 (by decide)
                                  · skip
                                    refine lv_iload hx hb dX12_isWord_24 (lv_at hl 1 rfl) ?_
                                    refine lv_if_eq (tgt := 111) hx hb dX12_isWord_26 (by decide) (fun c30 => ?_) (fun c30 => ?_)
                                    · skip
                                      refine lv_iload hx hb dX12_isWord_111 (lv_at hl 1 rfl) ?_
                                      have : (0 : Int32).toInt = 0 := (by decide)
                                      exact W.zret (v := 0) hx hb hr rfl (fun t ht9 hW => ⟨0, rfl, ⟨⟨by decide, by decide⟩, (show (((0 : Int32).toInt = 1 ∧ w_part (fun j => sg ((fa 12 32) j).toInt) ((iv 12 37) : Int32).toInt (((iv 12 37) : Int32).toInt + ((iv 12 38) : Int32).toInt)) ∨ ((0 : Int32).toInt = 0 ∧ ¬ w_part (fun j => sg ((fa 12 32) j).toInt) ((iv 12 37) : Int32).toInt (((iv 12 37) : Int32).toInt + ((iv 12 38) : Int32).toInt))) from (by have q0 := congrArg Int32.toInt (ev7.trans (congrArg (fa 12 32) (show (v6 : Int32).toNatClampNeg = ((iv 12 37).toInt).toNat + 0 from (by show (v6 : Int32).toInt.toNat = _; omega)))); have s0 := sg_i (v7 : Int32).toInt; rw [q0] at s0; have q1 := congrArg Int32.toInt (ev15.trans (congrArg (fa 12 32) (show (v14 : Int32).toNatClampNeg = ((iv 12 37).toInt).toNat + 1 from (by show (v14 : Int32).toInt.toNat = _; omega)))); have s1 := sg_i (v15 : Int32).toInt; rw [q1] at s1; have q2 := congrArg Int32.toInt (ev24.trans (congrArg (fa 12 32) (show (v23 : Int32).toNatClampNeg = ((iv 12 37).toInt).toNat + 2 from (by show (v23 : Int32).toInt.toNat = _; omega)))); have s2 := sg_i (v24 : Int32).toInt; rw [q2] at s2; exact Or.inr ⟨by omega, fun h9 => (by have h8 : ((iv 12 37).toInt + (iv 12 38).toInt) - (iv 12 37).toInt = 4 ∧ sg (fa 12 32 (((iv 12 37).toInt).toNat + 0)).toInt = 112 ∧ sg (fa 12 32 (((iv 12 37).toInt).toNat + 1)).toInt = 97 ∧ sg (fa 12 32 (((iv 12 37).toInt).toNat + 2)).toInt = 114 ∧ sg (fa 12 32 (((iv 12 37).toInt).toNat + 3)).toInt = 116 := h9; have h7 := h8.2.2.2.1; clear h8 h9; omega)⟩)), (show ((0 : Int32).toInt = 0 ∨ ((iv 12 38) : Int32).toInt = 4) from by omega)⟩, ht9⟩) (fun q hq => by cases hq) dX12_isWord_113
                                    · exact absurd rfl c30
                                · have fc28 := z_eq (rfl : (v24).toInt = _) (by decide : (114 : Int32).toInt = 114) c28
                                  refine lv_iconst (v := 1) hx hb dX12_isWord_98 (by decide) ?_
                                  refine lv_goto (tgt := 103) hx hb dX12_isWord_99 (by decide) ?_
                                  refine lv_istore (lv' := [(8, .int 1), (9, .int 2), (0, .ref h), (1, .int 4), (2, .int 112), (3, .int 97), (4, .int 114), (5, .int 116), (6, .int 0), (7, .int 0)]) hx hb dX12_isWord_103 hl (by decide) rfl (fun ls hl => ?_)
                                  refine lv_iinc (v := 3) (lv' := [(9, .int 3), (8, .int 1), (0, .ref h), (1, .int 4), (2, .int 112), (3, .int 97), (4, .int 114), (5, .int 116), (6, .int 0), (7, .int 0)]) hx hb dX12_isWord_105 hl (k := 1) rfl (by decide) (by decide) rfl (fun ls hl => ?_)
                                  refine lv_goto (tgt := 18) hx hb dX12_isWord_108 (by decide) ?_
                                  refine lv_iload hx hb dX12_isWord_18 (lv_at hl 0 rfl) ?_
                                  refine lv_iload_n hx hb dX12_isWord_20 rfl (lv_at hl 3 rfl) ?_
                                  refine lv_icmp_ge (tgt := 111) hx hb dX12_isWord_21 (by decide) (fun c31 => ?_) (fun c31 => ?_)
                                  · exact absurd c31 (by decide)
                                  · skip
                                    refine lv_iload hx hb dX12_isWord_24 (lv_at hl 1 rfl) ?_
                                    refine lv_if_eq (tgt := 111) hx hb dX12_isWord_26 (by decide) (fun c32 => ?_) (fun c32 => ?_)
                                    · exact absurd c32 (by decide)
                                    · skip
                                      refine lv_aload_n hx hb dX12_isWord_29 rfl (lv_at hl 2 rfl) ?_
                                      refine gM_12_32 hx hb ht hown hK hP m_1171 dX12_isWord_30 ?_
                                      refine lv_aload_n hx hb dX12_isWord_33 rfl (lv_at hl 2 rfl) ?_
                                      refine gM_12_37 hx hb ht hown hK hP m_1176 (v := (iv 12 37)) rfl dX12_isWord_34 ?_
                                      refine lv_iload hx hb dX12_isWord_37 (lv_at hl 0 rfl) ?_
                                      refine lv_iadd hx hb dX12_isWord_39 ?_
                                      refine lv_topi (fun v33 ev33 => ?_)
                                      have tv33 := z_add ev33 (rfl : ((iv 12 37)).toInt = _) (by decide : (3 : Int32).toInt = 3) (by omega) (by omega)
                                      have : 0 ≤ (v33 : Int32).toInt ∧ (v33 : Int32).toInt ≤ 199 := ⟨by omega, by omega⟩
                                      refine lM_12_32 hx hb hK hP (f := (fa 12 32)) rfl (vp_in_iff.mpr ⟨by omega, by omega⟩) dX12_isWord_40 ?_
                                      refine lv_topi (fun v34 ev34 => ?_)
                                      refine lv_iload hx hb dX12_isWord_41 (lv_at hl 0 rfl) ?_
                                      refine lv_if_ne (tgt := 50) hx hb dX12_isWord_43 (by decide) (fun c35 => ?_) (fun c35 => ?_)
                                      · skip
                                        refine lv_iload hx hb dX12_isWord_50 (lv_at hl 0 rfl) ?_
                                        refine lv_iconst (v := 1) hx hb dX12_isWord_52 (by decide) ?_
                                        refine lv_icmp_ne (tgt := 60) hx hb dX12_isWord_53 (by decide) (fun c36 => ?_) (fun c36 => ?_)
                                        · skip
                                          refine lv_iload hx hb dX12_isWord_60 (lv_at hl 0 rfl) ?_
                                          refine lv_iconst (v := 2) hx hb dX12_isWord_62 (by decide) ?_
                                          refine lv_icmp_ne (tgt := 71) hx hb dX12_isWord_63 (by decide) (fun c37 => ?_) (fun c37 => ?_)
                                          · skip
                                            refine lv_iload hx hb dX12_isWord_71 (lv_at hl 0 rfl) ?_
                                            refine lv_iconst (v := 3) hx hb dX12_isWord_73 (by decide) ?_
                                            refine lv_icmp_ne (tgt := 82) hx hb dX12_isWord_74 (by decide) (fun c38 => ?_) (fun c38 => ?_)
                                            · exact absurd rfl c38
                                            · skip
                                              refine lv_iload hx hb dX12_isWord_77 (lv_at hl 7 rfl) ?_
                                              refine lv_goto (tgt := 95) hx hb dX12_isWord_79 (by decide) ?_
                                              refine lv_icmp_ne (tgt := 102) hx hb dX12_isWord_95 (by decide) (fun c39 => ?_) (fun c39 => ?_)
                                              · have fc39 := z_ne (rfl : (v34).toInt = _) (by decide : (116 : Int32).toInt = 116) c39
                                                refine lv_iconst (v := 0) hx hb dX12_isWord_102 (by decide) ?_
                                                refine lv_istore (lv' := [(8, .int 0), (9, .int 3), (0, .ref h), (1, .int 4), (2, .int 112), (3, .int 97), (4, .int 114), (5, .int 116), (6, .int 0), (7, .int 0)]) hx hb dX12_isWord_103 hl (by decide) rfl (fun ls hl => ?_)
                                                refine lv_iinc (v := 4) (lv' := [(9, .int 4), (8, .int 0), (0, .ref h), (1, .int 4), (2, .int 112), (3, .int 97), (4, .int 114), (5, .int 116), (6, .int 0), (7, .int 0)]) hx hb dX12_isWord_105 hl (k := 1) rfl (by decide) (by decide) rfl (fun ls hl => ?_)
                                                refine lv_goto (tgt := 18) hx hb dX12_isWord_108 (by decide) ?_
                                                refine lv_iload hx hb dX12_isWord_18 (lv_at hl 0 rfl) ?_
                                                refine lv_iload_n hx hb dX12_isWord_20 rfl (lv_at hl 3 rfl) ?_
                                                refine lv_icmp_ge (tgt := 111) hx hb dX12_isWord_21 (by decide) (fun c40 => ?_) (fun c40 => ?_)
                                                · skip
                                                  refine lv_iload hx hb dX12_isWord_111 (lv_at hl 1 rfl) ?_
                                                  have : (0 : Int32).toInt = 0 := (by decide)
                                                  exact W.zret (v := 0) hx hb hr rfl (fun t ht9 hW => ⟨0, rfl, ⟨⟨by decide, by decide⟩, (show (((0 : Int32).toInt = 1 ∧ w_part (fun j => sg ((fa 12 32) j).toInt) ((iv 12 37) : Int32).toInt (((iv 12 37) : Int32).toInt + ((iv 12 38) : Int32).toInt)) ∨ ((0 : Int32).toInt = 0 ∧ ¬ w_part (fun j => sg ((fa 12 32) j).toInt) ((iv 12 37) : Int32).toInt (((iv 12 37) : Int32).toInt + ((iv 12 38) : Int32).toInt))) from (by have q0 := congrArg Int32.toInt (ev7.trans (congrArg (fa 12 32) (show (v6 : Int32).toNatClampNeg = ((iv 12 37).toInt).toNat + 0 from (by show (v6 : Int32).toInt.toNat = _; omega)))); have s0 := sg_i (v7 : Int32).toInt; rw [q0] at s0; have q1 := congrArg Int32.toInt (ev15.trans (congrArg (fa 12 32) (show (v14 : Int32).toNatClampNeg = ((iv 12 37).toInt).toNat + 1 from (by show (v14 : Int32).toInt.toNat = _; omega)))); have s1 := sg_i (v15 : Int32).toInt; rw [q1] at s1; have q2 := congrArg Int32.toInt (ev24.trans (congrArg (fa 12 32) (show (v23 : Int32).toNatClampNeg = ((iv 12 37).toInt).toNat + 2 from (by show (v23 : Int32).toInt.toNat = _; omega)))); have s2 := sg_i (v24 : Int32).toInt; rw [q2] at s2; have q3 := congrArg Int32.toInt (ev34.trans (congrArg (fa 12 32) (show (v33 : Int32).toNatClampNeg = ((iv 12 37).toInt).toNat + 3 from (by show (v33 : Int32).toInt.toNat = _; omega)))); have s3 := sg_i (v34 : Int32).toInt; rw [q3] at s3; exact Or.inr ⟨by omega, fun h9 => (by have h8 : ((iv 12 37).toInt + (iv 12 38).toInt) - (iv 12 37).toInt = 4 ∧ sg (fa 12 32 (((iv 12 37).toInt).toNat + 0)).toInt = 112 ∧ sg (fa 12 32 (((iv 12 37).toInt).toNat + 1)).toInt = 97 ∧ sg (fa 12 32 (((iv 12 37).toInt).toNat + 2)).toInt = 114 ∧ sg (fa 12 32 (((iv 12 37).toInt).toNat + 3)).toInt = 116 := h9; have h7 := h8.2.2.2.2; clear h8 h9; omega)⟩)), (show ((0 : Int32).toInt = 0 ∨ ((iv 12 38) : Int32).toInt = 4) from by omega)⟩, ht9⟩) (fun q hq => by cases hq) dX12_isWord_113
                                                · exact absurd c40 (by decide)
                                              · have fc39 := z_eq (rfl : (v34).toInt = _) (by decide : (116 : Int32).toInt = 116) c39
                                                refine lv_iconst (v := 1) hx hb dX12_isWord_98 (by decide) ?_
                                                refine lv_goto (tgt := 103) hx hb dX12_isWord_99 (by decide) ?_
                                                refine lv_istore (lv' := [(8, .int 1), (9, .int 3), (0, .ref h), (1, .int 4), (2, .int 112), (3, .int 97), (4, .int 114), (5, .int 116), (6, .int 0), (7, .int 0)]) hx hb dX12_isWord_103 hl (by decide) rfl (fun ls hl => ?_)
                                                refine lv_iinc (v := 4) (lv' := [(9, .int 4), (8, .int 1), (0, .ref h), (1, .int 4), (2, .int 112), (3, .int 97), (4, .int 114), (5, .int 116), (6, .int 0), (7, .int 0)]) hx hb dX12_isWord_105 hl (k := 1) rfl (by decide) (by decide) rfl (fun ls hl => ?_)
                                                refine lv_goto (tgt := 18) hx hb dX12_isWord_108 (by decide) ?_
                                                refine lv_iload hx hb dX12_isWord_18 (lv_at hl 0 rfl) ?_
                                                refine lv_iload_n hx hb dX12_isWord_20 rfl (lv_at hl 3 rfl) ?_
                                                refine lv_icmp_ge (tgt := 111) hx hb dX12_isWord_21 (by decide) (fun c41 => ?_) (fun c41 => ?_)
                                                · skip
                                                  refine lv_iload hx hb dX12_isWord_111 (lv_at hl 1 rfl) ?_
                                                  have : (1 : Int32).toInt = 1 := (by decide)
                                                  exact W.zret (v := 1) hx hb hr rfl (fun t ht9 hW => ⟨1, rfl, ⟨⟨by decide, by decide⟩, (show (((1 : Int32).toInt = 1 ∧ w_part (fun j => sg ((fa 12 32) j).toInt) ((iv 12 37) : Int32).toInt (((iv 12 37) : Int32).toInt + ((iv 12 38) : Int32).toInt)) ∨ ((1 : Int32).toInt = 0 ∧ ¬ w_part (fun j => sg ((fa 12 32) j).toInt) ((iv 12 37) : Int32).toInt (((iv 12 37) : Int32).toInt + ((iv 12 38) : Int32).toInt))) from (by have q0 := congrArg Int32.toInt (ev7.trans (congrArg (fa 12 32) (show (v6 : Int32).toNatClampNeg = ((iv 12 37).toInt).toNat + 0 from (by show (v6 : Int32).toInt.toNat = _; omega)))); have s0 := sg_i (v7 : Int32).toInt; rw [q0] at s0; have q1 := congrArg Int32.toInt (ev15.trans (congrArg (fa 12 32) (show (v14 : Int32).toNatClampNeg = ((iv 12 37).toInt).toNat + 1 from (by show (v14 : Int32).toInt.toNat = _; omega)))); have s1 := sg_i (v15 : Int32).toInt; rw [q1] at s1; have q2 := congrArg Int32.toInt (ev24.trans (congrArg (fa 12 32) (show (v23 : Int32).toNatClampNeg = ((iv 12 37).toInt).toNat + 2 from (by show (v23 : Int32).toInt.toNat = _; omega)))); have s2 := sg_i (v24 : Int32).toInt; rw [q2] at s2; have q3 := congrArg Int32.toInt (ev34.trans (congrArg (fa 12 32) (show (v33 : Int32).toNatClampNeg = ((iv 12 37).toInt).toNat + 3 from (by show (v33 : Int32).toInt.toNat = _; omega)))); have s3 := sg_i (v34 : Int32).toInt; rw [q3] at s3; exact Or.inl ⟨by omega, (show ((iv 12 37).toInt + (iv 12 38).toInt) - (iv 12 37).toInt = 4 ∧ sg (fa 12 32 (((iv 12 37).toInt).toNat + 0)).toInt = 112 ∧ sg (fa 12 32 (((iv 12 37).toInt).toNat + 1)).toInt = 97 ∧ sg (fa 12 32 (((iv 12 37).toInt).toNat + 2)).toInt = 114 ∧ sg (fa 12 32 (((iv 12 37).toInt).toNat + 3)).toInt = 116 from ⟨by omega, by omega, by omega, by omega, by omega⟩)⟩)), (show ((1 : Int32).toInt = 0 ∨ ((iv 12 38) : Int32).toInt = 4) from by omega)⟩, ht9⟩) (fun q hq => by cases hq) dX12_isWord_113
                                                · exact absurd c41 (by decide)
                                          · exact absurd c37 (by decide)
                                        · exact absurd c36 (by decide)
                                      · exact absurd c35 (by decide)
                            · exact absurd c26 (by decide)
                          · exact absurd c25 (by decide)
                · exact absurd c16 (by decide)
set_option maxHeartbeats 4000000 in
set_option maxRecDepth 100000 in
/-- X12_isWord -/
theorem c_X12_isWord_r_looks (l : Launch) (dC : Nat → ClassId) (dI : Nat → Nat → Nat) (h : Nat) (g : Nat → Nat → Nat) (ca : Nat → Nat → ClassId) (iv : Nat → Nat → Int32) (lv : Nat → Nat → Int64) (fa : Nat → Nat → Nat → Int32) (la : Nat → Nat → Nat → Int64) (hI : IX iv fa) (p_0 : (iv 12 37).toInt + (iv 12 38).toInt ≤ 200) : Met l yX12_isWord (wc yX12_isWord cX12_isWord 10 (some .boolean)) ({ frames := 0, cells := 0, slots := 0, locals := 0 } : Room) (pR (dC, dI) classes (WM h g ca iv lv fa la) (TM ca) [.ref h, .int 5, .int 108, .int 111, .int 111, .int 107, .int 115, .int 0]) (vp_Si (fun r => (0 ≤ r.toInt ∧ r.toInt ≤ 1) ∧ (((r.toInt = 1 ∧ w_looks (fun j => sg ((fa 12 32) j).toInt) (iv 12 37).toInt ((iv 12 37).toInt + (iv 12 38).toInt)) ∨ (r.toInt = 0 ∧ ¬ w_looks (fun j => sg ((fa 12 32) j).toInt) (iv 12 37).toInt ((iv 12 37).toInt + (iv 12 38).toInt)))) ∧ ((r.toInt = 0 ∨ (iv 12 38).toInt = 5)))) 0 0 (fun _ => False) := by
  refine Met.ofW (cc := cX12_isWord) (maxL := 10) (ret := (some .boolean)) (by decide) rfl ?_
  intro p e s m args below meth c s₁ B hml hv
  obtain ⟨rfl, hP, hK⟩ := hv
  have hx := B.exec
  have hb := B.bytes
  have hr := B.returns
  have ht := tb_tl (atoms_spec (ws := wc yX12_isWord cX12_isWord 10 (some .boolean)) B.pre)
  have hown : s.vm.findClass RX12 = some m.cls := findClass_of_methodNamed B.named
  have hlocks := B.notSynchronized
  have hl := lv_entry [.ref h, .int 5, .int 108, .int 111, .int 111, .int 107, .int 115, .int 0] (n := 10) (Nat.le_of_ble_eq_true rfl)
  rw [lg_entry_eq]
  generalize (lg_sl [.ref h, .int 5, .int 108, .int 111, .int 111, .int 107, .int 115, .int 0] ++ List.replicate (10 - (lg_sl [.ref h, .int 5, .int 108, .int 111, .int 111, .int 107, .int 115, .int 0]).length) Slot.unset).toArray = ls at hl ⊢
  have hl : lv_has ls 10 [(0, .ref h), (1, .int 5), (2, .int 108), (3, .int 111), (4, .int 111), (5, .int 107), (6, .int 115), (7, .int 0)] := hl
  refine lv_aload_n hx hb dX12_isWord_0 rfl (lv_at hl 0 rfl) ?_
  have i_12_38 : 0 ≤ (iv 12 38).toInt ∧ (iv 12 38).toInt ≤ 200 := hI.1 12 38
  refine gM_12_38 hx hb ht hown hK hP m_1177 (v := (iv 12 38)) rfl dX12_isWord_1 ?_
  refine lv_iload_n hx hb dX12_isWord_4 rfl (lv_at hl 1 rfl) ?_
  refine lv_icmp_ne (tgt := 12) hx hb dX12_isWord_5 (by decide) (fun c1 => ?_) (fun c1 => ?_)
  · have fc1 := z_ne (rfl : ((iv 12 38)).toInt = _) (by decide : (5 : Int32).toInt = 5) c1
    refine lv_iconst (v := 0) hx hb dX12_isWord_12 (by decide) ?_
    refine lv_istore (lv' := [(8, .int 0), (0, .ref h), (1, .int 5), (2, .int 108), (3, .int 111), (4, .int 111), (5, .int 107), (6, .int 115), (7, .int 0)]) hx hb dX12_isWord_13 hl (by decide) rfl (fun ls hl => ?_)
    refine lv_iconst (v := 0) hx hb dX12_isWord_15 (by decide) ?_
    refine lv_istore (lv' := [(9, .int 0), (8, .int 0), (0, .ref h), (1, .int 5), (2, .int 108), (3, .int 111), (4, .int 111), (5, .int 107), (6, .int 115), (7, .int 0)]) hx hb dX12_isWord_16 hl (by decide) rfl (fun ls hl => ?_)
    refine lv_iload hx hb dX12_isWord_18 (lv_at hl 0 rfl) ?_
    refine lv_iload_n hx hb dX12_isWord_20 rfl (lv_at hl 3 rfl) ?_
    refine lv_icmp_ge (tgt := 111) hx hb dX12_isWord_21 (by decide) (fun c2 => ?_) (fun c2 => ?_)
    · exact absurd c2 (by decide)
    · skip
      refine lv_iload hx hb dX12_isWord_24 (lv_at hl 1 rfl) ?_
      refine lv_if_eq (tgt := 111) hx hb dX12_isWord_26 (by decide) (fun c3 => ?_) (fun c3 => ?_)
      · skip
        refine lv_iload hx hb dX12_isWord_111 (lv_at hl 1 rfl) ?_
        have : (0 : Int32).toInt = 0 := (by decide)
        have i_12_37 : 0 ≤ (iv 12 37).toInt ∧ (iv 12 37).toInt ≤ 200 := hI.1 12 37
        exact W.zret (v := 0) hx hb hr rfl (fun t ht9 hW => ⟨0, rfl, ⟨⟨by decide, by decide⟩, (show (((0 : Int32).toInt = 1 ∧ w_looks (fun j => sg ((fa 12 32) j).toInt) ((iv 12 37) : Int32).toInt (((iv 12 37) : Int32).toInt + ((iv 12 38) : Int32).toInt)) ∨ ((0 : Int32).toInt = 0 ∧ ¬ w_looks (fun j => sg ((fa 12 32) j).toInt) ((iv 12 37) : Int32).toInt (((iv 12 37) : Int32).toInt + ((iv 12 38) : Int32).toInt))) from (by exact Or.inr ⟨by omega, fun h9 => (by have h8 : ((iv 12 37).toInt + (iv 12 38).toInt) - (iv 12 37).toInt = 5 ∧ sg (fa 12 32 (((iv 12 37).toInt).toNat + 0)).toInt = 108 ∧ sg (fa 12 32 (((iv 12 37).toInt).toNat + 1)).toInt = 111 ∧ sg (fa 12 32 (((iv 12 37).toInt).toNat + 2)).toInt = 111 ∧ sg (fa 12 32 (((iv 12 37).toInt).toNat + 3)).toInt = 107 ∧ sg (fa 12 32 (((iv 12 37).toInt).toNat + 4)).toInt = 115 := h9; have h7 := h8.1; omega)⟩)), (show ((0 : Int32).toInt = 0 ∨ ((iv 12 38) : Int32).toInt = 5) from by omega)⟩, ht9⟩) (fun q hq => by cases hq) dX12_isWord_113
      · exact absurd rfl c3
  · have fc1 := z_eq (rfl : ((iv 12 38)).toInt = _) (by decide : (5 : Int32).toInt = 5) c1
    refine lv_iconst (v := 1) hx hb dX12_isWord_8 (by decide) ?_
    refine lv_goto (tgt := 13) hx hb dX12_isWord_9 (by decide) ?_
    refine lv_istore (lv' := [(8, .int 1), (0, .ref h), (1, .int 5), (2, .int 108), (3, .int 111), (4, .int 111), (5, .int 107), (6, .int 115), (7, .int 0)]) hx hb dX12_isWord_13 hl (by decide) rfl (fun ls hl => ?_)
    refine lv_iconst (v := 0) hx hb dX12_isWord_15 (by decide) ?_
    refine lv_istore (lv' := [(9, .int 0), (8, .int 1), (0, .ref h), (1, .int 5), (2, .int 108), (3, .int 111), (4, .int 111), (5, .int 107), (6, .int 115), (7, .int 0)]) hx hb dX12_isWord_16 hl (by decide) rfl (fun ls hl => ?_)
    refine lv_iload hx hb dX12_isWord_18 (lv_at hl 0 rfl) ?_
    refine lv_iload_n hx hb dX12_isWord_20 rfl (lv_at hl 3 rfl) ?_
    refine lv_icmp_ge (tgt := 111) hx hb dX12_isWord_21 (by decide) (fun c4 => ?_) (fun c4 => ?_)
    · exact absurd c4 (by decide)
    · skip
      refine lv_iload hx hb dX12_isWord_24 (lv_at hl 1 rfl) ?_
      refine lv_if_eq (tgt := 111) hx hb dX12_isWord_26 (by decide) (fun c5 => ?_) (fun c5 => ?_)
      · exact absurd c5 (by decide)
      · skip
        refine lv_aload_n hx hb dX12_isWord_29 rfl (lv_at hl 2 rfl) ?_
        refine gM_12_32 hx hb ht hown hK hP m_1171 dX12_isWord_30 ?_
        refine lv_aload_n hx hb dX12_isWord_33 rfl (lv_at hl 2 rfl) ?_
        have i_12_37 : 0 ≤ (iv 12 37).toInt ∧ (iv 12 37).toInt ≤ 200 := hI.1 12 37
        refine gM_12_37 hx hb ht hown hK hP m_1176 (v := (iv 12 37)) rfl dX12_isWord_34 ?_
        refine lv_iload hx hb dX12_isWord_37 (lv_at hl 0 rfl) ?_
        refine lv_iadd hx hb dX12_isWord_39 ?_
        refine lv_topi (fun v6 ev6 => ?_)
        have tv6 := z_add ev6 (rfl : ((iv 12 37)).toInt = _) (by decide : (0 : Int32).toInt = 0) (by omega) (by omega)
        have : 0 ≤ (v6 : Int32).toInt ∧ (v6 : Int32).toInt ≤ 199 := ⟨by omega, by omega⟩
        refine lM_12_32 hx hb hK hP (f := (fa 12 32)) rfl (vp_in_iff.mpr ⟨by omega, by omega⟩) dX12_isWord_40 ?_
        refine lv_topi (fun v7 ev7 => ?_)
        refine lv_iload hx hb dX12_isWord_41 (lv_at hl 0 rfl) ?_
        refine lv_if_ne (tgt := 50) hx hb dX12_isWord_43 (by decide) (fun c8 => ?_) (fun c8 => ?_)
        · exact absurd rfl c8
        · skip
          refine lv_iload_n hx hb dX12_isWord_46 rfl (lv_at hl 4 rfl) ?_
          refine lv_goto (tgt := 95) hx hb dX12_isWord_47 (by decide) ?_
          refine lv_icmp_ne (tgt := 102) hx hb dX12_isWord_95 (by decide) (fun c9 => ?_) (fun c9 => ?_)
          · have fc9 := z_ne (rfl : (v7).toInt = _) (by decide : (108 : Int32).toInt = 108) c9
            refine lv_iconst (v := 0) hx hb dX12_isWord_102 (by decide) ?_
            refine lv_istore (lv' := [(8, .int 0), (9, .int 0), (0, .ref h), (1, .int 5), (2, .int 108), (3, .int 111), (4, .int 111), (5, .int 107), (6, .int 115), (7, .int 0)]) hx hb dX12_isWord_103 hl (by decide) rfl (fun ls hl => ?_)
            refine lv_iinc (v := 1) (lv' := [(9, .int 1), (8, .int 0), (0, .ref h), (1, .int 5), (2, .int 108), (3, .int 111), (4, .int 111), (5, .int 107), (6, .int 115), (7, .int 0)]) hx hb dX12_isWord_105 hl (k := 1) rfl (by decide) (by decide) rfl (fun ls hl => ?_)
            refine lv_goto (tgt := 18) hx hb dX12_isWord_108 (by decide) ?_
            refine lv_iload hx hb dX12_isWord_18 (lv_at hl 0 rfl) ?_
            refine lv_iload_n hx hb dX12_isWord_20 rfl (lv_at hl 3 rfl) ?_
            refine lv_icmp_ge (tgt := 111) hx hb dX12_isWord_21 (by decide) (fun c10 => ?_) (fun c10 => ?_)
            · exact absurd c10 (by decide)
            · skip
              refine lv_iload hx hb dX12_isWord_24 (lv_at hl 1 rfl) ?_
              refine lv_if_eq (tgt := 111) hx hb dX12_isWord_26 (by decide) (fun c11 => ?_) (fun c11 => ?_)
              · skip
                refine lv_iload hx hb dX12_isWord_111 (lv_at hl 1 rfl) ?_
                have : (0 : Int32).toInt = 0 := (by decide)
                exact W.zret (v := 0) hx hb hr rfl (fun t ht9 hW => ⟨0, rfl, ⟨⟨by decide, by decide⟩, (show (((0 : Int32).toInt = 1 ∧ w_looks (fun j => sg ((fa 12 32) j).toInt) ((iv 12 37) : Int32).toInt (((iv 12 37) : Int32).toInt + ((iv 12 38) : Int32).toInt)) ∨ ((0 : Int32).toInt = 0 ∧ ¬ w_looks (fun j => sg ((fa 12 32) j).toInt) ((iv 12 37) : Int32).toInt (((iv 12 37) : Int32).toInt + ((iv 12 38) : Int32).toInt))) from (by have q0 := congrArg Int32.toInt (ev7.trans (congrArg (fa 12 32) (show (v6 : Int32).toNatClampNeg = ((iv 12 37).toInt).toNat + 0 from (by show (v6 : Int32).toInt.toNat = _; omega)))); have s0 := sg_i (v7 : Int32).toInt; rw [q0] at s0; exact Or.inr ⟨by omega, fun h9 => (by have h8 : ((iv 12 37).toInt + (iv 12 38).toInt) - (iv 12 37).toInt = 5 ∧ sg (fa 12 32 (((iv 12 37).toInt).toNat + 0)).toInt = 108 ∧ sg (fa 12 32 (((iv 12 37).toInt).toNat + 1)).toInt = 111 ∧ sg (fa 12 32 (((iv 12 37).toInt).toNat + 2)).toInt = 111 ∧ sg (fa 12 32 (((iv 12 37).toInt).toNat + 3)).toInt = 107 ∧ sg (fa 12 32 (((iv 12 37).toInt).toNat + 4)).toInt = 115 := h9; have h7 := h8.2.1; clear h8 h9; omega)⟩)), (show ((0 : Int32).toInt = 0 ∨ ((iv 12 38) : Int32).toInt = 5) from by omega)⟩, ht9⟩) (fun q hq => by cases hq) dX12_isWord_113
              · exact absurd rfl c11
          · have fc9 := z_eq (rfl : (v7).toInt = _) (by decide : (108 : Int32).toInt = 108) c9
            refine lv_iconst (v := 1) hx hb dX12_isWord_98 (by decide) ?_
            refine lv_goto (tgt := 103) hx hb dX12_isWord_99 (by decide) ?_
            refine lv_istore (lv' := [(8, .int 1), (9, .int 0), (0, .ref h), (1, .int 5), (2, .int 108), (3, .int 111), (4, .int 111), (5, .int 107), (6, .int 115), (7, .int 0)]) hx hb dX12_isWord_103 hl (by decide) rfl (fun ls hl => ?_)
            refine lv_iinc (v := 1) (lv' := [(9, .int 1), (8, .int 1), (0, .ref h), (1, .int 5), (2, .int 108), (3, .int 111), (4, .int 111), (5, .int 107), (6, .int 115), (7, .int 0)]) hx hb dX12_isWord_105 hl (k := 1) rfl (by decide) (by decide) rfl (fun ls hl => ?_)
            refine lv_goto (tgt := 18) hx hb dX12_isWord_108 (by decide) ?_
            refine lv_iload hx hb dX12_isWord_18 (lv_at hl 0 rfl) ?_
            refine lv_iload_n hx hb dX12_isWord_20 rfl (lv_at hl 3 rfl) ?_
            refine lv_icmp_ge (tgt := 111) hx hb dX12_isWord_21 (by decide) (fun c12 => ?_) (fun c12 => ?_)
            · exact absurd c12 (by decide)
            · skip
              refine lv_iload hx hb dX12_isWord_24 (lv_at hl 1 rfl) ?_
              refine lv_if_eq (tgt := 111) hx hb dX12_isWord_26 (by decide) (fun c13 => ?_) (fun c13 => ?_)
              · exact absurd c13 (by decide)
              · skip
                refine lv_aload_n hx hb dX12_isWord_29 rfl (lv_at hl 2 rfl) ?_
                refine gM_12_32 hx hb ht hown hK hP m_1171 dX12_isWord_30 ?_
                refine lv_aload_n hx hb dX12_isWord_33 rfl (lv_at hl 2 rfl) ?_
                refine gM_12_37 hx hb ht hown hK hP m_1176 (v := (iv 12 37)) rfl dX12_isWord_34 ?_
                refine lv_iload hx hb dX12_isWord_37 (lv_at hl 0 rfl) ?_
                refine lv_iadd hx hb dX12_isWord_39 ?_
                refine lv_topi (fun v14 ev14 => ?_)
                have tv14 := z_add ev14 (rfl : ((iv 12 37)).toInt = _) (by decide : (1 : Int32).toInt = 1) (by omega) (by omega)
                have : 0 ≤ (v14 : Int32).toInt ∧ (v14 : Int32).toInt ≤ 199 := ⟨by omega, by omega⟩
                refine lM_12_32 hx hb hK hP (f := (fa 12 32)) rfl (vp_in_iff.mpr ⟨by omega, by omega⟩) dX12_isWord_40 ?_
                refine lv_topi (fun v15 ev15 => ?_)
                refine lv_iload hx hb dX12_isWord_41 (lv_at hl 0 rfl) ?_
                refine lv_if_ne (tgt := 50) hx hb dX12_isWord_43 (by decide) (fun c16 => ?_) (fun c16 => ?_)
                · skip
                  refine lv_iload hx hb dX12_isWord_50 (lv_at hl 0 rfl) ?_
                  refine lv_iconst (v := 1) hx hb dX12_isWord_52 (by decide) ?_
                  refine lv_icmp_ne (tgt := 60) hx hb dX12_isWord_53 (by decide) (fun c17 => ?_) (fun c17 => ?_)
                  · exact absurd rfl c17
                  · skip
                    refine lv_iload_n hx hb dX12_isWord_56 rfl (lv_at hl 5 rfl) ?_
                    refine lv_goto (tgt := 95) hx hb dX12_isWord_57 (by decide) ?_
                    refine lv_icmp_ne (tgt := 102) hx hb dX12_isWord_95 (by decide) (fun c18 => ?_) (fun c18 => ?_)
                    · have fc18 := z_ne (rfl : (v15).toInt = _) (by decide : (111 : Int32).toInt = 111) c18
                      refine lv_iconst (v := 0) hx hb dX12_isWord_102 (by decide) ?_
                      refine lv_istore (lv' := [(8, .int 0), (9, .int 1), (0, .ref h), (1, .int 5), (2, .int 108), (3, .int 111), (4, .int 111), (5, .int 107), (6, .int 115), (7, .int 0)]) hx hb dX12_isWord_103 hl (by decide) rfl (fun ls hl => ?_)
                      refine lv_iinc (v := 2) (lv' := [(9, .int 2), (8, .int 0), (0, .ref h), (1, .int 5), (2, .int 108), (3, .int 111), (4, .int 111), (5, .int 107), (6, .int 115), (7, .int 0)]) hx hb dX12_isWord_105 hl (k := 1) rfl (by decide) (by decide) rfl (fun ls hl => ?_)
                      refine lv_goto (tgt := 18) hx hb dX12_isWord_108 (by decide) ?_
                      refine lv_iload hx hb dX12_isWord_18 (lv_at hl 0 rfl) ?_
                      refine lv_iload_n hx hb dX12_isWord_20 rfl (lv_at hl 3 rfl) ?_
                      refine lv_icmp_ge (tgt := 111) hx hb dX12_isWord_21 (by decide) (fun c19 => ?_) (fun c19 => ?_)
                      · exact absurd c19 (by decide)
                      · skip
                        refine lv_iload hx hb dX12_isWord_24 (lv_at hl 1 rfl) ?_
                        refine lv_if_eq (tgt := 111) hx hb dX12_isWord_26 (by decide) (fun c20 => ?_) (fun c20 => ?_)
                        · skip
                          refine lv_iload hx hb dX12_isWord_111 (lv_at hl 1 rfl) ?_
                          have : (0 : Int32).toInt = 0 := (by decide)
                          exact W.zret (v := 0) hx hb hr rfl (fun t ht9 hW => ⟨0, rfl, ⟨⟨by decide, by decide⟩, (show (((0 : Int32).toInt = 1 ∧ w_looks (fun j => sg ((fa 12 32) j).toInt) ((iv 12 37) : Int32).toInt (((iv 12 37) : Int32).toInt + ((iv 12 38) : Int32).toInt)) ∨ ((0 : Int32).toInt = 0 ∧ ¬ w_looks (fun j => sg ((fa 12 32) j).toInt) ((iv 12 37) : Int32).toInt (((iv 12 37) : Int32).toInt + ((iv 12 38) : Int32).toInt))) from (by have q0 := congrArg Int32.toInt (ev7.trans (congrArg (fa 12 32) (show (v6 : Int32).toNatClampNeg = ((iv 12 37).toInt).toNat + 0 from (by show (v6 : Int32).toInt.toNat = _; omega)))); have s0 := sg_i (v7 : Int32).toInt; rw [q0] at s0; have q1 := congrArg Int32.toInt (ev15.trans (congrArg (fa 12 32) (show (v14 : Int32).toNatClampNeg = ((iv 12 37).toInt).toNat + 1 from (by show (v14 : Int32).toInt.toNat = _; omega)))); have s1 := sg_i (v15 : Int32).toInt; rw [q1] at s1; exact Or.inr ⟨by omega, fun h9 => (by have h8 : ((iv 12 37).toInt + (iv 12 38).toInt) - (iv 12 37).toInt = 5 ∧ sg (fa 12 32 (((iv 12 37).toInt).toNat + 0)).toInt = 108 ∧ sg (fa 12 32 (((iv 12 37).toInt).toNat + 1)).toInt = 111 ∧ sg (fa 12 32 (((iv 12 37).toInt).toNat + 2)).toInt = 111 ∧ sg (fa 12 32 (((iv 12 37).toInt).toNat + 3)).toInt = 107 ∧ sg (fa 12 32 (((iv 12 37).toInt).toNat + 4)).toInt = 115 := h9; have h7 := h8.2.2.1; clear h8 h9; omega)⟩)), (show ((0 : Int32).toInt = 0 ∨ ((iv 12 38) : Int32).toInt = 5) from by omega)⟩, ht9⟩) (fun q hq => by cases hq) dX12_isWord_113
                        · exact absurd rfl c20
                    · have fc18 := z_eq (rfl : (v15).toInt = _) (by decide : (111 : Int32).toInt = 111) c18
                      refine lv_iconst (v := 1) hx hb dX12_isWord_98 (by decide) ?_
                      refine lv_goto (tgt := 103) hx hb dX12_isWord_99 (by decide) ?_
                      refine lv_istore (lv' := [(8, .int 1), (9, .int 1), (0, .ref h), (1, .int 5), (2, .int 108), (3, .int 111), (4, .int 111), (5, .int 107), (6, .int 115), (7, .int 0)]) hx hb dX12_isWord_103 hl (by decide) rfl (fun ls hl => ?_)
                      refine lv_iinc (v := 2) (lv' := [(9, .int 2), (8, .int 1), (0, .ref h), (1, .int 5), (2, .int 108), (3, .int 111), (4, .int 111), (5, .int 107), (6, .int 115), (7, .int 0)]) hx hb dX12_isWord_105 hl (k := 1) rfl (by decide) (by decide) rfl (fun ls hl => ?_)
                      refine lv_goto (tgt := 18) hx hb dX12_isWord_108 (by decide) ?_
                      refine lv_iload hx hb dX12_isWord_18 (lv_at hl 0 rfl) ?_
                      refine lv_iload_n hx hb dX12_isWord_20 rfl (lv_at hl 3 rfl) ?_
                      refine lv_icmp_ge (tgt := 111) hx hb dX12_isWord_21 (by decide) (fun c21 => ?_) (fun c21 => ?_)
                      · exact absurd c21 (by decide)
                      · skip
                        refine lv_iload hx hb dX12_isWord_24 (lv_at hl 1 rfl) ?_
                        refine lv_if_eq (tgt := 111) hx hb dX12_isWord_26 (by decide) (fun c22 => ?_) (fun c22 => ?_)
                        · exact absurd c22 (by decide)
                        · skip
                          refine lv_aload_n hx hb dX12_isWord_29 rfl (lv_at hl 2 rfl) ?_
                          refine gM_12_32 hx hb ht hown hK hP m_1171 dX12_isWord_30 ?_
                          refine lv_aload_n hx hb dX12_isWord_33 rfl (lv_at hl 2 rfl) ?_
                          refine gM_12_37 hx hb ht hown hK hP m_1176 (v := (iv 12 37)) rfl dX12_isWord_34 ?_
                          refine lv_iload hx hb dX12_isWord_37 (lv_at hl 0 rfl) ?_
                          refine lv_iadd hx hb dX12_isWord_39 ?_
                          refine lv_topi (fun v23 ev23 => ?_)
                          have tv23 := z_add ev23 (rfl : ((iv 12 37)).toInt = _) (by decide : (2 : Int32).toInt = 2) (by omega) (by omega)
                          have : 0 ≤ (v23 : Int32).toInt ∧ (v23 : Int32).toInt ≤ 199 := ⟨by omega, by omega⟩
                          refine lM_12_32 hx hb hK hP (f := (fa 12 32)) rfl (vp_in_iff.mpr ⟨by omega, by omega⟩) dX12_isWord_40 ?_
                          refine lv_topi (fun v24 ev24 => ?_)
                          refine lv_iload hx hb dX12_isWord_41 (lv_at hl 0 rfl) ?_
                          refine lv_if_ne (tgt := 50) hx hb dX12_isWord_43 (by decide) (fun c25 => ?_) (fun c25 => ?_)
                          · skip
                            refine lv_iload hx hb dX12_isWord_50 (lv_at hl 0 rfl) ?_
                            refine lv_iconst (v := 1) hx hb dX12_isWord_52 (by decide) ?_
                            refine lv_icmp_ne (tgt := 60) hx hb dX12_isWord_53 (by decide) (fun c26 => ?_) (fun c26 => ?_)
                            · skip
                              refine lv_iload hx hb dX12_isWord_60 (lv_at hl 0 rfl) ?_
                              refine lv_iconst (v := 2) hx hb dX12_isWord_62 (by decide) ?_
                              refine lv_icmp_ne (tgt := 71) hx hb dX12_isWord_63 (by decide) (fun c27 => ?_) (fun c27 => ?_)
                              · exact absurd rfl c27
                              · skip
                                refine lv_iload hx hb dX12_isWord_66 (lv_at hl 6 rfl) ?_
                                refine lv_goto (tgt := 95) hx hb dX12_isWord_68 (by decide) ?_
                                refine lv_icmp_ne (tgt := 102) hx hb dX12_isWord_95 (by decide) (fun c28 => ?_) (fun c28 => ?_)
                                · have fc28 := z_ne (rfl : (v24).toInt = _) (by decide : (111 : Int32).toInt = 111) c28
                                  refine lv_iconst (v := 0) hx hb dX12_isWord_102 (by decide) ?_
                                  refine lv_istore (lv' := [(8, .int 0), (9, .int 2), (0, .ref h), (1, .int 5), (2, .int 108), (3, .int 111), (4, .int 111), (5, .int 107), (6, .int 115), (7, .int 0)]) hx hb dX12_isWord_103 hl (by decide) rfl (fun ls hl => ?_)
                                  refine lv_iinc (v := 3) (lv' := [(9, .int 3), (8, .int 0), (0, .ref h), (1, .int 5), (2, .int 108), (3, .int 111), (4, .int 111), (5, .int 107), (6, .int 115), (7, .int 0)]) hx hb dX12_isWord_105 hl (k := 1) rfl (by decide) (by decide) rfl (fun ls hl => ?_)
                                  refine lv_goto (tgt := 18) hx hb dX12_isWord_108 (by decide) ?_
                                  refine lv_iload hx hb dX12_isWord_18 (lv_at hl 0 rfl) ?_
                                  refine lv_iload_n hx hb dX12_isWord_20 rfl (lv_at hl 3 rfl) ?_
                                  refine lv_icmp_ge (tgt := 111) hx hb dX12_isWord_21 (by decide) (fun c29 => ?_) (fun c29 => ?_)
                                  · exact absurd c29 (by decide)
                                  · skip
                                    refine lv_iload hx hb dX12_isWord_24 (lv_at hl 1 rfl) ?_
                                    refine lv_if_eq (tgt := 111) hx hb dX12_isWord_26 (by decide) (fun c30 => ?_) (fun c30 => ?_)
                                    · skip
                                      refine lv_iload hx hb dX12_isWord_111 (lv_at hl 1 rfl) ?_
                                      have : (0 : Int32).toInt = 0 := (by decide)
                                      exact W.zret (v := 0) hx hb hr rfl (fun t ht9 hW => ⟨0, rfl, ⟨⟨by decide, by decide⟩, (show (((0 : Int32).toInt = 1 ∧ w_looks (fun j => sg ((fa 12 32) j).toInt) ((iv 12 37) : Int32).toInt (((iv 12 37) : Int32).toInt + ((iv 12 38) : Int32).toInt)) ∨ ((0 : Int32).toInt = 0 ∧ ¬ w_looks (fun j => sg ((fa 12 32) j).toInt) ((iv 12 37) : Int32).toInt (((iv 12 37) : Int32).toInt + ((iv 12 38) : Int32).toInt))) from (by have q0 := congrArg Int32.toInt (ev7.trans (congrArg (fa 12 32) (show (v6 : Int32).toNatClampNeg = ((iv 12 37).toInt).toNat + 0 from (by show (v6 : Int32).toInt.toNat = _; omega)))); have s0 := sg_i (v7 : Int32).toInt; rw [q0] at s0; have q1 := congrArg Int32.toInt (ev15.trans (congrArg (fa 12 32) (show (v14 : Int32).toNatClampNeg = ((iv 12 37).toInt).toNat + 1 from (by show (v14 : Int32).toInt.toNat = _; omega)))); have s1 := sg_i (v15 : Int32).toInt; rw [q1] at s1; have q2 := congrArg Int32.toInt (ev24.trans (congrArg (fa 12 32) (show (v23 : Int32).toNatClampNeg = ((iv 12 37).toInt).toNat + 2 from (by show (v23 : Int32).toInt.toNat = _; omega)))); have s2 := sg_i (v24 : Int32).toInt; rw [q2] at s2; exact Or.inr ⟨by omega, fun h9 => (by have h8 : ((iv 12 37).toInt + (iv 12 38).toInt) - (iv 12 37).toInt = 5 ∧ sg (fa 12 32 (((iv 12 37).toInt).toNat + 0)).toInt = 108 ∧ sg (fa 12 32 (((iv 12 37).toInt).toNat + 1)).toInt = 111 ∧ sg (fa 12 32 (((iv 12 37).toInt).toNat + 2)).toInt = 111 ∧ sg (fa 12 32 (((iv 12 37).toInt).toNat + 3)).toInt = 107 ∧ sg (fa 12 32 (((iv 12 37).toInt).toNat + 4)).toInt = 115 := h9; have h7 := h8.2.2.2.1; clear h8 h9; omega)⟩)), (show ((0 : Int32).toInt = 0 ∨ ((iv 12 38) : Int32).toInt = 5) from by omega)⟩, ht9⟩) (fun q hq => by cases hq) dX12_isWord_113
                                    · exact absurd rfl c30
                                · have fc28 := z_eq (rfl : (v24).toInt = _) (by decide : (111 : Int32).toInt = 111) c28
                                  refine lv_iconst (v := 1) hx hb dX12_isWord_98 (by decide) ?_
                                  refine lv_goto (tgt := 103) hx hb dX12_isWord_99 (by decide) ?_
                                  refine lv_istore (lv' := [(8, .int 1), (9, .int 2), (0, .ref h), (1, .int 5), (2, .int 108), (3, .int 111), (4, .int 111), (5, .int 107), (6, .int 115), (7, .int 0)]) hx hb dX12_isWord_103 hl (by decide) rfl (fun ls hl => ?_)
                                  refine lv_iinc (v := 3) (lv' := [(9, .int 3), (8, .int 1), (0, .ref h), (1, .int 5), (2, .int 108), (3, .int 111), (4, .int 111), (5, .int 107), (6, .int 115), (7, .int 0)]) hx hb dX12_isWord_105 hl (k := 1) rfl (by decide) (by decide) rfl (fun ls hl => ?_)
                                  refine lv_goto (tgt := 18) hx hb dX12_isWord_108 (by decide) ?_
                                  refine lv_iload hx hb dX12_isWord_18 (lv_at hl 0 rfl) ?_
                                  refine lv_iload_n hx hb dX12_isWord_20 rfl (lv_at hl 3 rfl) ?_
                                  refine lv_icmp_ge (tgt := 111) hx hb dX12_isWord_21 (by decide) (fun c31 => ?_) (fun c31 => ?_)
                                  · exact absurd c31 (by decide)
                                  · skip
                                    refine lv_iload hx hb dX12_isWord_24 (lv_at hl 1 rfl) ?_
                                    refine lv_if_eq (tgt := 111) hx hb dX12_isWord_26 (by decide) (fun c32 => ?_) (fun c32 => ?_)
                                    · exact absurd c32 (by decide)
                                    · skip
                                      refine lv_aload_n hx hb dX12_isWord_29 rfl (lv_at hl 2 rfl) ?_
                                      refine gM_12_32 hx hb ht hown hK hP m_1171 dX12_isWord_30 ?_
                                      refine lv_aload_n hx hb dX12_isWord_33 rfl (lv_at hl 2 rfl) ?_
                                      refine gM_12_37 hx hb ht hown hK hP m_1176 (v := (iv 12 37)) rfl dX12_isWord_34 ?_
                                      refine lv_iload hx hb dX12_isWord_37 (lv_at hl 0 rfl) ?_
                                      refine lv_iadd hx hb dX12_isWord_39 ?_
                                      refine lv_topi (fun v33 ev33 => ?_)
                                      have tv33 := z_add ev33 (rfl : ((iv 12 37)).toInt = _) (by decide : (3 : Int32).toInt = 3) (by omega) (by omega)
                                      have : 0 ≤ (v33 : Int32).toInt ∧ (v33 : Int32).toInt ≤ 199 := ⟨by omega, by omega⟩
                                      refine lM_12_32 hx hb hK hP (f := (fa 12 32)) rfl (vp_in_iff.mpr ⟨by omega, by omega⟩) dX12_isWord_40 ?_
                                      refine lv_topi (fun v34 ev34 => ?_)
                                      refine lv_iload hx hb dX12_isWord_41 (lv_at hl 0 rfl) ?_
                                      refine lv_if_ne (tgt := 50) hx hb dX12_isWord_43 (by decide) (fun c35 => ?_) (fun c35 => ?_)
                                      · skip
                                        refine lv_iload hx hb dX12_isWord_50 (lv_at hl 0 rfl) ?_
                                        refine lv_iconst (v := 1) hx hb dX12_isWord_52 (by decide) ?_
                                        refine lv_icmp_ne (tgt := 60) hx hb dX12_isWord_53 (by decide) (fun c36 => ?_) (fun c36 => ?_)
                                        · skip
                                          refine lv_iload hx hb dX12_isWord_60 (lv_at hl 0 rfl) ?_
                                          refine lv_iconst (v := 2) hx hb dX12_isWord_62 (by decide) ?_
                                          refine lv_icmp_ne (tgt := 71) hx hb dX12_isWord_63 (by decide) (fun c37 => ?_) (fun c37 => ?_)
                                          · skip
                                            refine lv_iload hx hb dX12_isWord_71 (lv_at hl 0 rfl) ?_
                                            refine lv_iconst (v := 3) hx hb dX12_isWord_73 (by decide) ?_
                                            refine lv_icmp_ne (tgt := 82) hx hb dX12_isWord_74 (by decide) (fun c38 => ?_) (fun c38 => ?_)
                                            · exact absurd rfl c38
                                            · skip
                                              refine lv_iload hx hb dX12_isWord_77 (lv_at hl 7 rfl) ?_
                                              refine lv_goto (tgt := 95) hx hb dX12_isWord_79 (by decide) ?_
                                              refine lv_icmp_ne (tgt := 102) hx hb dX12_isWord_95 (by decide) (fun c39 => ?_) (fun c39 => ?_)
                                              · have fc39 := z_ne (rfl : (v34).toInt = _) (by decide : (107 : Int32).toInt = 107) c39
                                                refine lv_iconst (v := 0) hx hb dX12_isWord_102 (by decide) ?_
                                                refine lv_istore (lv' := [(8, .int 0), (9, .int 3), (0, .ref h), (1, .int 5), (2, .int 108), (3, .int 111), (4, .int 111), (5, .int 107), (6, .int 115), (7, .int 0)]) hx hb dX12_isWord_103 hl (by decide) rfl (fun ls hl => ?_)
                                                refine lv_iinc (v := 4) (lv' := [(9, .int 4), (8, .int 0), (0, .ref h), (1, .int 5), (2, .int 108), (3, .int 111), (4, .int 111), (5, .int 107), (6, .int 115), (7, .int 0)]) hx hb dX12_isWord_105 hl (k := 1) rfl (by decide) (by decide) rfl (fun ls hl => ?_)
                                                refine lv_goto (tgt := 18) hx hb dX12_isWord_108 (by decide) ?_
                                                refine lv_iload hx hb dX12_isWord_18 (lv_at hl 0 rfl) ?_
                                                refine lv_iload_n hx hb dX12_isWord_20 rfl (lv_at hl 3 rfl) ?_
                                                refine lv_icmp_ge (tgt := 111) hx hb dX12_isWord_21 (by decide) (fun c40 => ?_) (fun c40 => ?_)
                                                · exact absurd c40 (by decide)
                                                · skip
                                                  refine lv_iload hx hb dX12_isWord_24 (lv_at hl 1 rfl) ?_
                                                  refine lv_if_eq (tgt := 111) hx hb dX12_isWord_26 (by decide) (fun c41 => ?_) (fun c41 => ?_)
                                                  · skip
                                                    refine lv_iload hx hb dX12_isWord_111 (lv_at hl 1 rfl) ?_
                                                    have : (0 : Int32).toInt = 0 := (by decide)
                                                    exact W.zret (v := 0) hx hb hr rfl (fun t ht9 hW => ⟨0, rfl, ⟨⟨by decide, by decide⟩, (show (((0 : Int32).toInt = 1 ∧ w_looks (fun j => sg ((fa 12 32) j).toInt) ((iv 12 37) : Int32).toInt (((iv 12 37) : Int32).toInt + ((iv 12 38) : Int32).toInt)) ∨ ((0 : Int32).toInt = 0 ∧ ¬ w_looks (fun j => sg ((fa 12 32) j).toInt) ((iv 12 37) : Int32).toInt (((iv 12 37) : Int32).toInt + ((iv 12 38) : Int32).toInt))) from (by have q0 := congrArg Int32.toInt (ev7.trans (congrArg (fa 12 32) (show (v6 : Int32).toNatClampNeg = ((iv 12 37).toInt).toNat + 0 from (by show (v6 : Int32).toInt.toNat = _; omega)))); have s0 := sg_i (v7 : Int32).toInt; rw [q0] at s0; have q1 := congrArg Int32.toInt (ev15.trans (congrArg (fa 12 32) (show (v14 : Int32).toNatClampNeg = ((iv 12 37).toInt).toNat + 1 from (by show (v14 : Int32).toInt.toNat = _; omega)))); have s1 := sg_i (v15 : Int32).toInt; rw [q1] at s1; have q2 := congrArg Int32.toInt (ev24.trans (congrArg (fa 12 32) (show (v23 : Int32).toNatClampNeg = ((iv 12 37).toInt).toNat + 2 from (by show (v23 : Int32).toInt.toNat = _; omega)))); have s2 := sg_i (v24 : Int32).toInt; rw [q2] at s2; have q3 := congrArg Int32.toInt (ev34.trans (congrArg (fa 12 32) (show (v33 : Int32).toNatClampNeg = ((iv 12 37).toInt).toNat + 3 from (by show (v33 : Int32).toInt.toNat = _; omega)))); have s3 := sg_i (v34 : Int32).toInt; rw [q3] at s3; exact Or.inr ⟨by omega, fun h9 => (by have h8 : ((iv 12 37).toInt + (iv 12 38).toInt) - (iv 12 37).toInt = 5 ∧ sg (fa 12 32 (((iv 12 37).toInt).toNat + 0)).toInt = 108 ∧ sg (fa 12 32 (((iv 12 37).toInt).toNat + 1)).toInt = 111 ∧ sg (fa 12 32 (((iv 12 37).toInt).toNat + 2)).toInt = 111 ∧ sg (fa 12 32 (((iv 12 37).toInt).toNat + 3)).toInt = 107 ∧ sg (fa 12 32 (((iv 12 37).toInt).toNat + 4)).toInt = 115 := h9; have h7 := h8.2.2.2.2.1; clear h8 h9; omega)⟩)), (show ((0 : Int32).toInt = 0 ∨ ((iv 12 38) : Int32).toInt = 5) from by omega)⟩, ht9⟩) (fun q hq => by cases hq) dX12_isWord_113
                                                  · exact absurd rfl c41
                                              · have fc39 := z_eq (rfl : (v34).toInt = _) (by decide : (107 : Int32).toInt = 107) c39
                                                refine lv_iconst (v := 1) hx hb dX12_isWord_98 (by decide) ?_
                                                refine lv_goto (tgt := 103) hx hb dX12_isWord_99 (by decide) ?_
                                                refine lv_istore (lv' := [(8, .int 1), (9, .int 3), (0, .ref h), (1, .int 5), (2, .int 108), (3, .int 111), (4, .int 111), (5, .int 107), (6, .int 115), (7, .int 0)]) hx hb dX12_isWord_103 hl (by decide) rfl (fun ls hl => ?_)
                                                refine lv_iinc (v := 4) (lv' := [(9, .int 4), (8, .int 1), (0, .ref h), (1, .int 5), (2, .int 108), (3, .int 111), (4, .int 111), (5, .int 107), (6, .int 115), (7, .int 0)]) hx hb dX12_isWord_105 hl (k := 1) rfl (by decide) (by decide) rfl (fun ls hl => ?_)
                                                refine lv_goto (tgt := 18) hx hb dX12_isWord_108 (by decide) ?_
                                                refine lv_iload hx hb dX12_isWord_18 (lv_at hl 0 rfl) ?_
                                                refine lv_iload_n hx hb dX12_isWord_20 rfl (lv_at hl 3 rfl) ?_
                                                refine lv_icmp_ge (tgt := 111) hx hb dX12_isWord_21 (by decide) (fun c42 => ?_) (fun c42 => ?_)
                                                · exact absurd c42 (by decide)
                                                · skip
                                                  refine lv_iload hx hb dX12_isWord_24 (lv_at hl 1 rfl) ?_
                                                  refine lv_if_eq (tgt := 111) hx hb dX12_isWord_26 (by decide) (fun c43 => ?_) (fun c43 => ?_)
                                                  · exact absurd c43 (by decide)
                                                  · skip
                                                    refine lv_aload_n hx hb dX12_isWord_29 rfl (lv_at hl 2 rfl) ?_
                                                    refine gM_12_32 hx hb ht hown hK hP m_1171 dX12_isWord_30 ?_
                                                    refine lv_aload_n hx hb dX12_isWord_33 rfl (lv_at hl 2 rfl) ?_
                                                    refine gM_12_37 hx hb ht hown hK hP m_1176 (v := (iv 12 37)) rfl dX12_isWord_34 ?_
                                                    refine lv_iload hx hb dX12_isWord_37 (lv_at hl 0 rfl) ?_
                                                    refine lv_iadd hx hb dX12_isWord_39 ?_
                                                    refine lv_topi (fun v44 ev44 => ?_)
                                                    have tv44 := z_add ev44 (rfl : ((iv 12 37)).toInt = _) (by decide : (4 : Int32).toInt = 4) (by omega) (by omega)
                                                    have : 0 ≤ (v44 : Int32).toInt ∧ (v44 : Int32).toInt ≤ 199 := ⟨by omega, by omega⟩
                                                    refine lM_12_32 hx hb hK hP (f := (fa 12 32)) rfl (vp_in_iff.mpr ⟨by omega, by omega⟩) dX12_isWord_40 ?_
                                                    refine lv_topi (fun v45 ev45 => ?_)
                                                    refine lv_iload hx hb dX12_isWord_41 (lv_at hl 0 rfl) ?_
                                                    refine lv_if_ne (tgt := 50) hx hb dX12_isWord_43 (by decide) (fun c46 => ?_) (fun c46 => ?_)
                                                    · skip
                                                      refine lv_iload hx hb dX12_isWord_50 (lv_at hl 0 rfl) ?_
                                                      refine lv_iconst (v := 1) hx hb dX12_isWord_52 (by decide) ?_
                                                      refine lv_icmp_ne (tgt := 60) hx hb dX12_isWord_53 (by decide) (fun c47 => ?_) (fun c47 => ?_)
                                                      · skip
                                                        refine lv_iload hx hb dX12_isWord_60 (lv_at hl 0 rfl) ?_
                                                        refine lv_iconst (v := 2) hx hb dX12_isWord_62 (by decide) ?_
                                                        refine lv_icmp_ne (tgt := 71) hx hb dX12_isWord_63 (by decide) (fun c48 => ?_) (fun c48 => ?_)
                                                        · skip
                                                          refine lv_iload hx hb dX12_isWord_71 (lv_at hl 0 rfl) ?_
                                                          refine lv_iconst (v := 3) hx hb dX12_isWord_73 (by decide) ?_
                                                          refine lv_icmp_ne (tgt := 82) hx hb dX12_isWord_74 (by decide) (fun c49 => ?_) (fun c49 => ?_)
                                                          · skip
                                                            refine lv_iload hx hb dX12_isWord_82 (lv_at hl 0 rfl) ?_
                                                            refine lv_iconst (v := 4) hx hb dX12_isWord_84 (by decide) ?_
                                                            refine lv_icmp_ne (tgt := 93) hx hb dX12_isWord_85 (by decide) (fun c50 => ?_) (fun c50 => ?_)
                                                            · exact absurd rfl c50
                                                            · skip
                                                              refine lv_iload hx hb dX12_isWord_88 (lv_at hl 8 rfl) ?_
                                                              refine lv_goto (tgt := 95) hx hb dX12_isWord_90 (by decide) ?_
                                                              refine lv_icmp_ne (tgt := 102) hx hb dX12_isWord_95 (by decide) (fun c51 => ?_) (fun c51 => ?_)
                                                              · have fc51 := z_ne (rfl : (v45).toInt = _) (by decide : (115 : Int32).toInt = 115) c51
                                                                refine lv_iconst (v := 0) hx hb dX12_isWord_102 (by decide) ?_
                                                                refine lv_istore (lv' := [(8, .int 0), (9, .int 4), (0, .ref h), (1, .int 5), (2, .int 108), (3, .int 111), (4, .int 111), (5, .int 107), (6, .int 115), (7, .int 0)]) hx hb dX12_isWord_103 hl (by decide) rfl (fun ls hl => ?_)
                                                                refine lv_iinc (v := 5) (lv' := [(9, .int 5), (8, .int 0), (0, .ref h), (1, .int 5), (2, .int 108), (3, .int 111), (4, .int 111), (5, .int 107), (6, .int 115), (7, .int 0)]) hx hb dX12_isWord_105 hl (k := 1) rfl (by decide) (by decide) rfl (fun ls hl => ?_)
                                                                refine lv_goto (tgt := 18) hx hb dX12_isWord_108 (by decide) ?_
                                                                refine lv_iload hx hb dX12_isWord_18 (lv_at hl 0 rfl) ?_
                                                                refine lv_iload_n hx hb dX12_isWord_20 rfl (lv_at hl 3 rfl) ?_
                                                                refine lv_icmp_ge (tgt := 111) hx hb dX12_isWord_21 (by decide) (fun c52 => ?_) (fun c52 => ?_)
                                                                · skip
                                                                  refine lv_iload hx hb dX12_isWord_111 (lv_at hl 1 rfl) ?_
                                                                  have : (0 : Int32).toInt = 0 := (by decide)
                                                                  exact W.zret (v := 0) hx hb hr rfl (fun t ht9 hW => ⟨0, rfl, ⟨⟨by decide, by decide⟩, (show (((0 : Int32).toInt = 1 ∧ w_looks (fun j => sg ((fa 12 32) j).toInt) ((iv 12 37) : Int32).toInt (((iv 12 37) : Int32).toInt + ((iv 12 38) : Int32).toInt)) ∨ ((0 : Int32).toInt = 0 ∧ ¬ w_looks (fun j => sg ((fa 12 32) j).toInt) ((iv 12 37) : Int32).toInt (((iv 12 37) : Int32).toInt + ((iv 12 38) : Int32).toInt))) from (by have q0 := congrArg Int32.toInt (ev7.trans (congrArg (fa 12 32) (show (v6 : Int32).toNatClampNeg = ((iv 12 37).toInt).toNat + 0 from (by show (v6 : Int32).toInt.toNat = _; omega)))); have s0 := sg_i (v7 : Int32).toInt; rw [q0] at s0; have q1 := congrArg Int32.toInt (ev15.trans (congrArg (fa 12 32) (show (v14 : Int32).toNatClampNeg = ((iv 12 37).toInt).toNat + 1 from (by show (v14 : Int32).toInt.toNat = _; omega)))); have s1 := sg_i (v15 : Int32).toInt; rw [q1] at s1; have q2 := congrArg Int32.toInt (ev24.trans (congrArg (fa 12 32) (show (v23 : Int32).toNatClampNeg = ((iv 12 37).toInt).toNat + 2 from (by show (v23 : Int32).toInt.toNat = _; omega)))); have s2 := sg_i (v24 : Int32).toInt; rw [q2] at s2; have q3 := congrArg Int32.toInt (ev34.trans (congrArg (fa 12 32) (show (v33 : Int32).toNatClampNeg = ((iv 12 37).toInt).toNat + 3 from (by show (v33 : Int32).toInt.toNat = _; omega)))); have s3 := sg_i (v34 : Int32).toInt; rw [q3] at s3; have q4 := congrArg Int32.toInt (ev45.trans (congrArg (fa 12 32) (show (v44 : Int32).toNatClampNeg = ((iv 12 37).toInt).toNat + 4 from (by show (v44 : Int32).toInt.toNat = _; omega)))); have s4 := sg_i (v45 : Int32).toInt; rw [q4] at s4; exact Or.inr ⟨by omega, fun h9 => (by have h8 : ((iv 12 37).toInt + (iv 12 38).toInt) - (iv 12 37).toInt = 5 ∧ sg (fa 12 32 (((iv 12 37).toInt).toNat + 0)).toInt = 108 ∧ sg (fa 12 32 (((iv 12 37).toInt).toNat + 1)).toInt = 111 ∧ sg (fa 12 32 (((iv 12 37).toInt).toNat + 2)).toInt = 111 ∧ sg (fa 12 32 (((iv 12 37).toInt).toNat + 3)).toInt = 107 ∧ sg (fa 12 32 (((iv 12 37).toInt).toNat + 4)).toInt = 115 := h9; have h7 := h8.2.2.2.2.2; clear h8 h9; omega)⟩)), (show ((0 : Int32).toInt = 0 ∨ ((iv 12 38) : Int32).toInt = 5) from by omega)⟩, ht9⟩) (fun q hq => by cases hq) dX12_isWord_113
                                                                · exact absurd c52 (by decide)
                                                              · have fc51 := z_eq (rfl : (v45).toInt = _) (by decide : (115 : Int32).toInt = 115) c51
                                                                refine lv_iconst (v := 1) hx hb dX12_isWord_98 (by decide) ?_
                                                                refine lv_goto (tgt := 103) hx hb dX12_isWord_99 (by decide) ?_
                                                                refine lv_istore (lv' := [(8, .int 1), (9, .int 4), (0, .ref h), (1, .int 5), (2, .int 108), (3, .int 111), (4, .int 111), (5, .int 107), (6, .int 115), (7, .int 0)]) hx hb dX12_isWord_103 hl (by decide) rfl (fun ls hl => ?_)
                                                                refine lv_iinc (v := 5) (lv' := [(9, .int 5), (8, .int 1), (0, .ref h), (1, .int 5), (2, .int 108), (3, .int 111), (4, .int 111), (5, .int 107), (6, .int 115), (7, .int 0)]) hx hb dX12_isWord_105 hl (k := 1) rfl (by decide) (by decide) rfl (fun ls hl => ?_)
                                                                refine lv_goto (tgt := 18) hx hb dX12_isWord_108 (by decide) ?_
                                                                refine lv_iload hx hb dX12_isWord_18 (lv_at hl 0 rfl) ?_
                                                                refine lv_iload_n hx hb dX12_isWord_20 rfl (lv_at hl 3 rfl) ?_
                                                                refine lv_icmp_ge (tgt := 111) hx hb dX12_isWord_21 (by decide) (fun c53 => ?_) (fun c53 => ?_)
                                                                · skip
                                                                  refine lv_iload hx hb dX12_isWord_111 (lv_at hl 1 rfl) ?_
                                                                  have : (1 : Int32).toInt = 1 := (by decide)
                                                                  exact W.zret (v := 1) hx hb hr rfl (fun t ht9 hW => ⟨1, rfl, ⟨⟨by decide, by decide⟩, (show (((1 : Int32).toInt = 1 ∧ w_looks (fun j => sg ((fa 12 32) j).toInt) ((iv 12 37) : Int32).toInt (((iv 12 37) : Int32).toInt + ((iv 12 38) : Int32).toInt)) ∨ ((1 : Int32).toInt = 0 ∧ ¬ w_looks (fun j => sg ((fa 12 32) j).toInt) ((iv 12 37) : Int32).toInt (((iv 12 37) : Int32).toInt + ((iv 12 38) : Int32).toInt))) from (by have q0 := congrArg Int32.toInt (ev7.trans (congrArg (fa 12 32) (show (v6 : Int32).toNatClampNeg = ((iv 12 37).toInt).toNat + 0 from (by show (v6 : Int32).toInt.toNat = _; omega)))); have s0 := sg_i (v7 : Int32).toInt; rw [q0] at s0; have q1 := congrArg Int32.toInt (ev15.trans (congrArg (fa 12 32) (show (v14 : Int32).toNatClampNeg = ((iv 12 37).toInt).toNat + 1 from (by show (v14 : Int32).toInt.toNat = _; omega)))); have s1 := sg_i (v15 : Int32).toInt; rw [q1] at s1; have q2 := congrArg Int32.toInt (ev24.trans (congrArg (fa 12 32) (show (v23 : Int32).toNatClampNeg = ((iv 12 37).toInt).toNat + 2 from (by show (v23 : Int32).toInt.toNat = _; omega)))); have s2 := sg_i (v24 : Int32).toInt; rw [q2] at s2; have q3 := congrArg Int32.toInt (ev34.trans (congrArg (fa 12 32) (show (v33 : Int32).toNatClampNeg = ((iv 12 37).toInt).toNat + 3 from (by show (v33 : Int32).toInt.toNat = _; omega)))); have s3 := sg_i (v34 : Int32).toInt; rw [q3] at s3; have q4 := congrArg Int32.toInt (ev45.trans (congrArg (fa 12 32) (show (v44 : Int32).toNatClampNeg = ((iv 12 37).toInt).toNat + 4 from (by show (v44 : Int32).toInt.toNat = _; omega)))); have s4 := sg_i (v45 : Int32).toInt; rw [q4] at s4; exact Or.inl ⟨by omega, (show ((iv 12 37).toInt + (iv 12 38).toInt) - (iv 12 37).toInt = 5 ∧ sg (fa 12 32 (((iv 12 37).toInt).toNat + 0)).toInt = 108 ∧ sg (fa 12 32 (((iv 12 37).toInt).toNat + 1)).toInt = 111 ∧ sg (fa 12 32 (((iv 12 37).toInt).toNat + 2)).toInt = 111 ∧ sg (fa 12 32 (((iv 12 37).toInt).toNat + 3)).toInt = 107 ∧ sg (fa 12 32 (((iv 12 37).toInt).toNat + 4)).toInt = 115 from ⟨by omega, by omega, by omega, by omega, by omega, by omega⟩)⟩)), (show ((1 : Int32).toInt = 0 ∨ ((iv 12 38) : Int32).toInt = 5) from by omega)⟩, ht9⟩) (fun q hq => by cases hq) dX12_isWord_113
                                                                · exact absurd c53 (by decide)
                                                          · exact absurd c49 (by decide)
                                                        · exact absurd c48 (by decide)
                                                      · exact absurd c47 (by decide)
                                                    · exact absurd c46 (by decide)
                                          · exact absurd c37 (by decide)
                                        · exact absurd c36 (by decide)
                                      · exact absurd c35 (by decide)
                            · exact absurd c26 (by decide)
                          · exact absurd c25 (by decide)
                · exact absurd c16 (by decide)
set_option maxHeartbeats 4000000 in
set_option maxRecDepth 100000 in
/-- X12_isWord -/
theorem c_X12_isWord_r_fee (l : Launch) (dC : Nat → ClassId) (dI : Nat → Nat → Nat) (h : Nat) (g : Nat → Nat → Nat) (ca : Nat → Nat → ClassId) (iv : Nat → Nat → Int32) (lv : Nat → Nat → Int64) (fa : Nat → Nat → Nat → Int32) (la : Nat → Nat → Nat → Int64) (hI : IX iv fa) (p_0 : (iv 12 37).toInt + (iv 12 38).toInt ≤ 200) : Met l yX12_isWord (wc yX12_isWord cX12_isWord 10 (some .boolean)) ({ frames := 0, cells := 0, slots := 0, locals := 0 } : Room) (pR (dC, dI) classes (WM h g ca iv lv fa la) (TM ca) [.ref h, .int 3, .int 102, .int 101, .int 101, .int 0, .int 0, .int 0]) (vp_Si (fun r => (0 ≤ r.toInt ∧ r.toInt ≤ 1) ∧ (((r.toInt = 1 ∧ w_fee (fun j => sg ((fa 12 32) j).toInt) (iv 12 37).toInt ((iv 12 37).toInt + (iv 12 38).toInt)) ∨ (r.toInt = 0 ∧ ¬ w_fee (fun j => sg ((fa 12 32) j).toInt) (iv 12 37).toInt ((iv 12 37).toInt + (iv 12 38).toInt)))) ∧ ((r.toInt = 0 ∨ (iv 12 38).toInt = 3)))) 0 0 (fun _ => False) := by
  refine Met.ofW (cc := cX12_isWord) (maxL := 10) (ret := (some .boolean)) (by decide) rfl ?_
  intro p e s m args below meth c s₁ B hml hv
  obtain ⟨rfl, hP, hK⟩ := hv
  have hx := B.exec
  have hb := B.bytes
  have hr := B.returns
  have ht := tb_tl (atoms_spec (ws := wc yX12_isWord cX12_isWord 10 (some .boolean)) B.pre)
  have hown : s.vm.findClass RX12 = some m.cls := findClass_of_methodNamed B.named
  have hlocks := B.notSynchronized
  have hl := lv_entry [.ref h, .int 3, .int 102, .int 101, .int 101, .int 0, .int 0, .int 0] (n := 10) (Nat.le_of_ble_eq_true rfl)
  rw [lg_entry_eq]
  generalize (lg_sl [.ref h, .int 3, .int 102, .int 101, .int 101, .int 0, .int 0, .int 0] ++ List.replicate (10 - (lg_sl [.ref h, .int 3, .int 102, .int 101, .int 101, .int 0, .int 0, .int 0]).length) Slot.unset).toArray = ls at hl ⊢
  have hl : lv_has ls 10 [(0, .ref h), (1, .int 3), (2, .int 102), (3, .int 101), (4, .int 101), (5, .int 0), (6, .int 0), (7, .int 0)] := hl
  refine lv_aload_n hx hb dX12_isWord_0 rfl (lv_at hl 0 rfl) ?_
  have i_12_38 : 0 ≤ (iv 12 38).toInt ∧ (iv 12 38).toInt ≤ 200 := hI.1 12 38
  refine gM_12_38 hx hb ht hown hK hP m_1177 (v := (iv 12 38)) rfl dX12_isWord_1 ?_
  refine lv_iload_n hx hb dX12_isWord_4 rfl (lv_at hl 1 rfl) ?_
  refine lv_icmp_ne (tgt := 12) hx hb dX12_isWord_5 (by decide) (fun c1 => ?_) (fun c1 => ?_)
  · have fc1 := z_ne (rfl : ((iv 12 38)).toInt = _) (by decide : (3 : Int32).toInt = 3) c1
    refine lv_iconst (v := 0) hx hb dX12_isWord_12 (by decide) ?_
    refine lv_istore (lv' := [(8, .int 0), (0, .ref h), (1, .int 3), (2, .int 102), (3, .int 101), (4, .int 101), (5, .int 0), (6, .int 0), (7, .int 0)]) hx hb dX12_isWord_13 hl (by decide) rfl (fun ls hl => ?_)
    refine lv_iconst (v := 0) hx hb dX12_isWord_15 (by decide) ?_
    refine lv_istore (lv' := [(9, .int 0), (8, .int 0), (0, .ref h), (1, .int 3), (2, .int 102), (3, .int 101), (4, .int 101), (5, .int 0), (6, .int 0), (7, .int 0)]) hx hb dX12_isWord_16 hl (by decide) rfl (fun ls hl => ?_)
    refine lv_iload hx hb dX12_isWord_18 (lv_at hl 0 rfl) ?_
    refine lv_iload_n hx hb dX12_isWord_20 rfl (lv_at hl 3 rfl) ?_
    refine lv_icmp_ge (tgt := 111) hx hb dX12_isWord_21 (by decide) (fun c2 => ?_) (fun c2 => ?_)
    · exact absurd c2 (by decide)
    · skip
      refine lv_iload hx hb dX12_isWord_24 (lv_at hl 1 rfl) ?_
      refine lv_if_eq (tgt := 111) hx hb dX12_isWord_26 (by decide) (fun c3 => ?_) (fun c3 => ?_)
      · skip
        refine lv_iload hx hb dX12_isWord_111 (lv_at hl 1 rfl) ?_
        have : (0 : Int32).toInt = 0 := (by decide)
        have i_12_37 : 0 ≤ (iv 12 37).toInt ∧ (iv 12 37).toInt ≤ 200 := hI.1 12 37
        exact W.zret (v := 0) hx hb hr rfl (fun t ht9 hW => ⟨0, rfl, ⟨⟨by decide, by decide⟩, (show (((0 : Int32).toInt = 1 ∧ w_fee (fun j => sg ((fa 12 32) j).toInt) ((iv 12 37) : Int32).toInt (((iv 12 37) : Int32).toInt + ((iv 12 38) : Int32).toInt)) ∨ ((0 : Int32).toInt = 0 ∧ ¬ w_fee (fun j => sg ((fa 12 32) j).toInt) ((iv 12 37) : Int32).toInt (((iv 12 37) : Int32).toInt + ((iv 12 38) : Int32).toInt))) from (by exact Or.inr ⟨by omega, fun h9 => (by have h8 : ((iv 12 37).toInt + (iv 12 38).toInt) - (iv 12 37).toInt = 3 ∧ sg (fa 12 32 (((iv 12 37).toInt).toNat + 0)).toInt = 102 ∧ sg (fa 12 32 (((iv 12 37).toInt).toNat + 1)).toInt = 101 ∧ sg (fa 12 32 (((iv 12 37).toInt).toNat + 2)).toInt = 101 := h9; have h7 := h8.1; omega)⟩)), (show ((0 : Int32).toInt = 0 ∨ ((iv 12 38) : Int32).toInt = 3) from by omega)⟩, ht9⟩) (fun q hq => by cases hq) dX12_isWord_113
      · exact absurd rfl c3
  · have fc1 := z_eq (rfl : ((iv 12 38)).toInt = _) (by decide : (3 : Int32).toInt = 3) c1
    refine lv_iconst (v := 1) hx hb dX12_isWord_8 (by decide) ?_
    refine lv_goto (tgt := 13) hx hb dX12_isWord_9 (by decide) ?_
    refine lv_istore (lv' := [(8, .int 1), (0, .ref h), (1, .int 3), (2, .int 102), (3, .int 101), (4, .int 101), (5, .int 0), (6, .int 0), (7, .int 0)]) hx hb dX12_isWord_13 hl (by decide) rfl (fun ls hl => ?_)
    refine lv_iconst (v := 0) hx hb dX12_isWord_15 (by decide) ?_
    refine lv_istore (lv' := [(9, .int 0), (8, .int 1), (0, .ref h), (1, .int 3), (2, .int 102), (3, .int 101), (4, .int 101), (5, .int 0), (6, .int 0), (7, .int 0)]) hx hb dX12_isWord_16 hl (by decide) rfl (fun ls hl => ?_)
    refine lv_iload hx hb dX12_isWord_18 (lv_at hl 0 rfl) ?_
    refine lv_iload_n hx hb dX12_isWord_20 rfl (lv_at hl 3 rfl) ?_
    refine lv_icmp_ge (tgt := 111) hx hb dX12_isWord_21 (by decide) (fun c4 => ?_) (fun c4 => ?_)
    · exact absurd c4 (by decide)
    · skip
      refine lv_iload hx hb dX12_isWord_24 (lv_at hl 1 rfl) ?_
      refine lv_if_eq (tgt := 111) hx hb dX12_isWord_26 (by decide) (fun c5 => ?_) (fun c5 => ?_)
      · exact absurd c5 (by decide)
      · skip
        refine lv_aload_n hx hb dX12_isWord_29 rfl (lv_at hl 2 rfl) ?_
        refine gM_12_32 hx hb ht hown hK hP m_1171 dX12_isWord_30 ?_
        refine lv_aload_n hx hb dX12_isWord_33 rfl (lv_at hl 2 rfl) ?_
        have i_12_37 : 0 ≤ (iv 12 37).toInt ∧ (iv 12 37).toInt ≤ 200 := hI.1 12 37
        refine gM_12_37 hx hb ht hown hK hP m_1176 (v := (iv 12 37)) rfl dX12_isWord_34 ?_
        refine lv_iload hx hb dX12_isWord_37 (lv_at hl 0 rfl) ?_
        refine lv_iadd hx hb dX12_isWord_39 ?_
        refine lv_topi (fun v6 ev6 => ?_)
        have tv6 := z_add ev6 (rfl : ((iv 12 37)).toInt = _) (by decide : (0 : Int32).toInt = 0) (by omega) (by omega)
        have : 0 ≤ (v6 : Int32).toInt ∧ (v6 : Int32).toInt ≤ 199 := ⟨by omega, by omega⟩
        refine lM_12_32 hx hb hK hP (f := (fa 12 32)) rfl (vp_in_iff.mpr ⟨by omega, by omega⟩) dX12_isWord_40 ?_
        refine lv_topi (fun v7 ev7 => ?_)
        refine lv_iload hx hb dX12_isWord_41 (lv_at hl 0 rfl) ?_
        refine lv_if_ne (tgt := 50) hx hb dX12_isWord_43 (by decide) (fun c8 => ?_) (fun c8 => ?_)
        · exact absurd rfl c8
        · skip
          refine lv_iload_n hx hb dX12_isWord_46 rfl (lv_at hl 4 rfl) ?_
          refine lv_goto (tgt := 95) hx hb dX12_isWord_47 (by decide) ?_
          refine lv_icmp_ne (tgt := 102) hx hb dX12_isWord_95 (by decide) (fun c9 => ?_) (fun c9 => ?_)
          · have fc9 := z_ne (rfl : (v7).toInt = _) (by decide : (102 : Int32).toInt = 102) c9
            refine lv_iconst (v := 0) hx hb dX12_isWord_102 (by decide) ?_
            refine lv_istore (lv' := [(8, .int 0), (9, .int 0), (0, .ref h), (1, .int 3), (2, .int 102), (3, .int 101), (4, .int 101), (5, .int 0), (6, .int 0), (7, .int 0)]) hx hb dX12_isWord_103 hl (by decide) rfl (fun ls hl => ?_)
            refine lv_iinc (v := 1) (lv' := [(9, .int 1), (8, .int 0), (0, .ref h), (1, .int 3), (2, .int 102), (3, .int 101), (4, .int 101), (5, .int 0), (6, .int 0), (7, .int 0)]) hx hb dX12_isWord_105 hl (k := 1) rfl (by decide) (by decide) rfl (fun ls hl => ?_)
            refine lv_goto (tgt := 18) hx hb dX12_isWord_108 (by decide) ?_
            refine lv_iload hx hb dX12_isWord_18 (lv_at hl 0 rfl) ?_
            refine lv_iload_n hx hb dX12_isWord_20 rfl (lv_at hl 3 rfl) ?_
            refine lv_icmp_ge (tgt := 111) hx hb dX12_isWord_21 (by decide) (fun c10 => ?_) (fun c10 => ?_)
            · exact absurd c10 (by decide)
            · skip
              refine lv_iload hx hb dX12_isWord_24 (lv_at hl 1 rfl) ?_
              refine lv_if_eq (tgt := 111) hx hb dX12_isWord_26 (by decide) (fun c11 => ?_) (fun c11 => ?_)
              · skip
                refine lv_iload hx hb dX12_isWord_111 (lv_at hl 1 rfl) ?_
                have : (0 : Int32).toInt = 0 := (by decide)
                exact W.zret (v := 0) hx hb hr rfl (fun t ht9 hW => ⟨0, rfl, ⟨⟨by decide, by decide⟩, (show (((0 : Int32).toInt = 1 ∧ w_fee (fun j => sg ((fa 12 32) j).toInt) ((iv 12 37) : Int32).toInt (((iv 12 37) : Int32).toInt + ((iv 12 38) : Int32).toInt)) ∨ ((0 : Int32).toInt = 0 ∧ ¬ w_fee (fun j => sg ((fa 12 32) j).toInt) ((iv 12 37) : Int32).toInt (((iv 12 37) : Int32).toInt + ((iv 12 38) : Int32).toInt))) from (by have q0 := congrArg Int32.toInt (ev7.trans (congrArg (fa 12 32) (show (v6 : Int32).toNatClampNeg = ((iv 12 37).toInt).toNat + 0 from (by show (v6 : Int32).toInt.toNat = _; omega)))); have s0 := sg_i (v7 : Int32).toInt; rw [q0] at s0; exact Or.inr ⟨by omega, fun h9 => (by have h8 : ((iv 12 37).toInt + (iv 12 38).toInt) - (iv 12 37).toInt = 3 ∧ sg (fa 12 32 (((iv 12 37).toInt).toNat + 0)).toInt = 102 ∧ sg (fa 12 32 (((iv 12 37).toInt).toNat + 1)).toInt = 101 ∧ sg (fa 12 32 (((iv 12 37).toInt).toNat + 2)).toInt = 101 := h9; have h7 := h8.2.1; clear h8 h9; omega)⟩)), (show ((0 : Int32).toInt = 0 ∨ ((iv 12 38) : Int32).toInt = 3) from by omega)⟩, ht9⟩) (fun q hq => by cases hq) dX12_isWord_113
              · exact absurd rfl c11
          · have fc9 := z_eq (rfl : (v7).toInt = _) (by decide : (102 : Int32).toInt = 102) c9
            refine lv_iconst (v := 1) hx hb dX12_isWord_98 (by decide) ?_
            refine lv_goto (tgt := 103) hx hb dX12_isWord_99 (by decide) ?_
            refine lv_istore (lv' := [(8, .int 1), (9, .int 0), (0, .ref h), (1, .int 3), (2, .int 102), (3, .int 101), (4, .int 101), (5, .int 0), (6, .int 0), (7, .int 0)]) hx hb dX12_isWord_103 hl (by decide) rfl (fun ls hl => ?_)
            refine lv_iinc (v := 1) (lv' := [(9, .int 1), (8, .int 1), (0, .ref h), (1, .int 3), (2, .int 102), (3, .int 101), (4, .int 101), (5, .int 0), (6, .int 0), (7, .int 0)]) hx hb dX12_isWord_105 hl (k := 1) rfl (by decide) (by decide) rfl (fun ls hl => ?_)
            refine lv_goto (tgt := 18) hx hb dX12_isWord_108 (by decide) ?_
            refine lv_iload hx hb dX12_isWord_18 (lv_at hl 0 rfl) ?_
            refine lv_iload_n hx hb dX12_isWord_20 rfl (lv_at hl 3 rfl) ?_
            refine lv_icmp_ge (tgt := 111) hx hb dX12_isWord_21 (by decide) (fun c12 => ?_) (fun c12 => ?_)
            · exact absurd c12 (by decide)
            · skip
              refine lv_iload hx hb dX12_isWord_24 (lv_at hl 1 rfl) ?_
              refine lv_if_eq (tgt := 111) hx hb dX12_isWord_26 (by decide) (fun c13 => ?_) (fun c13 => ?_)
              · exact absurd c13 (by decide)
              · skip
                refine lv_aload_n hx hb dX12_isWord_29 rfl (lv_at hl 2 rfl) ?_
                refine gM_12_32 hx hb ht hown hK hP m_1171 dX12_isWord_30 ?_
                refine lv_aload_n hx hb dX12_isWord_33 rfl (lv_at hl 2 rfl) ?_
                refine gM_12_37 hx hb ht hown hK hP m_1176 (v := (iv 12 37)) rfl dX12_isWord_34 ?_
                refine lv_iload hx hb dX12_isWord_37 (lv_at hl 0 rfl) ?_
                refine lv_iadd hx hb dX12_isWord_39 ?_
                refine lv_topi (fun v14 ev14 => ?_)
                have tv14 := z_add ev14 (rfl : ((iv 12 37)).toInt = _) (by decide : (1 : Int32).toInt = 1) (by omega) (by omega)
                have : 0 ≤ (v14 : Int32).toInt ∧ (v14 : Int32).toInt ≤ 199 := ⟨by omega, by omega⟩
                refine lM_12_32 hx hb hK hP (f := (fa 12 32)) rfl (vp_in_iff.mpr ⟨by omega, by omega⟩) dX12_isWord_40 ?_
                refine lv_topi (fun v15 ev15 => ?_)
                refine lv_iload hx hb dX12_isWord_41 (lv_at hl 0 rfl) ?_
                refine lv_if_ne (tgt := 50) hx hb dX12_isWord_43 (by decide) (fun c16 => ?_) (fun c16 => ?_)
                · skip
                  refine lv_iload hx hb dX12_isWord_50 (lv_at hl 0 rfl) ?_
                  refine lv_iconst (v := 1) hx hb dX12_isWord_52 (by decide) ?_
                  refine lv_icmp_ne (tgt := 60) hx hb dX12_isWord_53 (by decide) (fun c17 => ?_) (fun c17 => ?_)
                  · exact absurd rfl c17
                  · skip
                    refine lv_iload_n hx hb dX12_isWord_56 rfl (lv_at hl 5 rfl) ?_
                    refine lv_goto (tgt := 95) hx hb dX12_isWord_57 (by decide) ?_
                    refine lv_icmp_ne (tgt := 102) hx hb dX12_isWord_95 (by decide) (fun c18 => ?_) (fun c18 => ?_)
                    · have fc18 := z_ne (rfl : (v15).toInt = _) (by decide : (101 : Int32).toInt = 101) c18
                      refine lv_iconst (v := 0) hx hb dX12_isWord_102 (by decide) ?_
                      refine lv_istore (lv' := [(8, .int 0), (9, .int 1), (0, .ref h), (1, .int 3), (2, .int 102), (3, .int 101), (4, .int 101), (5, .int 0), (6, .int 0), (7, .int 0)]) hx hb dX12_isWord_103 hl (by decide) rfl (fun ls hl => ?_)
                      refine lv_iinc (v := 2) (lv' := [(9, .int 2), (8, .int 0), (0, .ref h), (1, .int 3), (2, .int 102), (3, .int 101), (4, .int 101), (5, .int 0), (6, .int 0), (7, .int 0)]) hx hb dX12_isWord_105 hl (k := 1) rfl (by decide) (by decide) rfl (fun ls hl => ?_)
                      refine lv_goto (tgt := 18) hx hb dX12_isWord_108 (by decide) ?_
                      refine lv_iload hx hb dX12_isWord_18 (lv_at hl 0 rfl) ?_
                      refine lv_iload_n hx hb dX12_isWord_20 rfl (lv_at hl 3 rfl) ?_
                      refine lv_icmp_ge (tgt := 111) hx hb dX12_isWord_21 (by decide) (fun c19 => ?_) (fun c19 => ?_)
                      · exact absurd c19 (by decide)
                      · skip
                        refine lv_iload hx hb dX12_isWord_24 (lv_at hl 1 rfl) ?_
                        refine lv_if_eq (tgt := 111) hx hb dX12_isWord_26 (by decide) (fun c20 => ?_) (fun c20 => ?_)
                        · skip
                          refine lv_iload hx hb dX12_isWord_111 (lv_at hl 1 rfl) ?_
                          have : (0 : Int32).toInt = 0 := (by decide)
                          exact W.zret (v := 0) hx hb hr rfl (fun t ht9 hW => ⟨0, rfl, ⟨⟨by decide, by decide⟩, (show (((0 : Int32).toInt = 1 ∧ w_fee (fun j => sg ((fa 12 32) j).toInt) ((iv 12 37) : Int32).toInt (((iv 12 37) : Int32).toInt + ((iv 12 38) : Int32).toInt)) ∨ ((0 : Int32).toInt = 0 ∧ ¬ w_fee (fun j => sg ((fa 12 32) j).toInt) ((iv 12 37) : Int32).toInt (((iv 12 37) : Int32).toInt + ((iv 12 38) : Int32).toInt))) from (by have q0 := congrArg Int32.toInt (ev7.trans (congrArg (fa 12 32) (show (v6 : Int32).toNatClampNeg = ((iv 12 37).toInt).toNat + 0 from (by show (v6 : Int32).toInt.toNat = _; omega)))); have s0 := sg_i (v7 : Int32).toInt; rw [q0] at s0; have q1 := congrArg Int32.toInt (ev15.trans (congrArg (fa 12 32) (show (v14 : Int32).toNatClampNeg = ((iv 12 37).toInt).toNat + 1 from (by show (v14 : Int32).toInt.toNat = _; omega)))); have s1 := sg_i (v15 : Int32).toInt; rw [q1] at s1; exact Or.inr ⟨by omega, fun h9 => (by have h8 : ((iv 12 37).toInt + (iv 12 38).toInt) - (iv 12 37).toInt = 3 ∧ sg (fa 12 32 (((iv 12 37).toInt).toNat + 0)).toInt = 102 ∧ sg (fa 12 32 (((iv 12 37).toInt).toNat + 1)).toInt = 101 ∧ sg (fa 12 32 (((iv 12 37).toInt).toNat + 2)).toInt = 101 := h9; have h7 := h8.2.2.1; clear h8 h9; omega)⟩)), (show ((0 : Int32).toInt = 0 ∨ ((iv 12 38) : Int32).toInt = 3) from by omega)⟩, ht9⟩) (fun q hq => by cases hq) dX12_isWord_113
                        · exact absurd rfl c20
                    · have fc18 := z_eq (rfl : (v15).toInt = _) (by decide : (101 : Int32).toInt = 101) c18
                      refine lv_iconst (v := 1) hx hb dX12_isWord_98 (by decide) ?_
                      refine lv_goto (tgt := 103) hx hb dX12_isWord_99 (by decide) ?_
                      refine lv_istore (lv' := [(8, .int 1), (9, .int 1), (0, .ref h), (1, .int 3), (2, .int 102), (3, .int 101), (4, .int 101), (5, .int 0), (6, .int 0), (7, .int 0)]) hx hb dX12_isWord_103 hl (by decide) rfl (fun ls hl => ?_)
                      refine lv_iinc (v := 2) (lv' := [(9, .int 2), (8, .int 1), (0, .ref h), (1, .int 3), (2, .int 102), (3, .int 101), (4, .int 101), (5, .int 0), (6, .int 0), (7, .int 0)]) hx hb dX12_isWord_105 hl (k := 1) rfl (by decide) (by decide) rfl (fun ls hl => ?_)
                      refine lv_goto (tgt := 18) hx hb dX12_isWord_108 (by decide) ?_
                      refine lv_iload hx hb dX12_isWord_18 (lv_at hl 0 rfl) ?_
                      refine lv_iload_n hx hb dX12_isWord_20 rfl (lv_at hl 3 rfl) ?_
                      refine lv_icmp_ge (tgt := 111) hx hb dX12_isWord_21 (by decide) (fun c21 => ?_) (fun c21 => ?_)
                      · exact absurd c21 (by decide)
                      · skip
                        refine lv_iload hx hb dX12_isWord_24 (lv_at hl 1 rfl) ?_
                        refine lv_if_eq (tgt := 111) hx hb dX12_isWord_26 (by decide) (fun c22 => ?_) (fun c22 => ?_)
                        · exact absurd c22 (by decide)
                        · skip
                          refine lv_aload_n hx hb dX12_isWord_29 rfl (lv_at hl 2 rfl) ?_
                          refine gM_12_32 hx hb ht hown hK hP m_1171 dX12_isWord_30 ?_
                          refine lv_aload_n hx hb dX12_isWord_33 rfl (lv_at hl 2 rfl) ?_
                          refine gM_12_37 hx hb ht hown hK hP m_1176 (v := (iv 12 37)) rfl dX12_isWord_34 ?_
                          refine lv_iload hx hb dX12_isWord_37 (lv_at hl 0 rfl) ?_
                          refine lv_iadd hx hb dX12_isWord_39 ?_
                          refine lv_topi (fun v23 ev23 => ?_)
                          have tv23 := z_add ev23 (rfl : ((iv 12 37)).toInt = _) (by decide : (2 : Int32).toInt = 2) (by omega) (by omega)
                          have : 0 ≤ (v23 : Int32).toInt ∧ (v23 : Int32).toInt ≤ 199 := ⟨by omega, by omega⟩
                          refine lM_12_32 hx hb hK hP (f := (fa 12 32)) rfl (vp_in_iff.mpr ⟨by omega, by omega⟩) dX12_isWord_40 ?_
                          refine lv_topi (fun v24 ev24 => ?_)
                          refine lv_iload hx hb dX12_isWord_41 (lv_at hl 0 rfl) ?_
                          refine lv_if_ne (tgt := 50) hx hb dX12_isWord_43 (by decide) (fun c25 => ?_) (fun c25 => ?_)
                          · skip
                            refine lv_iload hx hb dX12_isWord_50 (lv_at hl 0 rfl) ?_
                            refine lv_iconst (v := 1) hx hb dX12_isWord_52 (by decide) ?_
                            refine lv_icmp_ne (tgt := 60) hx hb dX12_isWord_53 (by decide) (fun c26 => ?_) (fun c26 => ?_)
                            · skip
                              refine lv_iload hx hb dX12_isWord_60 (lv_at hl 0 rfl) ?_
                              refine lv_iconst (v := 2) hx hb dX12_isWord_62 (by decide) ?_
                              refine lv_icmp_ne (tgt := 71) hx hb dX12_isWord_63 (by decide) (fun c27 => ?_) (fun c27 => ?_)
                              · exact absurd rfl c27
                              · skip
                                refine lv_iload hx hb dX12_isWord_66 (lv_at hl 6 rfl) ?_
                                refine lv_goto (tgt := 95) hx hb dX12_isWord_68 (by decide) ?_
                                refine lv_icmp_ne (tgt := 102) hx hb dX12_isWord_95 (by decide) (fun c28 => ?_) (fun c28 => ?_)
                                · have fc28 := z_ne (rfl : (v24).toInt = _) (by decide : (101 : Int32).toInt = 101) c28
                                  refine lv_iconst (v := 0) hx hb dX12_isWord_102 (by decide) ?_
                                  refine lv_istore (lv' := [(8, .int 0), (9, .int 2), (0, .ref h), (1, .int 3), (2, .int 102), (3, .int 101), (4, .int 101), (5, .int 0), (6, .int 0), (7, .int 0)]) hx hb dX12_isWord_103 hl (by decide) rfl (fun ls hl => ?_)
                                  refine lv_iinc (v := 3) (lv' := [(9, .int 3), (8, .int 0), (0, .ref h), (1, .int 3), (2, .int 102), (3, .int 101), (4, .int 101), (5, .int 0), (6, .int 0), (7, .int 0)]) hx hb dX12_isWord_105 hl (k := 1) rfl (by decide) (by decide) rfl (fun ls hl => ?_)
                                  refine lv_goto (tgt := 18) hx hb dX12_isWord_108 (by decide) ?_
                                  refine lv_iload hx hb dX12_isWord_18 (lv_at hl 0 rfl) ?_
                                  refine lv_iload_n hx hb dX12_isWord_20 rfl (lv_at hl 3 rfl) ?_
                                  refine lv_icmp_ge (tgt := 111) hx hb dX12_isWord_21 (by decide) (fun c29 => ?_) (fun c29 => ?_)
                                  · skip
                                    refine lv_iload hx hb dX12_isWord_111 (lv_at hl 1 rfl) ?_
                                    have : (0 : Int32).toInt = 0 := (by decide)
                                    exact W.zret (v := 0) hx hb hr rfl (fun t ht9 hW => ⟨0, rfl, ⟨⟨by decide, by decide⟩, (show (((0 : Int32).toInt = 1 ∧ w_fee (fun j => sg ((fa 12 32) j).toInt) ((iv 12 37) : Int32).toInt (((iv 12 37) : Int32).toInt + ((iv 12 38) : Int32).toInt)) ∨ ((0 : Int32).toInt = 0 ∧ ¬ w_fee (fun j => sg ((fa 12 32) j).toInt) ((iv 12 37) : Int32).toInt (((iv 12 37) : Int32).toInt + ((iv 12 38) : Int32).toInt))) from (by have q0 := congrArg Int32.toInt (ev7.trans (congrArg (fa 12 32) (show (v6 : Int32).toNatClampNeg = ((iv 12 37).toInt).toNat + 0 from (by show (v6 : Int32).toInt.toNat = _; omega)))); have s0 := sg_i (v7 : Int32).toInt; rw [q0] at s0; have q1 := congrArg Int32.toInt (ev15.trans (congrArg (fa 12 32) (show (v14 : Int32).toNatClampNeg = ((iv 12 37).toInt).toNat + 1 from (by show (v14 : Int32).toInt.toNat = _; omega)))); have s1 := sg_i (v15 : Int32).toInt; rw [q1] at s1; have q2 := congrArg Int32.toInt (ev24.trans (congrArg (fa 12 32) (show (v23 : Int32).toNatClampNeg = ((iv 12 37).toInt).toNat + 2 from (by show (v23 : Int32).toInt.toNat = _; omega)))); have s2 := sg_i (v24 : Int32).toInt; rw [q2] at s2; exact Or.inr ⟨by omega, fun h9 => (by have h8 : ((iv 12 37).toInt + (iv 12 38).toInt) - (iv 12 37).toInt = 3 ∧ sg (fa 12 32 (((iv 12 37).toInt).toNat + 0)).toInt = 102 ∧ sg (fa 12 32 (((iv 12 37).toInt).toNat + 1)).toInt = 101 ∧ sg (fa 12 32 (((iv 12 37).toInt).toNat + 2)).toInt = 101 := h9; have h7 := h8.2.2.2; clear h8 h9; omega)⟩)), (show ((0 : Int32).toInt = 0 ∨ ((iv 12 38) : Int32).toInt = 3) from by omega)⟩, ht9⟩) (fun q hq => by cases hq) dX12_isWord_113
                                  · exact absurd c29 (by decide)
                                · have fc28 := z_eq (rfl : (v24).toInt = _) (by decide : (101 : Int32).toInt = 101) c28
                                  refine lv_iconst (v := 1) hx hb dX12_isWord_98 (by decide) ?_
                                  refine lv_goto (tgt := 103) hx hb dX12_isWord_99 (by decide) ?_
                                  refine lv_istore (lv' := [(8, .int 1), (9, .int 2), (0, .ref h), (1, .int 3), (2, .int 102), (3, .int 101), (4, .int 101), (5, .int 0), (6, .int 0), (7, .int 0)]) hx hb dX12_isWord_103 hl (by decide) rfl (fun ls hl => ?_)
                                  refine lv_iinc (v := 3) (lv' := [(9, .int 3), (8, .int 1), (0, .ref h), (1, .int 3), (2, .int 102), (3, .int 101), (4, .int 101), (5, .int 0), (6, .int 0), (7, .int 0)]) hx hb dX12_isWord_105 hl (k := 1) rfl (by decide) (by decide) rfl (fun ls hl => ?_)
                                  refine lv_goto (tgt := 18) hx hb dX12_isWord_108 (by decide) ?_
                                  refine lv_iload hx hb dX12_isWord_18 (lv_at hl 0 rfl) ?_
                                  refine lv_iload_n hx hb dX12_isWord_20 rfl (lv_at hl 3 rfl) ?_
                                  refine lv_icmp_ge (tgt := 111) hx hb dX12_isWord_21 (by decide) (fun c30 => ?_) (fun c30 => ?_)
                                  · skip
                                    refine lv_iload hx hb dX12_isWord_111 (lv_at hl 1 rfl) ?_
                                    have : (1 : Int32).toInt = 1 := (by decide)
                                    exact W.zret (v := 1) hx hb hr rfl (fun t ht9 hW => ⟨1, rfl, ⟨⟨by decide, by decide⟩, (show (((1 : Int32).toInt = 1 ∧ w_fee (fun j => sg ((fa 12 32) j).toInt) ((iv 12 37) : Int32).toInt (((iv 12 37) : Int32).toInt + ((iv 12 38) : Int32).toInt)) ∨ ((1 : Int32).toInt = 0 ∧ ¬ w_fee (fun j => sg ((fa 12 32) j).toInt) ((iv 12 37) : Int32).toInt (((iv 12 37) : Int32).toInt + ((iv 12 38) : Int32).toInt))) from (by have q0 := congrArg Int32.toInt (ev7.trans (congrArg (fa 12 32) (show (v6 : Int32).toNatClampNeg = ((iv 12 37).toInt).toNat + 0 from (by show (v6 : Int32).toInt.toNat = _; omega)))); have s0 := sg_i (v7 : Int32).toInt; rw [q0] at s0; have q1 := congrArg Int32.toInt (ev15.trans (congrArg (fa 12 32) (show (v14 : Int32).toNatClampNeg = ((iv 12 37).toInt).toNat + 1 from (by show (v14 : Int32).toInt.toNat = _; omega)))); have s1 := sg_i (v15 : Int32).toInt; rw [q1] at s1; have q2 := congrArg Int32.toInt (ev24.trans (congrArg (fa 12 32) (show (v23 : Int32).toNatClampNeg = ((iv 12 37).toInt).toNat + 2 from (by show (v23 : Int32).toInt.toNat = _; omega)))); have s2 := sg_i (v24 : Int32).toInt; rw [q2] at s2; exact Or.inl ⟨by omega, (show ((iv 12 37).toInt + (iv 12 38).toInt) - (iv 12 37).toInt = 3 ∧ sg (fa 12 32 (((iv 12 37).toInt).toNat + 0)).toInt = 102 ∧ sg (fa 12 32 (((iv 12 37).toInt).toNat + 1)).toInt = 101 ∧ sg (fa 12 32 (((iv 12 37).toInt).toNat + 2)).toInt = 101 from ⟨by omega, by omega, by omega, by omega⟩)⟩)), (show ((1 : Int32).toInt = 0 ∨ ((iv 12 38) : Int32).toInt = 3) from by omega)⟩, ht9⟩) (fun q hq => by cases hq) dX12_isWord_113
                                  · exact absurd c30 (by decide)
                            · exact absurd c26 (by decide)
                          · exact absurd c25 (by decide)
                · exact absurd c16 (by decide)
set_option maxHeartbeats 4000000 in
set_option maxRecDepth 100000 in
/-- X12_isWord -/
theorem c_X12_isWord_r_mean (l : Launch) (dC : Nat → ClassId) (dI : Nat → Nat → Nat) (h : Nat) (g : Nat → Nat → Nat) (ca : Nat → Nat → ClassId) (iv : Nat → Nat → Int32) (lv : Nat → Nat → Int64) (fa : Nat → Nat → Nat → Int32) (la : Nat → Nat → Nat → Int64) (hI : IX iv fa) (p_0 : (iv 12 37).toInt + (iv 12 38).toInt ≤ 200) : Met l yX12_isWord (wc yX12_isWord cX12_isWord 10 (some .boolean)) ({ frames := 0, cells := 0, slots := 0, locals := 0 } : Room) (pR (dC, dI) classes (WM h g ca iv lv fa la) (TM ca) [.ref h, .int 4, .int 109, .int 101, .int 97, .int 110, .int 0, .int 0]) (vp_Si (fun r => (0 ≤ r.toInt ∧ r.toInt ≤ 1) ∧ (((r.toInt = 1 ∧ w_mean (fun j => sg ((fa 12 32) j).toInt) (iv 12 37).toInt ((iv 12 37).toInt + (iv 12 38).toInt)) ∨ (r.toInt = 0 ∧ ¬ w_mean (fun j => sg ((fa 12 32) j).toInt) (iv 12 37).toInt ((iv 12 37).toInt + (iv 12 38).toInt)))) ∧ ((r.toInt = 0 ∨ (iv 12 38).toInt = 4)))) 0 0 (fun _ => False) := by
  refine Met.ofW (cc := cX12_isWord) (maxL := 10) (ret := (some .boolean)) (by decide) rfl ?_
  intro p e s m args below meth c s₁ B hml hv
  obtain ⟨rfl, hP, hK⟩ := hv
  have hx := B.exec
  have hb := B.bytes
  have hr := B.returns
  have ht := tb_tl (atoms_spec (ws := wc yX12_isWord cX12_isWord 10 (some .boolean)) B.pre)
  have hown : s.vm.findClass RX12 = some m.cls := findClass_of_methodNamed B.named
  have hlocks := B.notSynchronized
  have hl := lv_entry [.ref h, .int 4, .int 109, .int 101, .int 97, .int 110, .int 0, .int 0] (n := 10) (Nat.le_of_ble_eq_true rfl)
  rw [lg_entry_eq]
  generalize (lg_sl [.ref h, .int 4, .int 109, .int 101, .int 97, .int 110, .int 0, .int 0] ++ List.replicate (10 - (lg_sl [.ref h, .int 4, .int 109, .int 101, .int 97, .int 110, .int 0, .int 0]).length) Slot.unset).toArray = ls at hl ⊢
  have hl : lv_has ls 10 [(0, .ref h), (1, .int 4), (2, .int 109), (3, .int 101), (4, .int 97), (5, .int 110), (6, .int 0), (7, .int 0)] := hl
  refine lv_aload_n hx hb dX12_isWord_0 rfl (lv_at hl 0 rfl) ?_
  have i_12_38 : 0 ≤ (iv 12 38).toInt ∧ (iv 12 38).toInt ≤ 200 := hI.1 12 38
  refine gM_12_38 hx hb ht hown hK hP m_1177 (v := (iv 12 38)) rfl dX12_isWord_1 ?_
  refine lv_iload_n hx hb dX12_isWord_4 rfl (lv_at hl 1 rfl) ?_
  refine lv_icmp_ne (tgt := 12) hx hb dX12_isWord_5 (by decide) (fun c1 => ?_) (fun c1 => ?_)
  · have fc1 := z_ne (rfl : ((iv 12 38)).toInt = _) (by decide : (4 : Int32).toInt = 4) c1
    refine lv_iconst (v := 0) hx hb dX12_isWord_12 (by decide) ?_
    refine lv_istore (lv' := [(8, .int 0), (0, .ref h), (1, .int 4), (2, .int 109), (3, .int 101), (4, .int 97), (5, .int 110), (6, .int 0), (7, .int 0)]) hx hb dX12_isWord_13 hl (by decide) rfl (fun ls hl => ?_)
    refine lv_iconst (v := 0) hx hb dX12_isWord_15 (by decide) ?_
    refine lv_istore (lv' := [(9, .int 0), (8, .int 0), (0, .ref h), (1, .int 4), (2, .int 109), (3, .int 101), (4, .int 97), (5, .int 110), (6, .int 0), (7, .int 0)]) hx hb dX12_isWord_16 hl (by decide) rfl (fun ls hl => ?_)
    refine lv_iload hx hb dX12_isWord_18 (lv_at hl 0 rfl) ?_
    refine lv_iload_n hx hb dX12_isWord_20 rfl (lv_at hl 3 rfl) ?_
    refine lv_icmp_ge (tgt := 111) hx hb dX12_isWord_21 (by decide) (fun c2 => ?_) (fun c2 => ?_)
    · exact absurd c2 (by decide)
    · skip
      refine lv_iload hx hb dX12_isWord_24 (lv_at hl 1 rfl) ?_
      refine lv_if_eq (tgt := 111) hx hb dX12_isWord_26 (by decide) (fun c3 => ?_) (fun c3 => ?_)
      · skip
        refine lv_iload hx hb dX12_isWord_111 (lv_at hl 1 rfl) ?_
        have : (0 : Int32).toInt = 0 := (by decide)
        have i_12_37 : 0 ≤ (iv 12 37).toInt ∧ (iv 12 37).toInt ≤ 200 := hI.1 12 37
        exact W.zret (v := 0) hx hb hr rfl (fun t ht9 hW => ⟨0, rfl, ⟨⟨by decide, by decide⟩, (show (((0 : Int32).toInt = 1 ∧ w_mean (fun j => sg ((fa 12 32) j).toInt) ((iv 12 37) : Int32).toInt (((iv 12 37) : Int32).toInt + ((iv 12 38) : Int32).toInt)) ∨ ((0 : Int32).toInt = 0 ∧ ¬ w_mean (fun j => sg ((fa 12 32) j).toInt) ((iv 12 37) : Int32).toInt (((iv 12 37) : Int32).toInt + ((iv 12 38) : Int32).toInt))) from (by exact Or.inr ⟨by omega, fun h9 => (by have h8 : ((iv 12 37).toInt + (iv 12 38).toInt) - (iv 12 37).toInt = 4 ∧ sg (fa 12 32 (((iv 12 37).toInt).toNat + 0)).toInt = 109 ∧ sg (fa 12 32 (((iv 12 37).toInt).toNat + 1)).toInt = 101 ∧ sg (fa 12 32 (((iv 12 37).toInt).toNat + 2)).toInt = 97 ∧ sg (fa 12 32 (((iv 12 37).toInt).toNat + 3)).toInt = 110 := h9; have h7 := h8.1; omega)⟩)), (show ((0 : Int32).toInt = 0 ∨ ((iv 12 38) : Int32).toInt = 4) from by omega)⟩, ht9⟩) (fun q hq => by cases hq) dX12_isWord_113
      · exact absurd rfl c3
  · have fc1 := z_eq (rfl : ((iv 12 38)).toInt = _) (by decide : (4 : Int32).toInt = 4) c1
    refine lv_iconst (v := 1) hx hb dX12_isWord_8 (by decide) ?_
    refine lv_goto (tgt := 13) hx hb dX12_isWord_9 (by decide) ?_
    refine lv_istore (lv' := [(8, .int 1), (0, .ref h), (1, .int 4), (2, .int 109), (3, .int 101), (4, .int 97), (5, .int 110), (6, .int 0), (7, .int 0)]) hx hb dX12_isWord_13 hl (by decide) rfl (fun ls hl => ?_)
    refine lv_iconst (v := 0) hx hb dX12_isWord_15 (by decide) ?_
    refine lv_istore (lv' := [(9, .int 0), (8, .int 1), (0, .ref h), (1, .int 4), (2, .int 109), (3, .int 101), (4, .int 97), (5, .int 110), (6, .int 0), (7, .int 0)]) hx hb dX12_isWord_16 hl (by decide) rfl (fun ls hl => ?_)
    refine lv_iload hx hb dX12_isWord_18 (lv_at hl 0 rfl) ?_
    refine lv_iload_n hx hb dX12_isWord_20 rfl (lv_at hl 3 rfl) ?_
    refine lv_icmp_ge (tgt := 111) hx hb dX12_isWord_21 (by decide) (fun c4 => ?_) (fun c4 => ?_)
    · exact absurd c4 (by decide)
    · skip
      refine lv_iload hx hb dX12_isWord_24 (lv_at hl 1 rfl) ?_
      refine lv_if_eq (tgt := 111) hx hb dX12_isWord_26 (by decide) (fun c5 => ?_) (fun c5 => ?_)
      · exact absurd c5 (by decide)
      · skip
        refine lv_aload_n hx hb dX12_isWord_29 rfl (lv_at hl 2 rfl) ?_
        refine gM_12_32 hx hb ht hown hK hP m_1171 dX12_isWord_30 ?_
        refine lv_aload_n hx hb dX12_isWord_33 rfl (lv_at hl 2 rfl) ?_
        have i_12_37 : 0 ≤ (iv 12 37).toInt ∧ (iv 12 37).toInt ≤ 200 := hI.1 12 37
        refine gM_12_37 hx hb ht hown hK hP m_1176 (v := (iv 12 37)) rfl dX12_isWord_34 ?_
        refine lv_iload hx hb dX12_isWord_37 (lv_at hl 0 rfl) ?_
        refine lv_iadd hx hb dX12_isWord_39 ?_
        refine lv_topi (fun v6 ev6 => ?_)
        have tv6 := z_add ev6 (rfl : ((iv 12 37)).toInt = _) (by decide : (0 : Int32).toInt = 0) (by omega) (by omega)
        have : 0 ≤ (v6 : Int32).toInt ∧ (v6 : Int32).toInt ≤ 199 := ⟨by omega, by omega⟩
        refine lM_12_32 hx hb hK hP (f := (fa 12 32)) rfl (vp_in_iff.mpr ⟨by omega, by omega⟩) dX12_isWord_40 ?_
        refine lv_topi (fun v7 ev7 => ?_)
        refine lv_iload hx hb dX12_isWord_41 (lv_at hl 0 rfl) ?_
        refine lv_if_ne (tgt := 50) hx hb dX12_isWord_43 (by decide) (fun c8 => ?_) (fun c8 => ?_)
        · exact absurd rfl c8
        · skip
          refine lv_iload_n hx hb dX12_isWord_46 rfl (lv_at hl 4 rfl) ?_
          refine lv_goto (tgt := 95) hx hb dX12_isWord_47 (by decide) ?_
          refine lv_icmp_ne (tgt := 102) hx hb dX12_isWord_95 (by decide) (fun c9 => ?_) (fun c9 => ?_)
          · have fc9 := z_ne (rfl : (v7).toInt = _) (by decide : (109 : Int32).toInt = 109) c9
            refine lv_iconst (v := 0) hx hb dX12_isWord_102 (by decide) ?_
            refine lv_istore (lv' := [(8, .int 0), (9, .int 0), (0, .ref h), (1, .int 4), (2, .int 109), (3, .int 101), (4, .int 97), (5, .int 110), (6, .int 0), (7, .int 0)]) hx hb dX12_isWord_103 hl (by decide) rfl (fun ls hl => ?_)
            refine lv_iinc (v := 1) (lv' := [(9, .int 1), (8, .int 0), (0, .ref h), (1, .int 4), (2, .int 109), (3, .int 101), (4, .int 97), (5, .int 110), (6, .int 0), (7, .int 0)]) hx hb dX12_isWord_105 hl (k := 1) rfl (by decide) (by decide) rfl (fun ls hl => ?_)
            refine lv_goto (tgt := 18) hx hb dX12_isWord_108 (by decide) ?_
            refine lv_iload hx hb dX12_isWord_18 (lv_at hl 0 rfl) ?_
            refine lv_iload_n hx hb dX12_isWord_20 rfl (lv_at hl 3 rfl) ?_
            refine lv_icmp_ge (tgt := 111) hx hb dX12_isWord_21 (by decide) (fun c10 => ?_) (fun c10 => ?_)
            · exact absurd c10 (by decide)
            · skip
              refine lv_iload hx hb dX12_isWord_24 (lv_at hl 1 rfl) ?_
              refine lv_if_eq (tgt := 111) hx hb dX12_isWord_26 (by decide) (fun c11 => ?_) (fun c11 => ?_)
              · skip
                refine lv_iload hx hb dX12_isWord_111 (lv_at hl 1 rfl) ?_
                have : (0 : Int32).toInt = 0 := (by decide)
                exact W.zret (v := 0) hx hb hr rfl (fun t ht9 hW => ⟨0, rfl, ⟨⟨by decide, by decide⟩, (show (((0 : Int32).toInt = 1 ∧ w_mean (fun j => sg ((fa 12 32) j).toInt) ((iv 12 37) : Int32).toInt (((iv 12 37) : Int32).toInt + ((iv 12 38) : Int32).toInt)) ∨ ((0 : Int32).toInt = 0 ∧ ¬ w_mean (fun j => sg ((fa 12 32) j).toInt) ((iv 12 37) : Int32).toInt (((iv 12 37) : Int32).toInt + ((iv 12 38) : Int32).toInt))) from (by have q0 := congrArg Int32.toInt (ev7.trans (congrArg (fa 12 32) (show (v6 : Int32).toNatClampNeg = ((iv 12 37).toInt).toNat + 0 from (by show (v6 : Int32).toInt.toNat = _; omega)))); have s0 := sg_i (v7 : Int32).toInt; rw [q0] at s0; exact Or.inr ⟨by omega, fun h9 => (by have h8 : ((iv 12 37).toInt + (iv 12 38).toInt) - (iv 12 37).toInt = 4 ∧ sg (fa 12 32 (((iv 12 37).toInt).toNat + 0)).toInt = 109 ∧ sg (fa 12 32 (((iv 12 37).toInt).toNat + 1)).toInt = 101 ∧ sg (fa 12 32 (((iv 12 37).toInt).toNat + 2)).toInt = 97 ∧ sg (fa 12 32 (((iv 12 37).toInt).toNat + 3)).toInt = 110 := h9; have h7 := h8.2.1; clear h8 h9; omega)⟩)), (show ((0 : Int32).toInt = 0 ∨ ((iv 12 38) : Int32).toInt = 4) from by omega)⟩, ht9⟩) (fun q hq => by cases hq) dX12_isWord_113
              · exact absurd rfl c11
          · have fc9 := z_eq (rfl : (v7).toInt = _) (by decide : (109 : Int32).toInt = 109) c9
            refine lv_iconst (v := 1) hx hb dX12_isWord_98 (by decide) ?_
            refine lv_goto (tgt := 103) hx hb dX12_isWord_99 (by decide) ?_
            refine lv_istore (lv' := [(8, .int 1), (9, .int 0), (0, .ref h), (1, .int 4), (2, .int 109), (3, .int 101), (4, .int 97), (5, .int 110), (6, .int 0), (7, .int 0)]) hx hb dX12_isWord_103 hl (by decide) rfl (fun ls hl => ?_)
            refine lv_iinc (v := 1) (lv' := [(9, .int 1), (8, .int 1), (0, .ref h), (1, .int 4), (2, .int 109), (3, .int 101), (4, .int 97), (5, .int 110), (6, .int 0), (7, .int 0)]) hx hb dX12_isWord_105 hl (k := 1) rfl (by decide) (by decide) rfl (fun ls hl => ?_)
            refine lv_goto (tgt := 18) hx hb dX12_isWord_108 (by decide) ?_
            refine lv_iload hx hb dX12_isWord_18 (lv_at hl 0 rfl) ?_
            refine lv_iload_n hx hb dX12_isWord_20 rfl (lv_at hl 3 rfl) ?_
            refine lv_icmp_ge (tgt := 111) hx hb dX12_isWord_21 (by decide) (fun c12 => ?_) (fun c12 => ?_)
            · exact absurd c12 (by decide)
            · skip
              refine lv_iload hx hb dX12_isWord_24 (lv_at hl 1 rfl) ?_
              refine lv_if_eq (tgt := 111) hx hb dX12_isWord_26 (by decide) (fun c13 => ?_) (fun c13 => ?_)
              · exact absurd c13 (by decide)
              · skip
                refine lv_aload_n hx hb dX12_isWord_29 rfl (lv_at hl 2 rfl) ?_
                refine gM_12_32 hx hb ht hown hK hP m_1171 dX12_isWord_30 ?_
                refine lv_aload_n hx hb dX12_isWord_33 rfl (lv_at hl 2 rfl) ?_
                refine gM_12_37 hx hb ht hown hK hP m_1176 (v := (iv 12 37)) rfl dX12_isWord_34 ?_
                refine lv_iload hx hb dX12_isWord_37 (lv_at hl 0 rfl) ?_
                refine lv_iadd hx hb dX12_isWord_39 ?_
                refine lv_topi (fun v14 ev14 => ?_)
                have tv14 := z_add ev14 (rfl : ((iv 12 37)).toInt = _) (by decide : (1 : Int32).toInt = 1) (by omega) (by omega)
                have : 0 ≤ (v14 : Int32).toInt ∧ (v14 : Int32).toInt ≤ 199 := ⟨by omega, by omega⟩
                refine lM_12_32 hx hb hK hP (f := (fa 12 32)) rfl (vp_in_iff.mpr ⟨by omega, by omega⟩) dX12_isWord_40 ?_
                refine lv_topi (fun v15 ev15 => ?_)
                refine lv_iload hx hb dX12_isWord_41 (lv_at hl 0 rfl) ?_
                refine lv_if_ne (tgt := 50) hx hb dX12_isWord_43 (by decide) (fun c16 => ?_) (fun c16 => ?_)
                · skip
                  refine lv_iload hx hb dX12_isWord_50 (lv_at hl 0 rfl) ?_
                  refine lv_iconst (v := 1) hx hb dX12_isWord_52 (by decide) ?_
                  refine lv_icmp_ne (tgt := 60) hx hb dX12_isWord_53 (by decide) (fun c17 => ?_) (fun c17 => ?_)
                  · exact absurd rfl c17
                  · skip
                    refine lv_iload_n hx hb dX12_isWord_56 rfl (lv_at hl 5 rfl) ?_
                    refine lv_goto (tgt := 95) hx hb dX12_isWord_57 (by decide) ?_
                    refine lv_icmp_ne (tgt := 102) hx hb dX12_isWord_95 (by decide) (fun c18 => ?_) (fun c18 => ?_)
                    · have fc18 := z_ne (rfl : (v15).toInt = _) (by decide : (101 : Int32).toInt = 101) c18
                      refine lv_iconst (v := 0) hx hb dX12_isWord_102 (by decide) ?_
                      refine lv_istore (lv' := [(8, .int 0), (9, .int 1), (0, .ref h), (1, .int 4), (2, .int 109), (3, .int 101), (4, .int 97), (5, .int 110), (6, .int 0), (7, .int 0)]) hx hb dX12_isWord_103 hl (by decide) rfl (fun ls hl => ?_)
                      refine lv_iinc (v := 2) (lv' := [(9, .int 2), (8, .int 0), (0, .ref h), (1, .int 4), (2, .int 109), (3, .int 101), (4, .int 97), (5, .int 110), (6, .int 0), (7, .int 0)]) hx hb dX12_isWord_105 hl (k := 1) rfl (by decide) (by decide) rfl (fun ls hl => ?_)
                      refine lv_goto (tgt := 18) hx hb dX12_isWord_108 (by decide) ?_
                      refine lv_iload hx hb dX12_isWord_18 (lv_at hl 0 rfl) ?_
                      refine lv_iload_n hx hb dX12_isWord_20 rfl (lv_at hl 3 rfl) ?_
                      refine lv_icmp_ge (tgt := 111) hx hb dX12_isWord_21 (by decide) (fun c19 => ?_) (fun c19 => ?_)
                      · exact absurd c19 (by decide)
                      · skip
                        refine lv_iload hx hb dX12_isWord_24 (lv_at hl 1 rfl) ?_
                        refine lv_if_eq (tgt := 111) hx hb dX12_isWord_26 (by decide) (fun c20 => ?_) (fun c20 => ?_)
                        · skip
                          refine lv_iload hx hb dX12_isWord_111 (lv_at hl 1 rfl) ?_
                          have : (0 : Int32).toInt = 0 := (by decide)
                          exact W.zret (v := 0) hx hb hr rfl (fun t ht9 hW => ⟨0, rfl, ⟨⟨by decide, by decide⟩, (show (((0 : Int32).toInt = 1 ∧ w_mean (fun j => sg ((fa 12 32) j).toInt) ((iv 12 37) : Int32).toInt (((iv 12 37) : Int32).toInt + ((iv 12 38) : Int32).toInt)) ∨ ((0 : Int32).toInt = 0 ∧ ¬ w_mean (fun j => sg ((fa 12 32) j).toInt) ((iv 12 37) : Int32).toInt (((iv 12 37) : Int32).toInt + ((iv 12 38) : Int32).toInt))) from (by have q0 := congrArg Int32.toInt (ev7.trans (congrArg (fa 12 32) (show (v6 : Int32).toNatClampNeg = ((iv 12 37).toInt).toNat + 0 from (by show (v6 : Int32).toInt.toNat = _; omega)))); have s0 := sg_i (v7 : Int32).toInt; rw [q0] at s0; have q1 := congrArg Int32.toInt (ev15.trans (congrArg (fa 12 32) (show (v14 : Int32).toNatClampNeg = ((iv 12 37).toInt).toNat + 1 from (by show (v14 : Int32).toInt.toNat = _; omega)))); have s1 := sg_i (v15 : Int32).toInt; rw [q1] at s1; exact Or.inr ⟨by omega, fun h9 => (by have h8 : ((iv 12 37).toInt + (iv 12 38).toInt) - (iv 12 37).toInt = 4 ∧ sg (fa 12 32 (((iv 12 37).toInt).toNat + 0)).toInt = 109 ∧ sg (fa 12 32 (((iv 12 37).toInt).toNat + 1)).toInt = 101 ∧ sg (fa 12 32 (((iv 12 37).toInt).toNat + 2)).toInt = 97 ∧ sg (fa 12 32 (((iv 12 37).toInt).toNat + 3)).toInt = 110 := h9; have h7 := h8.2.2.1; clear h8 h9; omega)⟩)), (show ((0 : Int32).toInt = 0 ∨ ((iv 12 38) : Int32).toInt = 4) from by omega)⟩, ht9⟩) (fun q hq => by cases hq) dX12_isWord_113
                        · exact absurd rfl c20
                    · have fc18 := z_eq (rfl : (v15).toInt = _) (by decide : (101 : Int32).toInt = 101) c18
                      refine lv_iconst (v := 1) hx hb dX12_isWord_98 (by decide) ?_
                      refine lv_goto (tgt := 103) hx hb dX12_isWord_99 (by decide) ?_
                      refine lv_istore (lv' := [(8, .int 1), (9, .int 1), (0, .ref h), (1, .int 4), (2, .int 109), (3, .int 101), (4, .int 97), (5, .int 110), (6, .int 0), (7, .int 0)]) hx hb dX12_isWord_103 hl (by decide) rfl (fun ls hl => ?_)
                      refine lv_iinc (v := 2) (lv' := [(9, .int 2), (8, .int 1), (0, .ref h), (1, .int 4), (2, .int 109), (3, .int 101), (4, .int 97), (5, .int 110), (6, .int 0), (7, .int 0)]) hx hb dX12_isWord_105 hl (k := 1) rfl (by decide) (by decide) rfl (fun ls hl => ?_)
                      refine lv_goto (tgt := 18) hx hb dX12_isWord_108 (by decide) ?_
                      refine lv_iload hx hb dX12_isWord_18 (lv_at hl 0 rfl) ?_
                      refine lv_iload_n hx hb dX12_isWord_20 rfl (lv_at hl 3 rfl) ?_
                      refine lv_icmp_ge (tgt := 111) hx hb dX12_isWord_21 (by decide) (fun c21 => ?_) (fun c21 => ?_)
                      · exact absurd c21 (by decide)
                      · skip
                        refine lv_iload hx hb dX12_isWord_24 (lv_at hl 1 rfl) ?_
                        refine lv_if_eq (tgt := 111) hx hb dX12_isWord_26 (by decide) (fun c22 => ?_) (fun c22 => ?_)
                        · exact absurd c22 (by decide)
                        · skip
                          refine lv_aload_n hx hb dX12_isWord_29 rfl (lv_at hl 2 rfl) ?_
                          refine gM_12_32 hx hb ht hown hK hP m_1171 dX12_isWord_30 ?_
                          refine lv_aload_n hx hb dX12_isWord_33 rfl (lv_at hl 2 rfl) ?_
                          refine gM_12_37 hx hb ht hown hK hP m_1176 (v := (iv 12 37)) rfl dX12_isWord_34 ?_
                          refine lv_iload hx hb dX12_isWord_37 (lv_at hl 0 rfl) ?_
                          refine lv_iadd hx hb dX12_isWord_39 ?_
                          refine lv_topi (fun v23 ev23 => ?_)
                          have tv23 := z_add ev23 (rfl : ((iv 12 37)).toInt = _) (by decide : (2 : Int32).toInt = 2) (by omega) (by omega)
                          have : 0 ≤ (v23 : Int32).toInt ∧ (v23 : Int32).toInt ≤ 199 := ⟨by omega, by omega⟩
                          refine lM_12_32 hx hb hK hP (f := (fa 12 32)) rfl (vp_in_iff.mpr ⟨by omega, by omega⟩) dX12_isWord_40 ?_
                          refine lv_topi (fun v24 ev24 => ?_)
                          refine lv_iload hx hb dX12_isWord_41 (lv_at hl 0 rfl) ?_
                          refine lv_if_ne (tgt := 50) hx hb dX12_isWord_43 (by decide) (fun c25 => ?_) (fun c25 => ?_)
                          · skip
                            refine lv_iload hx hb dX12_isWord_50 (lv_at hl 0 rfl) ?_
                            refine lv_iconst (v := 1) hx hb dX12_isWord_52 (by decide) ?_
                            refine lv_icmp_ne (tgt := 60) hx hb dX12_isWord_53 (by decide) (fun c26 => ?_) (fun c26 => ?_)
                            · skip
                              refine lv_iload hx hb dX12_isWord_60 (lv_at hl 0 rfl) ?_
                              refine lv_iconst (v := 2) hx hb dX12_isWord_62 (by decide) ?_
                              refine lv_icmp_ne (tgt := 71) hx hb dX12_isWord_63 (by decide) (fun c27 => ?_) (fun c27 => ?_)
                              · exact absurd rfl c27
                              · skip
                                refine lv_iload hx hb dX12_isWord_66 (lv_at hl 6 rfl) ?_
                                refine lv_goto (tgt := 95) hx hb dX12_isWord_68 (by decide) ?_
                                refine lv_icmp_ne (tgt := 102) hx hb dX12_isWord_95 (by decide) (fun c28 => ?_) (fun c28 => ?_)
                                · have fc28 := z_ne (rfl : (v24).toInt = _) (by decide : (97 : Int32).toInt = 97) c28
                                  refine lv_iconst (v := 0) hx hb dX12_isWord_102 (by decide) ?_
                                  refine lv_istore (lv' := [(8, .int 0), (9, .int 2), (0, .ref h), (1, .int 4), (2, .int 109), (3, .int 101), (4, .int 97), (5, .int 110), (6, .int 0), (7, .int 0)]) hx hb dX12_isWord_103 hl (by decide) rfl (fun ls hl => ?_)
                                  refine lv_iinc (v := 3) (lv' := [(9, .int 3), (8, .int 0), (0, .ref h), (1, .int 4), (2, .int 109), (3, .int 101), (4, .int 97), (5, .int 110), (6, .int 0), (7, .int 0)]) hx hb dX12_isWord_105 hl (k := 1) rfl (by decide) (by decide) rfl (fun ls hl => ?_)
                                  refine lv_goto (tgt := 18) hx hb dX12_isWord_108 (by decide) ?_
                                  refine lv_iload hx hb dX12_isWord_18 (lv_at hl 0 rfl) ?_
                                  refine lv_iload_n hx hb dX12_isWord_20 rfl (lv_at hl 3 rfl) ?_
                                  refine lv_icmp_ge (tgt := 111) hx hb dX12_isWord_21 (by decide) (fun c29 => ?_) (fun c29 => ?_)
                                  · exact absurd c29 (by decide)
                                  · skip
                                    refine lv_iload hx hb dX12_isWord_24 (lv_at hl 1 rfl) ?_
                                    refine lv_if_eq (tgt := 111) hx hb dX12_isWord_26 (by decide) (fun c30 => ?_) (fun c30 => ?_)
                                    · skip
                                      refine lv_iload hx hb dX12_isWord_111 (lv_at hl 1 rfl) ?_
                                      have : (0 : Int32).toInt = 0 := (by decide)
                                      exact W.zret (v := 0) hx hb hr rfl (fun t ht9 hW => ⟨0, rfl, ⟨⟨by decide, by decide⟩, (show (((0 : Int32).toInt = 1 ∧ w_mean (fun j => sg ((fa 12 32) j).toInt) ((iv 12 37) : Int32).toInt (((iv 12 37) : Int32).toInt + ((iv 12 38) : Int32).toInt)) ∨ ((0 : Int32).toInt = 0 ∧ ¬ w_mean (fun j => sg ((fa 12 32) j).toInt) ((iv 12 37) : Int32).toInt (((iv 12 37) : Int32).toInt + ((iv 12 38) : Int32).toInt))) from (by have q0 := congrArg Int32.toInt (ev7.trans (congrArg (fa 12 32) (show (v6 : Int32).toNatClampNeg = ((iv 12 37).toInt).toNat + 0 from (by show (v6 : Int32).toInt.toNat = _; omega)))); have s0 := sg_i (v7 : Int32).toInt; rw [q0] at s0; have q1 := congrArg Int32.toInt (ev15.trans (congrArg (fa 12 32) (show (v14 : Int32).toNatClampNeg = ((iv 12 37).toInt).toNat + 1 from (by show (v14 : Int32).toInt.toNat = _; omega)))); have s1 := sg_i (v15 : Int32).toInt; rw [q1] at s1; have q2 := congrArg Int32.toInt (ev24.trans (congrArg (fa 12 32) (show (v23 : Int32).toNatClampNeg = ((iv 12 37).toInt).toNat + 2 from (by show (v23 : Int32).toInt.toNat = _; omega)))); have s2 := sg_i (v24 : Int32).toInt; rw [q2] at s2; exact Or.inr ⟨by omega, fun h9 => (by have h8 : ((iv 12 37).toInt + (iv 12 38).toInt) - (iv 12 37).toInt = 4 ∧ sg (fa 12 32 (((iv 12 37).toInt).toNat + 0)).toInt = 109 ∧ sg (fa 12 32 (((iv 12 37).toInt).toNat + 1)).toInt = 101 ∧ sg (fa 12 32 (((iv 12 37).toInt).toNat + 2)).toInt = 97 ∧ sg (fa 12 32 (((iv 12 37).toInt).toNat + 3)).toInt = 110 := h9; have h7 := h8.2.2.2.1; clear h8 h9; omega)⟩)), (show ((0 : Int32).toInt = 0 ∨ ((iv 12 38) : Int32).toInt = 4) from by omega)⟩, ht9⟩) (fun q hq => by cases hq) dX12_isWord_113
                                    · exact absurd rfl c30
                                · have fc28 := z_eq (rfl : (v24).toInt = _) (by decide : (97 : Int32).toInt = 97) c28
                                  refine lv_iconst (v := 1) hx hb dX12_isWord_98 (by decide) ?_
                                  refine lv_goto (tgt := 103) hx hb dX12_isWord_99 (by decide) ?_
                                  refine lv_istore (lv' := [(8, .int 1), (9, .int 2), (0, .ref h), (1, .int 4), (2, .int 109), (3, .int 101), (4, .int 97), (5, .int 110), (6, .int 0), (7, .int 0)]) hx hb dX12_isWord_103 hl (by decide) rfl (fun ls hl => ?_)
                                  refine lv_iinc (v := 3) (lv' := [(9, .int 3), (8, .int 1), (0, .ref h), (1, .int 4), (2, .int 109), (3, .int 101), (4, .int 97), (5, .int 110), (6, .int 0), (7, .int 0)]) hx hb dX12_isWord_105 hl (k := 1) rfl (by decide) (by decide) rfl (fun ls hl => ?_)
                                  refine lv_goto (tgt := 18) hx hb dX12_isWord_108 (by decide) ?_
                                  refine lv_iload hx hb dX12_isWord_18 (lv_at hl 0 rfl) ?_
                                  refine lv_iload_n hx hb dX12_isWord_20 rfl (lv_at hl 3 rfl) ?_
                                  refine lv_icmp_ge (tgt := 111) hx hb dX12_isWord_21 (by decide) (fun c31 => ?_) (fun c31 => ?_)
                                  · exact absurd c31 (by decide)
                                  · skip
                                    refine lv_iload hx hb dX12_isWord_24 (lv_at hl 1 rfl) ?_
                                    refine lv_if_eq (tgt := 111) hx hb dX12_isWord_26 (by decide) (fun c32 => ?_) (fun c32 => ?_)
                                    · exact absurd c32 (by decide)
                                    · skip
                                      refine lv_aload_n hx hb dX12_isWord_29 rfl (lv_at hl 2 rfl) ?_
                                      refine gM_12_32 hx hb ht hown hK hP m_1171 dX12_isWord_30 ?_
                                      refine lv_aload_n hx hb dX12_isWord_33 rfl (lv_at hl 2 rfl) ?_
                                      refine gM_12_37 hx hb ht hown hK hP m_1176 (v := (iv 12 37)) rfl dX12_isWord_34 ?_
                                      refine lv_iload hx hb dX12_isWord_37 (lv_at hl 0 rfl) ?_
                                      refine lv_iadd hx hb dX12_isWord_39 ?_
                                      refine lv_topi (fun v33 ev33 => ?_)
                                      have tv33 := z_add ev33 (rfl : ((iv 12 37)).toInt = _) (by decide : (3 : Int32).toInt = 3) (by omega) (by omega)
                                      have : 0 ≤ (v33 : Int32).toInt ∧ (v33 : Int32).toInt ≤ 199 := ⟨by omega, by omega⟩
                                      refine lM_12_32 hx hb hK hP (f := (fa 12 32)) rfl (vp_in_iff.mpr ⟨by omega, by omega⟩) dX12_isWord_40 ?_
                                      refine lv_topi (fun v34 ev34 => ?_)
                                      refine lv_iload hx hb dX12_isWord_41 (lv_at hl 0 rfl) ?_
                                      refine lv_if_ne (tgt := 50) hx hb dX12_isWord_43 (by decide) (fun c35 => ?_) (fun c35 => ?_)
                                      · skip
                                        refine lv_iload hx hb dX12_isWord_50 (lv_at hl 0 rfl) ?_
                                        refine lv_iconst (v := 1) hx hb dX12_isWord_52 (by decide) ?_
                                        refine lv_icmp_ne (tgt := 60) hx hb dX12_isWord_53 (by decide) (fun c36 => ?_) (fun c36 => ?_)
                                        · skip
                                          refine lv_iload hx hb dX12_isWord_60 (lv_at hl 0 rfl) ?_
                                          refine lv_iconst (v := 2) hx hb dX12_isWord_62 (by decide) ?_
                                          refine lv_icmp_ne (tgt := 71) hx hb dX12_isWord_63 (by decide) (fun c37 => ?_) (fun c37 => ?_)
                                          · skip
                                            refine lv_iload hx hb dX12_isWord_71 (lv_at hl 0 rfl) ?_
                                            refine lv_iconst (v := 3) hx hb dX12_isWord_73 (by decide) ?_
                                            refine lv_icmp_ne (tgt := 82) hx hb dX12_isWord_74 (by decide) (fun c38 => ?_) (fun c38 => ?_)
                                            · exact absurd rfl c38
                                            · skip
                                              refine lv_iload hx hb dX12_isWord_77 (lv_at hl 7 rfl) ?_
                                              refine lv_goto (tgt := 95) hx hb dX12_isWord_79 (by decide) ?_
                                              refine lv_icmp_ne (tgt := 102) hx hb dX12_isWord_95 (by decide) (fun c39 => ?_) (fun c39 => ?_)
                                              · have fc39 := z_ne (rfl : (v34).toInt = _) (by decide : (110 : Int32).toInt = 110) c39
                                                refine lv_iconst (v := 0) hx hb dX12_isWord_102 (by decide) ?_
                                                refine lv_istore (lv' := [(8, .int 0), (9, .int 3), (0, .ref h), (1, .int 4), (2, .int 109), (3, .int 101), (4, .int 97), (5, .int 110), (6, .int 0), (7, .int 0)]) hx hb dX12_isWord_103 hl (by decide) rfl (fun ls hl => ?_)
                                                refine lv_iinc (v := 4) (lv' := [(9, .int 4), (8, .int 0), (0, .ref h), (1, .int 4), (2, .int 109), (3, .int 101), (4, .int 97), (5, .int 110), (6, .int 0), (7, .int 0)]) hx hb dX12_isWord_105 hl (k := 1) rfl (by decide) (by decide) rfl (fun ls hl => ?_)
                                                refine lv_goto (tgt := 18) hx hb dX12_isWord_108 (by decide) ?_
                                                refine lv_iload hx hb dX12_isWord_18 (lv_at hl 0 rfl) ?_
                                                refine lv_iload_n hx hb dX12_isWord_20 rfl (lv_at hl 3 rfl) ?_
                                                refine lv_icmp_ge (tgt := 111) hx hb dX12_isWord_21 (by decide) (fun c40 => ?_) (fun c40 => ?_)
                                                · skip
                                                  refine lv_iload hx hb dX12_isWord_111 (lv_at hl 1 rfl) ?_
                                                  have : (0 : Int32).toInt = 0 := (by decide)
                                                  exact W.zret (v := 0) hx hb hr rfl (fun t ht9 hW => ⟨0, rfl, ⟨⟨by decide, by decide⟩, (show (((0 : Int32).toInt = 1 ∧ w_mean (fun j => sg ((fa 12 32) j).toInt) ((iv 12 37) : Int32).toInt (((iv 12 37) : Int32).toInt + ((iv 12 38) : Int32).toInt)) ∨ ((0 : Int32).toInt = 0 ∧ ¬ w_mean (fun j => sg ((fa 12 32) j).toInt) ((iv 12 37) : Int32).toInt (((iv 12 37) : Int32).toInt + ((iv 12 38) : Int32).toInt))) from (by have q0 := congrArg Int32.toInt (ev7.trans (congrArg (fa 12 32) (show (v6 : Int32).toNatClampNeg = ((iv 12 37).toInt).toNat + 0 from (by show (v6 : Int32).toInt.toNat = _; omega)))); have s0 := sg_i (v7 : Int32).toInt; rw [q0] at s0; have q1 := congrArg Int32.toInt (ev15.trans (congrArg (fa 12 32) (show (v14 : Int32).toNatClampNeg = ((iv 12 37).toInt).toNat + 1 from (by show (v14 : Int32).toInt.toNat = _; omega)))); have s1 := sg_i (v15 : Int32).toInt; rw [q1] at s1; have q2 := congrArg Int32.toInt (ev24.trans (congrArg (fa 12 32) (show (v23 : Int32).toNatClampNeg = ((iv 12 37).toInt).toNat + 2 from (by show (v23 : Int32).toInt.toNat = _; omega)))); have s2 := sg_i (v24 : Int32).toInt; rw [q2] at s2; have q3 := congrArg Int32.toInt (ev34.trans (congrArg (fa 12 32) (show (v33 : Int32).toNatClampNeg = ((iv 12 37).toInt).toNat + 3 from (by show (v33 : Int32).toInt.toNat = _; omega)))); have s3 := sg_i (v34 : Int32).toInt; rw [q3] at s3; exact Or.inr ⟨by omega, fun h9 => (by have h8 : ((iv 12 37).toInt + (iv 12 38).toInt) - (iv 12 37).toInt = 4 ∧ sg (fa 12 32 (((iv 12 37).toInt).toNat + 0)).toInt = 109 ∧ sg (fa 12 32 (((iv 12 37).toInt).toNat + 1)).toInt = 101 ∧ sg (fa 12 32 (((iv 12 37).toInt).toNat + 2)).toInt = 97 ∧ sg (fa 12 32 (((iv 12 37).toInt).toNat + 3)).toInt = 110 := h9; have h7 := h8.2.2.2.2; clear h8 h9; omega)⟩)), (show ((0 : Int32).toInt = 0 ∨ ((iv 12 38) : Int32).toInt = 4) from by omega)⟩, ht9⟩) (fun q hq => by cases hq) dX12_isWord_113
                                                · exact absurd c40 (by decide)
                                              · have fc39 := z_eq (rfl : (v34).toInt = _) (by decide : (110 : Int32).toInt = 110) c39
                                                refine lv_iconst (v := 1) hx hb dX12_isWord_98 (by decide) ?_
                                                refine lv_goto (tgt := 103) hx hb dX12_isWord_99 (by decide) ?_
                                                refine lv_istore (lv' := [(8, .int 1), (9, .int 3), (0, .ref h), (1, .int 4), (2, .int 109), (3, .int 101), (4, .int 97), (5, .int 110), (6, .int 0), (7, .int 0)]) hx hb dX12_isWord_103 hl (by decide) rfl (fun ls hl => ?_)
                                                refine lv_iinc (v := 4) (lv' := [(9, .int 4), (8, .int 1), (0, .ref h), (1, .int 4), (2, .int 109), (3, .int 101), (4, .int 97), (5, .int 110), (6, .int 0), (7, .int 0)]) hx hb dX12_isWord_105 hl (k := 1) rfl (by decide) (by decide) rfl (fun ls hl => ?_)
                                                refine lv_goto (tgt := 18) hx hb dX12_isWord_108 (by decide) ?_
                                                refine lv_iload hx hb dX12_isWord_18 (lv_at hl 0 rfl) ?_
                                                refine lv_iload_n hx hb dX12_isWord_20 rfl (lv_at hl 3 rfl) ?_
                                                refine lv_icmp_ge (tgt := 111) hx hb dX12_isWord_21 (by decide) (fun c41 => ?_) (fun c41 => ?_)
                                                · skip
                                                  refine lv_iload hx hb dX12_isWord_111 (lv_at hl 1 rfl) ?_
                                                  have : (1 : Int32).toInt = 1 := (by decide)
                                                  exact W.zret (v := 1) hx hb hr rfl (fun t ht9 hW => ⟨1, rfl, ⟨⟨by decide, by decide⟩, (show (((1 : Int32).toInt = 1 ∧ w_mean (fun j => sg ((fa 12 32) j).toInt) ((iv 12 37) : Int32).toInt (((iv 12 37) : Int32).toInt + ((iv 12 38) : Int32).toInt)) ∨ ((1 : Int32).toInt = 0 ∧ ¬ w_mean (fun j => sg ((fa 12 32) j).toInt) ((iv 12 37) : Int32).toInt (((iv 12 37) : Int32).toInt + ((iv 12 38) : Int32).toInt))) from (by have q0 := congrArg Int32.toInt (ev7.trans (congrArg (fa 12 32) (show (v6 : Int32).toNatClampNeg = ((iv 12 37).toInt).toNat + 0 from (by show (v6 : Int32).toInt.toNat = _; omega)))); have s0 := sg_i (v7 : Int32).toInt; rw [q0] at s0; have q1 := congrArg Int32.toInt (ev15.trans (congrArg (fa 12 32) (show (v14 : Int32).toNatClampNeg = ((iv 12 37).toInt).toNat + 1 from (by show (v14 : Int32).toInt.toNat = _; omega)))); have s1 := sg_i (v15 : Int32).toInt; rw [q1] at s1; have q2 := congrArg Int32.toInt (ev24.trans (congrArg (fa 12 32) (show (v23 : Int32).toNatClampNeg = ((iv 12 37).toInt).toNat + 2 from (by show (v23 : Int32).toInt.toNat = _; omega)))); have s2 := sg_i (v24 : Int32).toInt; rw [q2] at s2; have q3 := congrArg Int32.toInt (ev34.trans (congrArg (fa 12 32) (show (v33 : Int32).toNatClampNeg = ((iv 12 37).toInt).toNat + 3 from (by show (v33 : Int32).toInt.toNat = _; omega)))); have s3 := sg_i (v34 : Int32).toInt; rw [q3] at s3; exact Or.inl ⟨by omega, (show ((iv 12 37).toInt + (iv 12 38).toInt) - (iv 12 37).toInt = 4 ∧ sg (fa 12 32 (((iv 12 37).toInt).toNat + 0)).toInt = 109 ∧ sg (fa 12 32 (((iv 12 37).toInt).toNat + 1)).toInt = 101 ∧ sg (fa 12 32 (((iv 12 37).toInt).toNat + 2)).toInt = 97 ∧ sg (fa 12 32 (((iv 12 37).toInt).toNat + 3)).toInt = 110 from ⟨by omega, by omega, by omega, by omega, by omega⟩)⟩)), (show ((1 : Int32).toInt = 0 ∨ ((iv 12 38) : Int32).toInt = 4) from by omega)⟩, ht9⟩) (fun q hq => by cases hq) dX12_isWord_113
                                                · exact absurd c41 (by decide)
                                          · exact absurd c37 (by decide)
                                        · exact absurd c36 (by decide)
                                      · exact absurd c35 (by decide)
                            · exact absurd c26 (by decide)
                          · exact absurd c25 (by decide)
                · exact absurd c16 (by decide)
set_option maxHeartbeats 4000000 in
set_option maxRecDepth 100000 in
/-- X12_isWord -/
theorem c_X12_isWord_r_least (l : Launch) (dC : Nat → ClassId) (dI : Nat → Nat → Nat) (h : Nat) (g : Nat → Nat → Nat) (ca : Nat → Nat → ClassId) (iv : Nat → Nat → Int32) (lv : Nat → Nat → Int64) (fa : Nat → Nat → Nat → Int32) (la : Nat → Nat → Nat → Int64) (hI : IX iv fa) (p_0 : (iv 12 37).toInt + (iv 12 38).toInt ≤ 200) : Met l yX12_isWord (wc yX12_isWord cX12_isWord 10 (some .boolean)) ({ frames := 0, cells := 0, slots := 0, locals := 0 } : Room) (pR (dC, dI) classes (WM h g ca iv lv fa la) (TM ca) [.ref h, .int 5, .int 108, .int 101, .int 97, .int 115, .int 116, .int 0]) (vp_Si (fun r => (0 ≤ r.toInt ∧ r.toInt ≤ 1) ∧ (((r.toInt = 1 ∧ w_least (fun j => sg ((fa 12 32) j).toInt) (iv 12 37).toInt ((iv 12 37).toInt + (iv 12 38).toInt)) ∨ (r.toInt = 0 ∧ ¬ w_least (fun j => sg ((fa 12 32) j).toInt) (iv 12 37).toInt ((iv 12 37).toInt + (iv 12 38).toInt)))) ∧ ((r.toInt = 0 ∨ (iv 12 38).toInt = 5)))) 0 0 (fun _ => False) := by
  refine Met.ofW (cc := cX12_isWord) (maxL := 10) (ret := (some .boolean)) (by decide) rfl ?_
  intro p e s m args below meth c s₁ B hml hv
  obtain ⟨rfl, hP, hK⟩ := hv
  have hx := B.exec
  have hb := B.bytes
  have hr := B.returns
  have ht := tb_tl (atoms_spec (ws := wc yX12_isWord cX12_isWord 10 (some .boolean)) B.pre)
  have hown : s.vm.findClass RX12 = some m.cls := findClass_of_methodNamed B.named
  have hlocks := B.notSynchronized
  have hl := lv_entry [.ref h, .int 5, .int 108, .int 101, .int 97, .int 115, .int 116, .int 0] (n := 10) (Nat.le_of_ble_eq_true rfl)
  rw [lg_entry_eq]
  generalize (lg_sl [.ref h, .int 5, .int 108, .int 101, .int 97, .int 115, .int 116, .int 0] ++ List.replicate (10 - (lg_sl [.ref h, .int 5, .int 108, .int 101, .int 97, .int 115, .int 116, .int 0]).length) Slot.unset).toArray = ls at hl ⊢
  have hl : lv_has ls 10 [(0, .ref h), (1, .int 5), (2, .int 108), (3, .int 101), (4, .int 97), (5, .int 115), (6, .int 116), (7, .int 0)] := hl
  refine lv_aload_n hx hb dX12_isWord_0 rfl (lv_at hl 0 rfl) ?_
  have i_12_38 : 0 ≤ (iv 12 38).toInt ∧ (iv 12 38).toInt ≤ 200 := hI.1 12 38
  refine gM_12_38 hx hb ht hown hK hP m_1177 (v := (iv 12 38)) rfl dX12_isWord_1 ?_
  refine lv_iload_n hx hb dX12_isWord_4 rfl (lv_at hl 1 rfl) ?_
  refine lv_icmp_ne (tgt := 12) hx hb dX12_isWord_5 (by decide) (fun c1 => ?_) (fun c1 => ?_)
  · have fc1 := z_ne (rfl : ((iv 12 38)).toInt = _) (by decide : (5 : Int32).toInt = 5) c1
    refine lv_iconst (v := 0) hx hb dX12_isWord_12 (by decide) ?_
    refine lv_istore (lv' := [(8, .int 0), (0, .ref h), (1, .int 5), (2, .int 108), (3, .int 101), (4, .int 97), (5, .int 115), (6, .int 116), (7, .int 0)]) hx hb dX12_isWord_13 hl (by decide) rfl (fun ls hl => ?_)
    refine lv_iconst (v := 0) hx hb dX12_isWord_15 (by decide) ?_
    refine lv_istore (lv' := [(9, .int 0), (8, .int 0), (0, .ref h), (1, .int 5), (2, .int 108), (3, .int 101), (4, .int 97), (5, .int 115), (6, .int 116), (7, .int 0)]) hx hb dX12_isWord_16 hl (by decide) rfl (fun ls hl => ?_)
    refine lv_iload hx hb dX12_isWord_18 (lv_at hl 0 rfl) ?_
    refine lv_iload_n hx hb dX12_isWord_20 rfl (lv_at hl 3 rfl) ?_
    refine lv_icmp_ge (tgt := 111) hx hb dX12_isWord_21 (by decide) (fun c2 => ?_) (fun c2 => ?_)
    · exact absurd c2 (by decide)
    · skip
      refine lv_iload hx hb dX12_isWord_24 (lv_at hl 1 rfl) ?_
      refine lv_if_eq (tgt := 111) hx hb dX12_isWord_26 (by decide) (fun c3 => ?_) (fun c3 => ?_)
      · skip
        refine lv_iload hx hb dX12_isWord_111 (lv_at hl 1 rfl) ?_
        have : (0 : Int32).toInt = 0 := (by decide)
        have i_12_37 : 0 ≤ (iv 12 37).toInt ∧ (iv 12 37).toInt ≤ 200 := hI.1 12 37
        exact W.zret (v := 0) hx hb hr rfl (fun t ht9 hW => ⟨0, rfl, ⟨⟨by decide, by decide⟩, (show (((0 : Int32).toInt = 1 ∧ w_least (fun j => sg ((fa 12 32) j).toInt) ((iv 12 37) : Int32).toInt (((iv 12 37) : Int32).toInt + ((iv 12 38) : Int32).toInt)) ∨ ((0 : Int32).toInt = 0 ∧ ¬ w_least (fun j => sg ((fa 12 32) j).toInt) ((iv 12 37) : Int32).toInt (((iv 12 37) : Int32).toInt + ((iv 12 38) : Int32).toInt))) from (by exact Or.inr ⟨by omega, fun h9 => (by have h8 : ((iv 12 37).toInt + (iv 12 38).toInt) - (iv 12 37).toInt = 5 ∧ sg (fa 12 32 (((iv 12 37).toInt).toNat + 0)).toInt = 108 ∧ sg (fa 12 32 (((iv 12 37).toInt).toNat + 1)).toInt = 101 ∧ sg (fa 12 32 (((iv 12 37).toInt).toNat + 2)).toInt = 97 ∧ sg (fa 12 32 (((iv 12 37).toInt).toNat + 3)).toInt = 115 ∧ sg (fa 12 32 (((iv 12 37).toInt).toNat + 4)).toInt = 116 := h9; have h7 := h8.1; omega)⟩)), (show ((0 : Int32).toInt = 0 ∨ ((iv 12 38) : Int32).toInt = 5) from by omega)⟩, ht9⟩) (fun q hq => by cases hq) dX12_isWord_113
      · exact absurd rfl c3
  · have fc1 := z_eq (rfl : ((iv 12 38)).toInt = _) (by decide : (5 : Int32).toInt = 5) c1
    refine lv_iconst (v := 1) hx hb dX12_isWord_8 (by decide) ?_
    refine lv_goto (tgt := 13) hx hb dX12_isWord_9 (by decide) ?_
    refine lv_istore (lv' := [(8, .int 1), (0, .ref h), (1, .int 5), (2, .int 108), (3, .int 101), (4, .int 97), (5, .int 115), (6, .int 116), (7, .int 0)]) hx hb dX12_isWord_13 hl (by decide) rfl (fun ls hl => ?_)
    refine lv_iconst (v := 0) hx hb dX12_isWord_15 (by decide) ?_
    refine lv_istore (lv' := [(9, .int 0), (8, .int 1), (0, .ref h), (1, .int 5), (2, .int 108), (3, .int 101), (4, .int 97), (5, .int 115), (6, .int 116), (7, .int 0)]) hx hb dX12_isWord_16 hl (by decide) rfl (fun ls hl => ?_)
    refine lv_iload hx hb dX12_isWord_18 (lv_at hl 0 rfl) ?_
    refine lv_iload_n hx hb dX12_isWord_20 rfl (lv_at hl 3 rfl) ?_
    refine lv_icmp_ge (tgt := 111) hx hb dX12_isWord_21 (by decide) (fun c4 => ?_) (fun c4 => ?_)
    · exact absurd c4 (by decide)
    · skip
      refine lv_iload hx hb dX12_isWord_24 (lv_at hl 1 rfl) ?_
      refine lv_if_eq (tgt := 111) hx hb dX12_isWord_26 (by decide) (fun c5 => ?_) (fun c5 => ?_)
      · exact absurd c5 (by decide)
      · skip
        refine lv_aload_n hx hb dX12_isWord_29 rfl (lv_at hl 2 rfl) ?_
        refine gM_12_32 hx hb ht hown hK hP m_1171 dX12_isWord_30 ?_
        refine lv_aload_n hx hb dX12_isWord_33 rfl (lv_at hl 2 rfl) ?_
        have i_12_37 : 0 ≤ (iv 12 37).toInt ∧ (iv 12 37).toInt ≤ 200 := hI.1 12 37
        refine gM_12_37 hx hb ht hown hK hP m_1176 (v := (iv 12 37)) rfl dX12_isWord_34 ?_
        refine lv_iload hx hb dX12_isWord_37 (lv_at hl 0 rfl) ?_
        refine lv_iadd hx hb dX12_isWord_39 ?_
        refine lv_topi (fun v6 ev6 => ?_)
        have tv6 := z_add ev6 (rfl : ((iv 12 37)).toInt = _) (by decide : (0 : Int32).toInt = 0) (by omega) (by omega)
        have : 0 ≤ (v6 : Int32).toInt ∧ (v6 : Int32).toInt ≤ 199 := ⟨by omega, by omega⟩
        refine lM_12_32 hx hb hK hP (f := (fa 12 32)) rfl (vp_in_iff.mpr ⟨by omega, by omega⟩) dX12_isWord_40 ?_
        refine lv_topi (fun v7 ev7 => ?_)
        refine lv_iload hx hb dX12_isWord_41 (lv_at hl 0 rfl) ?_
        refine lv_if_ne (tgt := 50) hx hb dX12_isWord_43 (by decide) (fun c8 => ?_) (fun c8 => ?_)
        · exact absurd rfl c8
        · skip
          refine lv_iload_n hx hb dX12_isWord_46 rfl (lv_at hl 4 rfl) ?_
          refine lv_goto (tgt := 95) hx hb dX12_isWord_47 (by decide) ?_
          refine lv_icmp_ne (tgt := 102) hx hb dX12_isWord_95 (by decide) (fun c9 => ?_) (fun c9 => ?_)
          · have fc9 := z_ne (rfl : (v7).toInt = _) (by decide : (108 : Int32).toInt = 108) c9
            refine lv_iconst (v := 0) hx hb dX12_isWord_102 (by decide) ?_
            refine lv_istore (lv' := [(8, .int 0), (9, .int 0), (0, .ref h), (1, .int 5), (2, .int 108), (3, .int 101), (4, .int 97), (5, .int 115), (6, .int 116), (7, .int 0)]) hx hb dX12_isWord_103 hl (by decide) rfl (fun ls hl => ?_)
            refine lv_iinc (v := 1) (lv' := [(9, .int 1), (8, .int 0), (0, .ref h), (1, .int 5), (2, .int 108), (3, .int 101), (4, .int 97), (5, .int 115), (6, .int 116), (7, .int 0)]) hx hb dX12_isWord_105 hl (k := 1) rfl (by decide) (by decide) rfl (fun ls hl => ?_)
            refine lv_goto (tgt := 18) hx hb dX12_isWord_108 (by decide) ?_
            refine lv_iload hx hb dX12_isWord_18 (lv_at hl 0 rfl) ?_
            refine lv_iload_n hx hb dX12_isWord_20 rfl (lv_at hl 3 rfl) ?_
            refine lv_icmp_ge (tgt := 111) hx hb dX12_isWord_21 (by decide) (fun c10 => ?_) (fun c10 => ?_)
            · exact absurd c10 (by decide)
            · skip
              refine lv_iload hx hb dX12_isWord_24 (lv_at hl 1 rfl) ?_
              refine lv_if_eq (tgt := 111) hx hb dX12_isWord_26 (by decide) (fun c11 => ?_) (fun c11 => ?_)
              · skip
                refine lv_iload hx hb dX12_isWord_111 (lv_at hl 1 rfl) ?_
                have : (0 : Int32).toInt = 0 := (by decide)
                exact W.zret (v := 0) hx hb hr rfl (fun t ht9 hW => ⟨0, rfl, ⟨⟨by decide, by decide⟩, (show (((0 : Int32).toInt = 1 ∧ w_least (fun j => sg ((fa 12 32) j).toInt) ((iv 12 37) : Int32).toInt (((iv 12 37) : Int32).toInt + ((iv 12 38) : Int32).toInt)) ∨ ((0 : Int32).toInt = 0 ∧ ¬ w_least (fun j => sg ((fa 12 32) j).toInt) ((iv 12 37) : Int32).toInt (((iv 12 37) : Int32).toInt + ((iv 12 38) : Int32).toInt))) from (by have q0 := congrArg Int32.toInt (ev7.trans (congrArg (fa 12 32) (show (v6 : Int32).toNatClampNeg = ((iv 12 37).toInt).toNat + 0 from (by show (v6 : Int32).toInt.toNat = _; omega)))); have s0 := sg_i (v7 : Int32).toInt; rw [q0] at s0; exact Or.inr ⟨by omega, fun h9 => (by have h8 : ((iv 12 37).toInt + (iv 12 38).toInt) - (iv 12 37).toInt = 5 ∧ sg (fa 12 32 (((iv 12 37).toInt).toNat + 0)).toInt = 108 ∧ sg (fa 12 32 (((iv 12 37).toInt).toNat + 1)).toInt = 101 ∧ sg (fa 12 32 (((iv 12 37).toInt).toNat + 2)).toInt = 97 ∧ sg (fa 12 32 (((iv 12 37).toInt).toNat + 3)).toInt = 115 ∧ sg (fa 12 32 (((iv 12 37).toInt).toNat + 4)).toInt = 116 := h9; have h7 := h8.2.1; clear h8 h9; omega)⟩)), (show ((0 : Int32).toInt = 0 ∨ ((iv 12 38) : Int32).toInt = 5) from by omega)⟩, ht9⟩) (fun q hq => by cases hq) dX12_isWord_113
              · exact absurd rfl c11
          · have fc9 := z_eq (rfl : (v7).toInt = _) (by decide : (108 : Int32).toInt = 108) c9
            refine lv_iconst (v := 1) hx hb dX12_isWord_98 (by decide) ?_
            refine lv_goto (tgt := 103) hx hb dX12_isWord_99 (by decide) ?_
            refine lv_istore (lv' := [(8, .int 1), (9, .int 0), (0, .ref h), (1, .int 5), (2, .int 108), (3, .int 101), (4, .int 97), (5, .int 115), (6, .int 116), (7, .int 0)]) hx hb dX12_isWord_103 hl (by decide) rfl (fun ls hl => ?_)
            refine lv_iinc (v := 1) (lv' := [(9, .int 1), (8, .int 1), (0, .ref h), (1, .int 5), (2, .int 108), (3, .int 101), (4, .int 97), (5, .int 115), (6, .int 116), (7, .int 0)]) hx hb dX12_isWord_105 hl (k := 1) rfl (by decide) (by decide) rfl (fun ls hl => ?_)
            refine lv_goto (tgt := 18) hx hb dX12_isWord_108 (by decide) ?_
            refine lv_iload hx hb dX12_isWord_18 (lv_at hl 0 rfl) ?_
            refine lv_iload_n hx hb dX12_isWord_20 rfl (lv_at hl 3 rfl) ?_
            refine lv_icmp_ge (tgt := 111) hx hb dX12_isWord_21 (by decide) (fun c12 => ?_) (fun c12 => ?_)
            · exact absurd c12 (by decide)
            · skip
              refine lv_iload hx hb dX12_isWord_24 (lv_at hl 1 rfl) ?_
              refine lv_if_eq (tgt := 111) hx hb dX12_isWord_26 (by decide) (fun c13 => ?_) (fun c13 => ?_)
              · exact absurd c13 (by decide)
              · skip
                refine lv_aload_n hx hb dX12_isWord_29 rfl (lv_at hl 2 rfl) ?_
                refine gM_12_32 hx hb ht hown hK hP m_1171 dX12_isWord_30 ?_
                refine lv_aload_n hx hb dX12_isWord_33 rfl (lv_at hl 2 rfl) ?_
                refine gM_12_37 hx hb ht hown hK hP m_1176 (v := (iv 12 37)) rfl dX12_isWord_34 ?_
                refine lv_iload hx hb dX12_isWord_37 (lv_at hl 0 rfl) ?_
                refine lv_iadd hx hb dX12_isWord_39 ?_
                refine lv_topi (fun v14 ev14 => ?_)
                have tv14 := z_add ev14 (rfl : ((iv 12 37)).toInt = _) (by decide : (1 : Int32).toInt = 1) (by omega) (by omega)
                have : 0 ≤ (v14 : Int32).toInt ∧ (v14 : Int32).toInt ≤ 199 := ⟨by omega, by omega⟩
                refine lM_12_32 hx hb hK hP (f := (fa 12 32)) rfl (vp_in_iff.mpr ⟨by omega, by omega⟩) dX12_isWord_40 ?_
                refine lv_topi (fun v15 ev15 => ?_)
                refine lv_iload hx hb dX12_isWord_41 (lv_at hl 0 rfl) ?_
                refine lv_if_ne (tgt := 50) hx hb dX12_isWord_43 (by decide) (fun c16 => ?_) (fun c16 => ?_)
                · skip
                  refine lv_iload hx hb dX12_isWord_50 (lv_at hl 0 rfl) ?_
                  refine lv_iconst (v := 1) hx hb dX12_isWord_52 (by decide) ?_
                  refine lv_icmp_ne (tgt := 60) hx hb dX12_isWord_53 (by decide) (fun c17 => ?_) (fun c17 => ?_)
                  · exact absurd rfl c17
                  · skip
                    refine lv_iload_n hx hb dX12_isWord_56 rfl (lv_at hl 5 rfl) ?_
                    refine lv_goto (tgt := 95) hx hb dX12_isWord_57 (by decide) ?_
                    refine lv_icmp_ne (tgt := 102) hx hb dX12_isWord_95 (by decide) (fun c18 => ?_) (fun c18 => ?_)
                    · have fc18 := z_ne (rfl : (v15).toInt = _) (by decide : (101 : Int32).toInt = 101) c18
                      refine lv_iconst (v := 0) hx hb dX12_isWord_102 (by decide) ?_
                      refine lv_istore (lv' := [(8, .int 0), (9, .int 1), (0, .ref h), (1, .int 5), (2, .int 108), (3, .int 101), (4, .int 97), (5, .int 115), (6, .int 116), (7, .int 0)]) hx hb dX12_isWord_103 hl (by decide) rfl (fun ls hl => ?_)
                      refine lv_iinc (v := 2) (lv' := [(9, .int 2), (8, .int 0), (0, .ref h), (1, .int 5), (2, .int 108), (3, .int 101), (4, .int 97), (5, .int 115), (6, .int 116), (7, .int 0)]) hx hb dX12_isWord_105 hl (k := 1) rfl (by decide) (by decide) rfl (fun ls hl => ?_)
                      refine lv_goto (tgt := 18) hx hb dX12_isWord_108 (by decide) ?_
                      refine lv_iload hx hb dX12_isWord_18 (lv_at hl 0 rfl) ?_
                      refine lv_iload_n hx hb dX12_isWord_20 rfl (lv_at hl 3 rfl) ?_
                      refine lv_icmp_ge (tgt := 111) hx hb dX12_isWord_21 (by decide) (fun c19 => ?_) (fun c19 => ?_)
                      · exact absurd c19 (by decide)
                      · skip
                        refine lv_iload hx hb dX12_isWord_24 (lv_at hl 1 rfl) ?_
                        refine lv_if_eq (tgt := 111) hx hb dX12_isWord_26 (by decide) (fun c20 => ?_) (fun c20 => ?_)
                        · skip
                          refine lv_iload hx hb dX12_isWord_111 (lv_at hl 1 rfl) ?_
                          have : (0 : Int32).toInt = 0 := (by decide)
                          exact W.zret (v := 0) hx hb hr rfl (fun t ht9 hW => ⟨0, rfl, ⟨⟨by decide, by decide⟩, (show (((0 : Int32).toInt = 1 ∧ w_least (fun j => sg ((fa 12 32) j).toInt) ((iv 12 37) : Int32).toInt (((iv 12 37) : Int32).toInt + ((iv 12 38) : Int32).toInt)) ∨ ((0 : Int32).toInt = 0 ∧ ¬ w_least (fun j => sg ((fa 12 32) j).toInt) ((iv 12 37) : Int32).toInt (((iv 12 37) : Int32).toInt + ((iv 12 38) : Int32).toInt))) from (by have q0 := congrArg Int32.toInt (ev7.trans (congrArg (fa 12 32) (show (v6 : Int32).toNatClampNeg = ((iv 12 37).toInt).toNat + 0 from (by show (v6 : Int32).toInt.toNat = _; omega)))); have s0 := sg_i (v7 : Int32).toInt; rw [q0] at s0; have q1 := congrArg Int32.toInt (ev15.trans (congrArg (fa 12 32) (show (v14 : Int32).toNatClampNeg = ((iv 12 37).toInt).toNat + 1 from (by show (v14 : Int32).toInt.toNat = _; omega)))); have s1 := sg_i (v15 : Int32).toInt; rw [q1] at s1; exact Or.inr ⟨by omega, fun h9 => (by have h8 : ((iv 12 37).toInt + (iv 12 38).toInt) - (iv 12 37).toInt = 5 ∧ sg (fa 12 32 (((iv 12 37).toInt).toNat + 0)).toInt = 108 ∧ sg (fa 12 32 (((iv 12 37).toInt).toNat + 1)).toInt = 101 ∧ sg (fa 12 32 (((iv 12 37).toInt).toNat + 2)).toInt = 97 ∧ sg (fa 12 32 (((iv 12 37).toInt).toNat + 3)).toInt = 115 ∧ sg (fa 12 32 (((iv 12 37).toInt).toNat + 4)).toInt = 116 := h9; have h7 := h8.2.2.1; clear h8 h9; omega)⟩)), (show ((0 : Int32).toInt = 0 ∨ ((iv 12 38) : Int32).toInt = 5) from by omega)⟩, ht9⟩) (fun q hq => by cases hq) dX12_isWord_113
                        · exact absurd rfl c20
                    · have fc18 := z_eq (rfl : (v15).toInt = _) (by decide : (101 : Int32).toInt = 101) c18
                      refine lv_iconst (v := 1) hx hb dX12_isWord_98 (by decide) ?_
                      refine lv_goto (tgt := 103) hx hb dX12_isWord_99 (by decide) ?_
                      refine lv_istore (lv' := [(8, .int 1), (9, .int 1), (0, .ref h), (1, .int 5), (2, .int 108), (3, .int 101), (4, .int 97), (5, .int 115), (6, .int 116), (7, .int 0)]) hx hb dX12_isWord_103 hl (by decide) rfl (fun ls hl => ?_)
                      refine lv_iinc (v := 2) (lv' := [(9, .int 2), (8, .int 1), (0, .ref h), (1, .int 5), (2, .int 108), (3, .int 101), (4, .int 97), (5, .int 115), (6, .int 116), (7, .int 0)]) hx hb dX12_isWord_105 hl (k := 1) rfl (by decide) (by decide) rfl (fun ls hl => ?_)
                      refine lv_goto (tgt := 18) hx hb dX12_isWord_108 (by decide) ?_
                      refine lv_iload hx hb dX12_isWord_18 (lv_at hl 0 rfl) ?_
                      refine lv_iload_n hx hb dX12_isWord_20 rfl (lv_at hl 3 rfl) ?_
                      refine lv_icmp_ge (tgt := 111) hx hb dX12_isWord_21 (by decide) (fun c21 => ?_) (fun c21 => ?_)
                      · exact absurd c21 (by decide)
                      · skip
                        refine lv_iload hx hb dX12_isWord_24 (lv_at hl 1 rfl) ?_
                        refine lv_if_eq (tgt := 111) hx hb dX12_isWord_26 (by decide) (fun c22 => ?_) (fun c22 => ?_)
                        · exact absurd c22 (by decide)
                        · skip
                          refine lv_aload_n hx hb dX12_isWord_29 rfl (lv_at hl 2 rfl) ?_
                          refine gM_12_32 hx hb ht hown hK hP m_1171 dX12_isWord_30 ?_
                          refine lv_aload_n hx hb dX12_isWord_33 rfl (lv_at hl 2 rfl) ?_
                          refine gM_12_37 hx hb ht hown hK hP m_1176 (v := (iv 12 37)) rfl dX12_isWord_34 ?_
                          refine lv_iload hx hb dX12_isWord_37 (lv_at hl 0 rfl) ?_
                          refine lv_iadd hx hb dX12_isWord_39 ?_
                          refine lv_topi (fun v23 ev23 => ?_)
                          have tv23 := z_add ev23 (rfl : ((iv 12 37)).toInt = _) (by decide : (2 : Int32).toInt = 2) (by omega) (by omega)
                          have : 0 ≤ (v23 : Int32).toInt ∧ (v23 : Int32).toInt ≤ 199 := ⟨by omega, by omega⟩
                          refine lM_12_32 hx hb hK hP (f := (fa 12 32)) rfl (vp_in_iff.mpr ⟨by omega, by omega⟩) dX12_isWord_40 ?_
                          refine lv_topi (fun v24 ev24 => ?_)
                          refine lv_iload hx hb dX12_isWord_41 (lv_at hl 0 rfl) ?_
                          refine lv_if_ne (tgt := 50) hx hb dX12_isWord_43 (by decide) (fun c25 => ?_) (fun c25 => ?_)
                          · skip
                            refine lv_iload hx hb dX12_isWord_50 (lv_at hl 0 rfl) ?_
                            refine lv_iconst (v := 1) hx hb dX12_isWord_52 (by decide) ?_
                            refine lv_icmp_ne (tgt := 60) hx hb dX12_isWord_53 (by decide) (fun c26 => ?_) (fun c26 => ?_)
                            · skip
                              refine lv_iload hx hb dX12_isWord_60 (lv_at hl 0 rfl) ?_
                              refine lv_iconst (v := 2) hx hb dX12_isWord_62 (by decide) ?_
                              refine lv_icmp_ne (tgt := 71) hx hb dX12_isWord_63 (by decide) (fun c27 => ?_) (fun c27 => ?_)
                              · exact absurd rfl c27
                              · skip
                                refine lv_iload hx hb dX12_isWord_66 (lv_at hl 6 rfl) ?_
                                refine lv_goto (tgt := 95) hx hb dX12_isWord_68 (by decide) ?_
                                refine lv_icmp_ne (tgt := 102) hx hb dX12_isWord_95 (by decide) (fun c28 => ?_) (fun c28 => ?_)
                                · have fc28 := z_ne (rfl : (v24).toInt = _) (by decide : (97 : Int32).toInt = 97) c28
                                  refine lv_iconst (v := 0) hx hb dX12_isWord_102 (by decide) ?_
                                  refine lv_istore (lv' := [(8, .int 0), (9, .int 2), (0, .ref h), (1, .int 5), (2, .int 108), (3, .int 101), (4, .int 97), (5, .int 115), (6, .int 116), (7, .int 0)]) hx hb dX12_isWord_103 hl (by decide) rfl (fun ls hl => ?_)
                                  refine lv_iinc (v := 3) (lv' := [(9, .int 3), (8, .int 0), (0, .ref h), (1, .int 5), (2, .int 108), (3, .int 101), (4, .int 97), (5, .int 115), (6, .int 116), (7, .int 0)]) hx hb dX12_isWord_105 hl (k := 1) rfl (by decide) (by decide) rfl (fun ls hl => ?_)
                                  refine lv_goto (tgt := 18) hx hb dX12_isWord_108 (by decide) ?_
                                  refine lv_iload hx hb dX12_isWord_18 (lv_at hl 0 rfl) ?_
                                  refine lv_iload_n hx hb dX12_isWord_20 rfl (lv_at hl 3 rfl) ?_
                                  refine lv_icmp_ge (tgt := 111) hx hb dX12_isWord_21 (by decide) (fun c29 => ?_) (fun c29 => ?_)
                                  · exact absurd c29 (by decide)
                                  · skip
                                    refine lv_iload hx hb dX12_isWord_24 (lv_at hl 1 rfl) ?_
                                    refine lv_if_eq (tgt := 111) hx hb dX12_isWord_26 (by decide) (fun c30 => ?_) (fun c30 => ?_)
                                    · skip
                                      refine lv_iload hx hb dX12_isWord_111 (lv_at hl 1 rfl) ?_
                                      have : (0 : Int32).toInt = 0 := (by decide)
                                      exact W.zret (v := 0) hx hb hr rfl (fun t ht9 hW => ⟨0, rfl, ⟨⟨by decide, by decide⟩, (show (((0 : Int32).toInt = 1 ∧ w_least (fun j => sg ((fa 12 32) j).toInt) ((iv 12 37) : Int32).toInt (((iv 12 37) : Int32).toInt + ((iv 12 38) : Int32).toInt)) ∨ ((0 : Int32).toInt = 0 ∧ ¬ w_least (fun j => sg ((fa 12 32) j).toInt) ((iv 12 37) : Int32).toInt (((iv 12 37) : Int32).toInt + ((iv 12 38) : Int32).toInt))) from (by have q0 := congrArg Int32.toInt (ev7.trans (congrArg (fa 12 32) (show (v6 : Int32).toNatClampNeg = ((iv 12 37).toInt).toNat + 0 from (by show (v6 : Int32).toInt.toNat = _; omega)))); have s0 := sg_i (v7 : Int32).toInt; rw [q0] at s0; have q1 := congrArg Int32.toInt (ev15.trans (congrArg (fa 12 32) (show (v14 : Int32).toNatClampNeg = ((iv 12 37).toInt).toNat + 1 from (by show (v14 : Int32).toInt.toNat = _; omega)))); have s1 := sg_i (v15 : Int32).toInt; rw [q1] at s1; have q2 := congrArg Int32.toInt (ev24.trans (congrArg (fa 12 32) (show (v23 : Int32).toNatClampNeg = ((iv 12 37).toInt).toNat + 2 from (by show (v23 : Int32).toInt.toNat = _; omega)))); have s2 := sg_i (v24 : Int32).toInt; rw [q2] at s2; exact Or.inr ⟨by omega, fun h9 => (by have h8 : ((iv 12 37).toInt + (iv 12 38).toInt) - (iv 12 37).toInt = 5 ∧ sg (fa 12 32 (((iv 12 37).toInt).toNat + 0)).toInt = 108 ∧ sg (fa 12 32 (((iv 12 37).toInt).toNat + 1)).toInt = 101 ∧ sg (fa 12 32 (((iv 12 37).toInt).toNat + 2)).toInt = 97 ∧ sg (fa 12 32 (((iv 12 37).toInt).toNat + 3)).toInt = 115 ∧ sg (fa 12 32 (((iv 12 37).toInt).toNat + 4)).toInt = 116 := h9; have h7 := h8.2.2.2.1; clear h8 h9; omega)⟩)), (show ((0 : Int32).toInt = 0 ∨ ((iv 12 38) : Int32).toInt = 5) from by omega)⟩, ht9⟩) (fun q hq => by cases hq) dX12_isWord_113
                                    · exact absurd rfl c30
                                · have fc28 := z_eq (rfl : (v24).toInt = _) (by decide : (97 : Int32).toInt = 97) c28
                                  refine lv_iconst (v := 1) hx hb dX12_isWord_98 (by decide) ?_
                                  refine lv_goto (tgt := 103) hx hb dX12_isWord_99 (by decide) ?_
                                  refine lv_istore (lv' := [(8, .int 1), (9, .int 2), (0, .ref h), (1, .int 5), (2, .int 108), (3, .int 101), (4, .int 97), (5, .int 115), (6, .int 116), (7, .int 0)]) hx hb dX12_isWord_103 hl (by decide) rfl (fun ls hl => ?_)
                                  refine lv_iinc (v := 3) (lv' := [(9, .int 3), (8, .int 1), (0, .ref h), (1, .int 5), (2, .int 108), (3, .int 101), (4, .int 97), (5, .int 115), (6, .int 116), (7, .int 0)]) hx hb dX12_isWord_105 hl (k := 1) rfl (by decide) (by decide) rfl (fun ls hl => ?_)
                                  refine lv_goto (tgt := 18) hx hb dX12_isWord_108 (by decide) ?_
                                  refine lv_iload hx hb dX12_isWord_18 (lv_at hl 0 rfl) ?_
                                  refine lv_iload_n hx hb dX12_isWord_20 rfl (lv_at hl 3 rfl) ?_
                                  refine lv_icmp_ge (tgt := 111) hx hb dX12_isWord_21 (by decide) (fun c31 => ?_) (fun c31 => ?_)
                                  · exact absurd c31 (by decide)
                                  · skip
                                    refine lv_iload hx hb dX12_isWord_24 (lv_at hl 1 rfl) ?_
                                    refine lv_if_eq (tgt := 111) hx hb dX12_isWord_26 (by decide) (fun c32 => ?_) (fun c32 => ?_)
                                    · exact absurd c32 (by decide)
                                    · skip
                                      refine lv_aload_n hx hb dX12_isWord_29 rfl (lv_at hl 2 rfl) ?_
                                      refine gM_12_32 hx hb ht hown hK hP m_1171 dX12_isWord_30 ?_
                                      refine lv_aload_n hx hb dX12_isWord_33 rfl (lv_at hl 2 rfl) ?_
                                      refine gM_12_37 hx hb ht hown hK hP m_1176 (v := (iv 12 37)) rfl dX12_isWord_34 ?_
                                      refine lv_iload hx hb dX12_isWord_37 (lv_at hl 0 rfl) ?_
                                      refine lv_iadd hx hb dX12_isWord_39 ?_
                                      refine lv_topi (fun v33 ev33 => ?_)
                                      have tv33 := z_add ev33 (rfl : ((iv 12 37)).toInt = _) (by decide : (3 : Int32).toInt = 3) (by omega) (by omega)
                                      have : 0 ≤ (v33 : Int32).toInt ∧ (v33 : Int32).toInt ≤ 199 := ⟨by omega, by omega⟩
                                      refine lM_12_32 hx hb hK hP (f := (fa 12 32)) rfl (vp_in_iff.mpr ⟨by omega, by omega⟩) dX12_isWord_40 ?_
                                      refine lv_topi (fun v34 ev34 => ?_)
                                      refine lv_iload hx hb dX12_isWord_41 (lv_at hl 0 rfl) ?_
                                      refine lv_if_ne (tgt := 50) hx hb dX12_isWord_43 (by decide) (fun c35 => ?_) (fun c35 => ?_)
                                      · skip
                                        refine lv_iload hx hb dX12_isWord_50 (lv_at hl 0 rfl) ?_
                                        refine lv_iconst (v := 1) hx hb dX12_isWord_52 (by decide) ?_
                                        refine lv_icmp_ne (tgt := 60) hx hb dX12_isWord_53 (by decide) (fun c36 => ?_) (fun c36 => ?_)
                                        · skip
                                          refine lv_iload hx hb dX12_isWord_60 (lv_at hl 0 rfl) ?_
                                          refine lv_iconst (v := 2) hx hb dX12_isWord_62 (by decide) ?_
                                          refine lv_icmp_ne (tgt := 71) hx hb dX12_isWord_63 (by decide) (fun c37 => ?_) (fun c37 => ?_)
                                          · skip
                                            refine lv_iload hx hb dX12_isWord_71 (lv_at hl 0 rfl) ?_
                                            refine lv_iconst (v := 3) hx hb dX12_isWord_73 (by decide) ?_
                                            refine lv_icmp_ne (tgt := 82) hx hb dX12_isWord_74 (by decide) (fun c38 => ?_) (fun c38 => ?_)
                                            · exact absurd rfl c38
                                            · skip
                                              refine lv_iload hx hb dX12_isWord_77 (lv_at hl 7 rfl) ?_
                                              refine lv_goto (tgt := 95) hx hb dX12_isWord_79 (by decide) ?_
                                              refine lv_icmp_ne (tgt := 102) hx hb dX12_isWord_95 (by decide) (fun c39 => ?_) (fun c39 => ?_)
                                              · have fc39 := z_ne (rfl : (v34).toInt = _) (by decide : (115 : Int32).toInt = 115) c39
                                                refine lv_iconst (v := 0) hx hb dX12_isWord_102 (by decide) ?_
                                                refine lv_istore (lv' := [(8, .int 0), (9, .int 3), (0, .ref h), (1, .int 5), (2, .int 108), (3, .int 101), (4, .int 97), (5, .int 115), (6, .int 116), (7, .int 0)]) hx hb dX12_isWord_103 hl (by decide) rfl (fun ls hl => ?_)
                                                refine lv_iinc (v := 4) (lv' := [(9, .int 4), (8, .int 0), (0, .ref h), (1, .int 5), (2, .int 108), (3, .int 101), (4, .int 97), (5, .int 115), (6, .int 116), (7, .int 0)]) hx hb dX12_isWord_105 hl (k := 1) rfl (by decide) (by decide) rfl (fun ls hl => ?_)
                                                refine lv_goto (tgt := 18) hx hb dX12_isWord_108 (by decide) ?_
                                                refine lv_iload hx hb dX12_isWord_18 (lv_at hl 0 rfl) ?_
                                                refine lv_iload_n hx hb dX12_isWord_20 rfl (lv_at hl 3 rfl) ?_
                                                refine lv_icmp_ge (tgt := 111) hx hb dX12_isWord_21 (by decide) (fun c40 => ?_) (fun c40 => ?_)
                                                · exact absurd c40 (by decide)
                                                · skip
                                                  refine lv_iload hx hb dX12_isWord_24 (lv_at hl 1 rfl) ?_
                                                  refine lv_if_eq (tgt := 111) hx hb dX12_isWord_26 (by decide) (fun c41 => ?_) (fun c41 => ?_)
                                                  · skip
                                                    refine lv_iload hx hb dX12_isWord_111 (lv_at hl 1 rfl) ?_
                                                    have : (0 : Int32).toInt = 0 := (by decide)
                                                    exact W.zret (v := 0) hx hb hr rfl (fun t ht9 hW => ⟨0, rfl, ⟨⟨by decide, by decide⟩, (show (((0 : Int32).toInt = 1 ∧ w_least (fun j => sg ((fa 12 32) j).toInt) ((iv 12 37) : Int32).toInt (((iv 12 37) : Int32).toInt + ((iv 12 38) : Int32).toInt)) ∨ ((0 : Int32).toInt = 0 ∧ ¬ w_least (fun j => sg ((fa 12 32) j).toInt) ((iv 12 37) : Int32).toInt (((iv 12 37) : Int32).toInt + ((iv 12 38) : Int32).toInt))) from (by have q0 := congrArg Int32.toInt (ev7.trans (congrArg (fa 12 32) (show (v6 : Int32).toNatClampNeg = ((iv 12 37).toInt).toNat + 0 from (by show (v6 : Int32).toInt.toNat = _; omega)))); have s0 := sg_i (v7 : Int32).toInt; rw [q0] at s0; have q1 := congrArg Int32.toInt (ev15.trans (congrArg (fa 12 32) (show (v14 : Int32).toNatClampNeg = ((iv 12 37).toInt).toNat + 1 from (by show (v14 : Int32).toInt.toNat = _; omega)))); have s1 := sg_i (v15 : Int32).toInt; rw [q1] at s1; have q2 := congrArg Int32.toInt (ev24.trans (congrArg (fa 12 32) (show (v23 : Int32).toNatClampNeg = ((iv 12 37).toInt).toNat + 2 from (by show (v23 : Int32).toInt.toNat = _; omega)))); have s2 := sg_i (v24 : Int32).toInt; rw [q2] at s2; have q3 := congrArg Int32.toInt (ev34.trans (congrArg (fa 12 32) (show (v33 : Int32).toNatClampNeg = ((iv 12 37).toInt).toNat + 3 from (by show (v33 : Int32).toInt.toNat = _; omega)))); have s3 := sg_i (v34 : Int32).toInt; rw [q3] at s3; exact Or.inr ⟨by omega, fun h9 => (by have h8 : ((iv 12 37).toInt + (iv 12 38).toInt) - (iv 12 37).toInt = 5 ∧ sg (fa 12 32 (((iv 12 37).toInt).toNat + 0)).toInt = 108 ∧ sg (fa 12 32 (((iv 12 37).toInt).toNat + 1)).toInt = 101 ∧ sg (fa 12 32 (((iv 12 37).toInt).toNat + 2)).toInt = 97 ∧ sg (fa 12 32 (((iv 12 37).toInt).toNat + 3)).toInt = 115 ∧ sg (fa 12 32 (((iv 12 37).toInt).toNat + 4)).toInt = 116 := h9; have h7 := h8.2.2.2.2.1; clear h8 h9; omega)⟩)), (show ((0 : Int32).toInt = 0 ∨ ((iv 12 38) : Int32).toInt = 5) from by omega)⟩, ht9⟩) (fun q hq => by cases hq) dX12_isWord_113
                                                  · exact absurd rfl c41
                                              · have fc39 := z_eq (rfl : (v34).toInt = _) (by decide : (115 : Int32).toInt = 115) c39
                                                refine lv_iconst (v := 1) hx hb dX12_isWord_98 (by decide) ?_
                                                refine lv_goto (tgt := 103) hx hb dX12_isWord_99 (by decide) ?_
                                                refine lv_istore (lv' := [(8, .int 1), (9, .int 3), (0, .ref h), (1, .int 5), (2, .int 108), (3, .int 101), (4, .int 97), (5, .int 115), (6, .int 116), (7, .int 0)]) hx hb dX12_isWord_103 hl (by decide) rfl (fun ls hl => ?_)
                                                refine lv_iinc (v := 4) (lv' := [(9, .int 4), (8, .int 1), (0, .ref h), (1, .int 5), (2, .int 108), (3, .int 101), (4, .int 97), (5, .int 115), (6, .int 116), (7, .int 0)]) hx hb dX12_isWord_105 hl (k := 1) rfl (by decide) (by decide) rfl (fun ls hl => ?_)
                                                refine lv_goto (tgt := 18) hx hb dX12_isWord_108 (by decide) ?_
                                                refine lv_iload hx hb dX12_isWord_18 (lv_at hl 0 rfl) ?_
                                                refine lv_iload_n hx hb dX12_isWord_20 rfl (lv_at hl 3 rfl) ?_
                                                refine lv_icmp_ge (tgt := 111) hx hb dX12_isWord_21 (by decide) (fun c42 => ?_) (fun c42 => ?_)
                                                · exact absurd c42 (by decide)
                                                · skip
                                                  refine lv_iload hx hb dX12_isWord_24 (lv_at hl 1 rfl) ?_
                                                  refine lv_if_eq (tgt := 111) hx hb dX12_isWord_26 (by decide) (fun c43 => ?_) (fun c43 => ?_)
                                                  · exact absurd c43 (by decide)
                                                  · skip
                                                    refine lv_aload_n hx hb dX12_isWord_29 rfl (lv_at hl 2 rfl) ?_
                                                    refine gM_12_32 hx hb ht hown hK hP m_1171 dX12_isWord_30 ?_
                                                    refine lv_aload_n hx hb dX12_isWord_33 rfl (lv_at hl 2 rfl) ?_
                                                    refine gM_12_37 hx hb ht hown hK hP m_1176 (v := (iv 12 37)) rfl dX12_isWord_34 ?_
                                                    refine lv_iload hx hb dX12_isWord_37 (lv_at hl 0 rfl) ?_
                                                    refine lv_iadd hx hb dX12_isWord_39 ?_
                                                    refine lv_topi (fun v44 ev44 => ?_)
                                                    have tv44 := z_add ev44 (rfl : ((iv 12 37)).toInt = _) (by decide : (4 : Int32).toInt = 4) (by omega) (by omega)
                                                    have : 0 ≤ (v44 : Int32).toInt ∧ (v44 : Int32).toInt ≤ 199 := ⟨by omega, by omega⟩
                                                    refine lM_12_32 hx hb hK hP (f := (fa 12 32)) rfl (vp_in_iff.mpr ⟨by omega, by omega⟩) dX12_isWord_40 ?_
                                                    refine lv_topi (fun v45 ev45 => ?_)
                                                    refine lv_iload hx hb dX12_isWord_41 (lv_at hl 0 rfl) ?_
                                                    refine lv_if_ne (tgt := 50) hx hb dX12_isWord_43 (by decide) (fun c46 => ?_) (fun c46 => ?_)
                                                    · skip
                                                      refine lv_iload hx hb dX12_isWord_50 (lv_at hl 0 rfl) ?_
                                                      refine lv_iconst (v := 1) hx hb dX12_isWord_52 (by decide) ?_
                                                      refine lv_icmp_ne (tgt := 60) hx hb dX12_isWord_53 (by decide) (fun c47 => ?_) (fun c47 => ?_)
                                                      · skip
                                                        refine lv_iload hx hb dX12_isWord_60 (lv_at hl 0 rfl) ?_
                                                        refine lv_iconst (v := 2) hx hb dX12_isWord_62 (by decide) ?_
                                                        refine lv_icmp_ne (tgt := 71) hx hb dX12_isWord_63 (by decide) (fun c48 => ?_) (fun c48 => ?_)
                                                        · skip
                                                          refine lv_iload hx hb dX12_isWord_71 (lv_at hl 0 rfl) ?_
                                                          refine lv_iconst (v := 3) hx hb dX12_isWord_73 (by decide) ?_
                                                          refine lv_icmp_ne (tgt := 82) hx hb dX12_isWord_74 (by decide) (fun c49 => ?_) (fun c49 => ?_)
                                                          · skip
                                                            refine lv_iload hx hb dX12_isWord_82 (lv_at hl 0 rfl) ?_
                                                            refine lv_iconst (v := 4) hx hb dX12_isWord_84 (by decide) ?_
                                                            refine lv_icmp_ne (tgt := 93) hx hb dX12_isWord_85 (by decide) (fun c50 => ?_) (fun c50 => ?_)
                                                            · exact absurd rfl c50
                                                            · skip
                                                              refine lv_iload hx hb dX12_isWord_88 (lv_at hl 8 rfl) ?_
                                                              refine lv_goto (tgt := 95) hx hb dX12_isWord_90 (by decide) ?_
                                                              refine lv_icmp_ne (tgt := 102) hx hb dX12_isWord_95 (by decide) (fun c51 => ?_) (fun c51 => ?_)
                                                              · have fc51 := z_ne (rfl : (v45).toInt = _) (by decide : (116 : Int32).toInt = 116) c51
                                                                refine lv_iconst (v := 0) hx hb dX12_isWord_102 (by decide) ?_
                                                                refine lv_istore (lv' := [(8, .int 0), (9, .int 4), (0, .ref h), (1, .int 5), (2, .int 108), (3, .int 101), (4, .int 97), (5, .int 115), (6, .int 116), (7, .int 0)]) hx hb dX12_isWord_103 hl (by decide) rfl (fun ls hl => ?_)
                                                                refine lv_iinc (v := 5) (lv' := [(9, .int 5), (8, .int 0), (0, .ref h), (1, .int 5), (2, .int 108), (3, .int 101), (4, .int 97), (5, .int 115), (6, .int 116), (7, .int 0)]) hx hb dX12_isWord_105 hl (k := 1) rfl (by decide) (by decide) rfl (fun ls hl => ?_)
                                                                refine lv_goto (tgt := 18) hx hb dX12_isWord_108 (by decide) ?_
                                                                refine lv_iload hx hb dX12_isWord_18 (lv_at hl 0 rfl) ?_
                                                                refine lv_iload_n hx hb dX12_isWord_20 rfl (lv_at hl 3 rfl) ?_
                                                                refine lv_icmp_ge (tgt := 111) hx hb dX12_isWord_21 (by decide) (fun c52 => ?_) (fun c52 => ?_)
                                                                · skip
                                                                  refine lv_iload hx hb dX12_isWord_111 (lv_at hl 1 rfl) ?_
                                                                  have : (0 : Int32).toInt = 0 := (by decide)
                                                                  exact W.zret (v := 0) hx hb hr rfl (fun t ht9 hW => ⟨0, rfl, ⟨⟨by decide, by decide⟩, (show (((0 : Int32).toInt = 1 ∧ w_least (fun j => sg ((fa 12 32) j).toInt) ((iv 12 37) : Int32).toInt (((iv 12 37) : Int32).toInt + ((iv 12 38) : Int32).toInt)) ∨ ((0 : Int32).toInt = 0 ∧ ¬ w_least (fun j => sg ((fa 12 32) j).toInt) ((iv 12 37) : Int32).toInt (((iv 12 37) : Int32).toInt + ((iv 12 38) : Int32).toInt))) from (by have q0 := congrArg Int32.toInt (ev7.trans (congrArg (fa 12 32) (show (v6 : Int32).toNatClampNeg = ((iv 12 37).toInt).toNat + 0 from (by show (v6 : Int32).toInt.toNat = _; omega)))); have s0 := sg_i (v7 : Int32).toInt; rw [q0] at s0; have q1 := congrArg Int32.toInt (ev15.trans (congrArg (fa 12 32) (show (v14 : Int32).toNatClampNeg = ((iv 12 37).toInt).toNat + 1 from (by show (v14 : Int32).toInt.toNat = _; omega)))); have s1 := sg_i (v15 : Int32).toInt; rw [q1] at s1; have q2 := congrArg Int32.toInt (ev24.trans (congrArg (fa 12 32) (show (v23 : Int32).toNatClampNeg = ((iv 12 37).toInt).toNat + 2 from (by show (v23 : Int32).toInt.toNat = _; omega)))); have s2 := sg_i (v24 : Int32).toInt; rw [q2] at s2; have q3 := congrArg Int32.toInt (ev34.trans (congrArg (fa 12 32) (show (v33 : Int32).toNatClampNeg = ((iv 12 37).toInt).toNat + 3 from (by show (v33 : Int32).toInt.toNat = _; omega)))); have s3 := sg_i (v34 : Int32).toInt; rw [q3] at s3; have q4 := congrArg Int32.toInt (ev45.trans (congrArg (fa 12 32) (show (v44 : Int32).toNatClampNeg = ((iv 12 37).toInt).toNat + 4 from (by show (v44 : Int32).toInt.toNat = _; omega)))); have s4 := sg_i (v45 : Int32).toInt; rw [q4] at s4; exact Or.inr ⟨by omega, fun h9 => (by have h8 : ((iv 12 37).toInt + (iv 12 38).toInt) - (iv 12 37).toInt = 5 ∧ sg (fa 12 32 (((iv 12 37).toInt).toNat + 0)).toInt = 108 ∧ sg (fa 12 32 (((iv 12 37).toInt).toNat + 1)).toInt = 101 ∧ sg (fa 12 32 (((iv 12 37).toInt).toNat + 2)).toInt = 97 ∧ sg (fa 12 32 (((iv 12 37).toInt).toNat + 3)).toInt = 115 ∧ sg (fa 12 32 (((iv 12 37).toInt).toNat + 4)).toInt = 116 := h9; have h7 := h8.2.2.2.2.2; clear h8 h9; omega)⟩)), (show ((0 : Int32).toInt = 0 ∨ ((iv 12 38) : Int32).toInt = 5) from by omega)⟩, ht9⟩) (fun q hq => by cases hq) dX12_isWord_113
                                                                · exact absurd c52 (by decide)
                                                              · have fc51 := z_eq (rfl : (v45).toInt = _) (by decide : (116 : Int32).toInt = 116) c51
                                                                refine lv_iconst (v := 1) hx hb dX12_isWord_98 (by decide) ?_
                                                                refine lv_goto (tgt := 103) hx hb dX12_isWord_99 (by decide) ?_
                                                                refine lv_istore (lv' := [(8, .int 1), (9, .int 4), (0, .ref h), (1, .int 5), (2, .int 108), (3, .int 101), (4, .int 97), (5, .int 115), (6, .int 116), (7, .int 0)]) hx hb dX12_isWord_103 hl (by decide) rfl (fun ls hl => ?_)
                                                                refine lv_iinc (v := 5) (lv' := [(9, .int 5), (8, .int 1), (0, .ref h), (1, .int 5), (2, .int 108), (3, .int 101), (4, .int 97), (5, .int 115), (6, .int 116), (7, .int 0)]) hx hb dX12_isWord_105 hl (k := 1) rfl (by decide) (by decide) rfl (fun ls hl => ?_)
                                                                refine lv_goto (tgt := 18) hx hb dX12_isWord_108 (by decide) ?_
                                                                refine lv_iload hx hb dX12_isWord_18 (lv_at hl 0 rfl) ?_
                                                                refine lv_iload_n hx hb dX12_isWord_20 rfl (lv_at hl 3 rfl) ?_
                                                                refine lv_icmp_ge (tgt := 111) hx hb dX12_isWord_21 (by decide) (fun c53 => ?_) (fun c53 => ?_)
                                                                · skip
                                                                  refine lv_iload hx hb dX12_isWord_111 (lv_at hl 1 rfl) ?_
                                                                  have : (1 : Int32).toInt = 1 := (by decide)
                                                                  exact W.zret (v := 1) hx hb hr rfl (fun t ht9 hW => ⟨1, rfl, ⟨⟨by decide, by decide⟩, (show (((1 : Int32).toInt = 1 ∧ w_least (fun j => sg ((fa 12 32) j).toInt) ((iv 12 37) : Int32).toInt (((iv 12 37) : Int32).toInt + ((iv 12 38) : Int32).toInt)) ∨ ((1 : Int32).toInt = 0 ∧ ¬ w_least (fun j => sg ((fa 12 32) j).toInt) ((iv 12 37) : Int32).toInt (((iv 12 37) : Int32).toInt + ((iv 12 38) : Int32).toInt))) from (by have q0 := congrArg Int32.toInt (ev7.trans (congrArg (fa 12 32) (show (v6 : Int32).toNatClampNeg = ((iv 12 37).toInt).toNat + 0 from (by show (v6 : Int32).toInt.toNat = _; omega)))); have s0 := sg_i (v7 : Int32).toInt; rw [q0] at s0; have q1 := congrArg Int32.toInt (ev15.trans (congrArg (fa 12 32) (show (v14 : Int32).toNatClampNeg = ((iv 12 37).toInt).toNat + 1 from (by show (v14 : Int32).toInt.toNat = _; omega)))); have s1 := sg_i (v15 : Int32).toInt; rw [q1] at s1; have q2 := congrArg Int32.toInt (ev24.trans (congrArg (fa 12 32) (show (v23 : Int32).toNatClampNeg = ((iv 12 37).toInt).toNat + 2 from (by show (v23 : Int32).toInt.toNat = _; omega)))); have s2 := sg_i (v24 : Int32).toInt; rw [q2] at s2; have q3 := congrArg Int32.toInt (ev34.trans (congrArg (fa 12 32) (show (v33 : Int32).toNatClampNeg = ((iv 12 37).toInt).toNat + 3 from (by show (v33 : Int32).toInt.toNat = _; omega)))); have s3 := sg_i (v34 : Int32).toInt; rw [q3] at s3; have q4 := congrArg Int32.toInt (ev45.trans (congrArg (fa 12 32) (show (v44 : Int32).toNatClampNeg = ((iv 12 37).toInt).toNat + 4 from (by show (v44 : Int32).toInt.toNat = _; omega)))); have s4 := sg_i (v45 : Int32).toInt; rw [q4] at s4; exact Or.inl ⟨by omega, (show ((iv 12 37).toInt + (iv 12 38).toInt) - (iv 12 37).toInt = 5 ∧ sg (fa 12 32 (((iv 12 37).toInt).toNat + 0)).toInt = 108 ∧ sg (fa 12 32 (((iv 12 37).toInt).toNat + 1)).toInt = 101 ∧ sg (fa 12 32 (((iv 12 37).toInt).toNat + 2)).toInt = 97 ∧ sg (fa 12 32 (((iv 12 37).toInt).toNat + 3)).toInt = 115 ∧ sg (fa 12 32 (((iv 12 37).toInt).toNat + 4)).toInt = 116 from ⟨by omega, by omega, by omega, by omega, by omega, by omega⟩)⟩)), (show ((1 : Int32).toInt = 0 ∨ ((iv 12 38) : Int32).toInt = 5) from by omega)⟩, ht9⟩) (fun q hq => by cases hq) dX12_isWord_113
                                                                · exact absurd c53 (by decide)
                                                          · exact absurd c49 (by decide)
                                                        · exact absurd c48 (by decide)
                                                      · exact absurd c47 (by decide)
                                                    · exact absurd c46 (by decide)
                                          · exact absurd c37 (by decide)
                                        · exact absurd c36 (by decide)
                                      · exact absurd c35 (by decide)
                            · exact absurd c26 (by decide)
                          · exact absurd c25 (by decide)
                · exact absurd c16 (by decide)
set_option maxHeartbeats 4000000 in
set_option maxRecDepth 100000 in
/-- X12_isWord -/
theorem c_X12_isWord_r_middle (l : Launch) (dC : Nat → ClassId) (dI : Nat → Nat → Nat) (h : Nat) (g : Nat → Nat → Nat) (ca : Nat → Nat → ClassId) (iv : Nat → Nat → Int32) (lv : Nat → Nat → Int64) (fa : Nat → Nat → Nat → Int32) (la : Nat → Nat → Nat → Int64) (hI : IX iv fa) (p_0 : (iv 12 37).toInt + (iv 12 38).toInt ≤ 200) : Met l yX12_isWord (wc yX12_isWord cX12_isWord 10 (some .boolean)) ({ frames := 0, cells := 0, slots := 0, locals := 0 } : Room) (pR (dC, dI) classes (WM h g ca iv lv fa la) (TM ca) [.ref h, .int 6, .int 109, .int 105, .int 100, .int 100, .int 108, .int 101]) (vp_Si (fun r => (0 ≤ r.toInt ∧ r.toInt ≤ 1) ∧ (((r.toInt = 1 ∧ w_middle (fun j => sg ((fa 12 32) j).toInt) (iv 12 37).toInt ((iv 12 37).toInt + (iv 12 38).toInt)) ∨ (r.toInt = 0 ∧ ¬ w_middle (fun j => sg ((fa 12 32) j).toInt) (iv 12 37).toInt ((iv 12 37).toInt + (iv 12 38).toInt)))) ∧ ((r.toInt = 0 ∨ (iv 12 38).toInt = 6)))) 0 0 (fun _ => False) := by
  refine Met.ofW (cc := cX12_isWord) (maxL := 10) (ret := (some .boolean)) (by decide) rfl ?_
  intro p e s m args below meth c s₁ B hml hv
  obtain ⟨rfl, hP, hK⟩ := hv
  have hx := B.exec
  have hb := B.bytes
  have hr := B.returns
  have ht := tb_tl (atoms_spec (ws := wc yX12_isWord cX12_isWord 10 (some .boolean)) B.pre)
  have hown : s.vm.findClass RX12 = some m.cls := findClass_of_methodNamed B.named
  have hlocks := B.notSynchronized
  have hl := lv_entry [.ref h, .int 6, .int 109, .int 105, .int 100, .int 100, .int 108, .int 101] (n := 10) (Nat.le_of_ble_eq_true rfl)
  rw [lg_entry_eq]
  generalize (lg_sl [.ref h, .int 6, .int 109, .int 105, .int 100, .int 100, .int 108, .int 101] ++ List.replicate (10 - (lg_sl [.ref h, .int 6, .int 109, .int 105, .int 100, .int 100, .int 108, .int 101]).length) Slot.unset).toArray = ls at hl ⊢
  have hl : lv_has ls 10 [(0, .ref h), (1, .int 6), (2, .int 109), (3, .int 105), (4, .int 100), (5, .int 100), (6, .int 108), (7, .int 101)] := hl
  refine lv_aload_n hx hb dX12_isWord_0 rfl (lv_at hl 0 rfl) ?_
  have i_12_38 : 0 ≤ (iv 12 38).toInt ∧ (iv 12 38).toInt ≤ 200 := hI.1 12 38
  refine gM_12_38 hx hb ht hown hK hP m_1177 (v := (iv 12 38)) rfl dX12_isWord_1 ?_
  refine lv_iload_n hx hb dX12_isWord_4 rfl (lv_at hl 1 rfl) ?_
  refine lv_icmp_ne (tgt := 12) hx hb dX12_isWord_5 (by decide) (fun c1 => ?_) (fun c1 => ?_)
  · have fc1 := z_ne (rfl : ((iv 12 38)).toInt = _) (by decide : (6 : Int32).toInt = 6) c1
    refine lv_iconst (v := 0) hx hb dX12_isWord_12 (by decide) ?_
    refine lv_istore (lv' := [(8, .int 0), (0, .ref h), (1, .int 6), (2, .int 109), (3, .int 105), (4, .int 100), (5, .int 100), (6, .int 108), (7, .int 101)]) hx hb dX12_isWord_13 hl (by decide) rfl (fun ls hl => ?_)
    refine lv_iconst (v := 0) hx hb dX12_isWord_15 (by decide) ?_
    refine lv_istore (lv' := [(9, .int 0), (8, .int 0), (0, .ref h), (1, .int 6), (2, .int 109), (3, .int 105), (4, .int 100), (5, .int 100), (6, .int 108), (7, .int 101)]) hx hb dX12_isWord_16 hl (by decide) rfl (fun ls hl => ?_)
    refine lv_iload hx hb dX12_isWord_18 (lv_at hl 0 rfl) ?_
    refine lv_iload_n hx hb dX12_isWord_20 rfl (lv_at hl 3 rfl) ?_
    refine lv_icmp_ge (tgt := 111) hx hb dX12_isWord_21 (by decide) (fun c2 => ?_) (fun c2 => ?_)
    · exact absurd c2 (by decide)
    · skip
      refine lv_iload hx hb dX12_isWord_24 (lv_at hl 1 rfl) ?_
      refine lv_if_eq (tgt := 111) hx hb dX12_isWord_26 (by decide) (fun c3 => ?_) (fun c3 => ?_)
      · skip
        refine lv_iload hx hb dX12_isWord_111 (lv_at hl 1 rfl) ?_
        have : (0 : Int32).toInt = 0 := (by decide)
        have i_12_37 : 0 ≤ (iv 12 37).toInt ∧ (iv 12 37).toInt ≤ 200 := hI.1 12 37
        exact W.zret (v := 0) hx hb hr rfl (fun t ht9 hW => ⟨0, rfl, ⟨⟨by decide, by decide⟩, (show (((0 : Int32).toInt = 1 ∧ w_middle (fun j => sg ((fa 12 32) j).toInt) ((iv 12 37) : Int32).toInt (((iv 12 37) : Int32).toInt + ((iv 12 38) : Int32).toInt)) ∨ ((0 : Int32).toInt = 0 ∧ ¬ w_middle (fun j => sg ((fa 12 32) j).toInt) ((iv 12 37) : Int32).toInt (((iv 12 37) : Int32).toInt + ((iv 12 38) : Int32).toInt))) from (by exact Or.inr ⟨by omega, fun h9 => (by have h8 : ((iv 12 37).toInt + (iv 12 38).toInt) - (iv 12 37).toInt = 6 ∧ sg (fa 12 32 (((iv 12 37).toInt).toNat + 0)).toInt = 109 ∧ sg (fa 12 32 (((iv 12 37).toInt).toNat + 1)).toInt = 105 ∧ sg (fa 12 32 (((iv 12 37).toInt).toNat + 2)).toInt = 100 ∧ sg (fa 12 32 (((iv 12 37).toInt).toNat + 3)).toInt = 100 ∧ sg (fa 12 32 (((iv 12 37).toInt).toNat + 4)).toInt = 108 ∧ sg (fa 12 32 (((iv 12 37).toInt).toNat + 5)).toInt = 101 := h9; have h7 := h8.1; omega)⟩)), (show ((0 : Int32).toInt = 0 ∨ ((iv 12 38) : Int32).toInt = 6) from by omega)⟩, ht9⟩) (fun q hq => by cases hq) dX12_isWord_113
      · exact absurd rfl c3
  · have fc1 := z_eq (rfl : ((iv 12 38)).toInt = _) (by decide : (6 : Int32).toInt = 6) c1
    refine lv_iconst (v := 1) hx hb dX12_isWord_8 (by decide) ?_
    refine lv_goto (tgt := 13) hx hb dX12_isWord_9 (by decide) ?_
    refine lv_istore (lv' := [(8, .int 1), (0, .ref h), (1, .int 6), (2, .int 109), (3, .int 105), (4, .int 100), (5, .int 100), (6, .int 108), (7, .int 101)]) hx hb dX12_isWord_13 hl (by decide) rfl (fun ls hl => ?_)
    refine lv_iconst (v := 0) hx hb dX12_isWord_15 (by decide) ?_
    refine lv_istore (lv' := [(9, .int 0), (8, .int 1), (0, .ref h), (1, .int 6), (2, .int 109), (3, .int 105), (4, .int 100), (5, .int 100), (6, .int 108), (7, .int 101)]) hx hb dX12_isWord_16 hl (by decide) rfl (fun ls hl => ?_)
    refine lv_iload hx hb dX12_isWord_18 (lv_at hl 0 rfl) ?_
    refine lv_iload_n hx hb dX12_isWord_20 rfl (lv_at hl 3 rfl) ?_
    refine lv_icmp_ge (tgt := 111) hx hb dX12_isWord_21 (by decide) (fun c4 => ?_) (fun c4 => ?_)
    · exact absurd c4 (by decide)
    · skip
      refine lv_iload hx hb dX12_isWord_24 (lv_at hl 1 rfl) ?_
      refine lv_if_eq (tgt := 111) hx hb dX12_isWord_26 (by decide) (fun c5 => ?_) (fun c5 => ?_)
      · exact absurd c5 (by decide)
      · skip
        refine lv_aload_n hx hb dX12_isWord_29 rfl (lv_at hl 2 rfl) ?_
        refine gM_12_32 hx hb ht hown hK hP m_1171 dX12_isWord_30 ?_
        refine lv_aload_n hx hb dX12_isWord_33 rfl (lv_at hl 2 rfl) ?_
        have i_12_37 : 0 ≤ (iv 12 37).toInt ∧ (iv 12 37).toInt ≤ 200 := hI.1 12 37
        refine gM_12_37 hx hb ht hown hK hP m_1176 (v := (iv 12 37)) rfl dX12_isWord_34 ?_
        refine lv_iload hx hb dX12_isWord_37 (lv_at hl 0 rfl) ?_
        refine lv_iadd hx hb dX12_isWord_39 ?_
        refine lv_topi (fun v6 ev6 => ?_)
        have tv6 := z_add ev6 (rfl : ((iv 12 37)).toInt = _) (by decide : (0 : Int32).toInt = 0) (by omega) (by omega)
        have : 0 ≤ (v6 : Int32).toInt ∧ (v6 : Int32).toInt ≤ 199 := ⟨by omega, by omega⟩
        refine lM_12_32 hx hb hK hP (f := (fa 12 32)) rfl (vp_in_iff.mpr ⟨by omega, by omega⟩) dX12_isWord_40 ?_
        refine lv_topi (fun v7 ev7 => ?_)
        refine lv_iload hx hb dX12_isWord_41 (lv_at hl 0 rfl) ?_
        refine lv_if_ne (tgt := 50) hx hb dX12_isWord_43 (by decide) (fun c8 => ?_) (fun c8 => ?_)
        · exact absurd rfl c8
        · skip
          refine lv_iload_n hx hb dX12_isWord_46 rfl (lv_at hl 4 rfl) ?_
          refine lv_goto (tgt := 95) hx hb dX12_isWord_47 (by decide) ?_
          refine lv_icmp_ne (tgt := 102) hx hb dX12_isWord_95 (by decide) (fun c9 => ?_) (fun c9 => ?_)
          · have fc9 := z_ne (rfl : (v7).toInt = _) (by decide : (109 : Int32).toInt = 109) c9
            refine lv_iconst (v := 0) hx hb dX12_isWord_102 (by decide) ?_
            refine lv_istore (lv' := [(8, .int 0), (9, .int 0), (0, .ref h), (1, .int 6), (2, .int 109), (3, .int 105), (4, .int 100), (5, .int 100), (6, .int 108), (7, .int 101)]) hx hb dX12_isWord_103 hl (by decide) rfl (fun ls hl => ?_)
            refine lv_iinc (v := 1) (lv' := [(9, .int 1), (8, .int 0), (0, .ref h), (1, .int 6), (2, .int 109), (3, .int 105), (4, .int 100), (5, .int 100), (6, .int 108), (7, .int 101)]) hx hb dX12_isWord_105 hl (k := 1) rfl (by decide) (by decide) rfl (fun ls hl => ?_)
            refine lv_goto (tgt := 18) hx hb dX12_isWord_108 (by decide) ?_
            refine lv_iload hx hb dX12_isWord_18 (lv_at hl 0 rfl) ?_
            refine lv_iload_n hx hb dX12_isWord_20 rfl (lv_at hl 3 rfl) ?_
            refine lv_icmp_ge (tgt := 111) hx hb dX12_isWord_21 (by decide) (fun c10 => ?_) (fun c10 => ?_)
            · exact absurd c10 (by decide)
            · skip
              refine lv_iload hx hb dX12_isWord_24 (lv_at hl 1 rfl) ?_
              refine lv_if_eq (tgt := 111) hx hb dX12_isWord_26 (by decide) (fun c11 => ?_) (fun c11 => ?_)
              · skip
                refine lv_iload hx hb dX12_isWord_111 (lv_at hl 1 rfl) ?_
                have : (0 : Int32).toInt = 0 := (by decide)
                exact W.zret (v := 0) hx hb hr rfl (fun t ht9 hW => ⟨0, rfl, ⟨⟨by decide, by decide⟩, (show (((0 : Int32).toInt = 1 ∧ w_middle (fun j => sg ((fa 12 32) j).toInt) ((iv 12 37) : Int32).toInt (((iv 12 37) : Int32).toInt + ((iv 12 38) : Int32).toInt)) ∨ ((0 : Int32).toInt = 0 ∧ ¬ w_middle (fun j => sg ((fa 12 32) j).toInt) ((iv 12 37) : Int32).toInt (((iv 12 37) : Int32).toInt + ((iv 12 38) : Int32).toInt))) from (by have q0 := congrArg Int32.toInt (ev7.trans (congrArg (fa 12 32) (show (v6 : Int32).toNatClampNeg = ((iv 12 37).toInt).toNat + 0 from (by show (v6 : Int32).toInt.toNat = _; omega)))); have s0 := sg_i (v7 : Int32).toInt; rw [q0] at s0; exact Or.inr ⟨by omega, fun h9 => (by have h8 : ((iv 12 37).toInt + (iv 12 38).toInt) - (iv 12 37).toInt = 6 ∧ sg (fa 12 32 (((iv 12 37).toInt).toNat + 0)).toInt = 109 ∧ sg (fa 12 32 (((iv 12 37).toInt).toNat + 1)).toInt = 105 ∧ sg (fa 12 32 (((iv 12 37).toInt).toNat + 2)).toInt = 100 ∧ sg (fa 12 32 (((iv 12 37).toInt).toNat + 3)).toInt = 100 ∧ sg (fa 12 32 (((iv 12 37).toInt).toNat + 4)).toInt = 108 ∧ sg (fa 12 32 (((iv 12 37).toInt).toNat + 5)).toInt = 101 := h9; have h7 := h8.2.1; clear h8 h9; omega)⟩)), (show ((0 : Int32).toInt = 0 ∨ ((iv 12 38) : Int32).toInt = 6) from by omega)⟩, ht9⟩) (fun q hq => by cases hq) dX12_isWord_113
              · exact absurd rfl c11
          · have fc9 := z_eq (rfl : (v7).toInt = _) (by decide : (109 : Int32).toInt = 109) c9
            refine lv_iconst (v := 1) hx hb dX12_isWord_98 (by decide) ?_
            refine lv_goto (tgt := 103) hx hb dX12_isWord_99 (by decide) ?_
            refine lv_istore (lv' := [(8, .int 1), (9, .int 0), (0, .ref h), (1, .int 6), (2, .int 109), (3, .int 105), (4, .int 100), (5, .int 100), (6, .int 108), (7, .int 101)]) hx hb dX12_isWord_103 hl (by decide) rfl (fun ls hl => ?_)
            refine lv_iinc (v := 1) (lv' := [(9, .int 1), (8, .int 1), (0, .ref h), (1, .int 6), (2, .int 109), (3, .int 105), (4, .int 100), (5, .int 100), (6, .int 108), (7, .int 101)]) hx hb dX12_isWord_105 hl (k := 1) rfl (by decide) (by decide) rfl (fun ls hl => ?_)
            refine lv_goto (tgt := 18) hx hb dX12_isWord_108 (by decide) ?_
            refine lv_iload hx hb dX12_isWord_18 (lv_at hl 0 rfl) ?_
            refine lv_iload_n hx hb dX12_isWord_20 rfl (lv_at hl 3 rfl) ?_
            refine lv_icmp_ge (tgt := 111) hx hb dX12_isWord_21 (by decide) (fun c12 => ?_) (fun c12 => ?_)
            · exact absurd c12 (by decide)
            · skip
              refine lv_iload hx hb dX12_isWord_24 (lv_at hl 1 rfl) ?_
              refine lv_if_eq (tgt := 111) hx hb dX12_isWord_26 (by decide) (fun c13 => ?_) (fun c13 => ?_)
              · exact absurd c13 (by decide)
              · skip
                refine lv_aload_n hx hb dX12_isWord_29 rfl (lv_at hl 2 rfl) ?_
                refine gM_12_32 hx hb ht hown hK hP m_1171 dX12_isWord_30 ?_
                refine lv_aload_n hx hb dX12_isWord_33 rfl (lv_at hl 2 rfl) ?_
                refine gM_12_37 hx hb ht hown hK hP m_1176 (v := (iv 12 37)) rfl dX12_isWord_34 ?_
                refine lv_iload hx hb dX12_isWord_37 (lv_at hl 0 rfl) ?_
                refine lv_iadd hx hb dX12_isWord_39 ?_
                refine lv_topi (fun v14 ev14 => ?_)
                have tv14 := z_add ev14 (rfl : ((iv 12 37)).toInt = _) (by decide : (1 : Int32).toInt = 1) (by omega) (by omega)
                have : 0 ≤ (v14 : Int32).toInt ∧ (v14 : Int32).toInt ≤ 199 := ⟨by omega, by omega⟩
                refine lM_12_32 hx hb hK hP (f := (fa 12 32)) rfl (vp_in_iff.mpr ⟨by omega, by omega⟩) dX12_isWord_40 ?_
                refine lv_topi (fun v15 ev15 => ?_)
                refine lv_iload hx hb dX12_isWord_41 (lv_at hl 0 rfl) ?_
                refine lv_if_ne (tgt := 50) hx hb dX12_isWord_43 (by decide) (fun c16 => ?_) (fun c16 => ?_)
                · skip
                  refine lv_iload hx hb dX12_isWord_50 (lv_at hl 0 rfl) ?_
                  refine lv_iconst (v := 1) hx hb dX12_isWord_52 (by decide) ?_
                  refine lv_icmp_ne (tgt := 60) hx hb dX12_isWord_53 (by decide) (fun c17 => ?_) (fun c17 => ?_)
                  · exact absurd rfl c17
                  · skip
                    refine lv_iload_n hx hb dX12_isWord_56 rfl (lv_at hl 5 rfl) ?_
                    refine lv_goto (tgt := 95) hx hb dX12_isWord_57 (by decide) ?_
                    refine lv_icmp_ne (tgt := 102) hx hb dX12_isWord_95 (by decide) (fun c18 => ?_) (fun c18 => ?_)
                    · have fc18 := z_ne (rfl : (v15).toInt = _) (by decide : (105 : Int32).toInt = 105) c18
                      refine lv_iconst (v := 0) hx hb dX12_isWord_102 (by decide) ?_
                      refine lv_istore (lv' := [(8, .int 0), (9, .int 1), (0, .ref h), (1, .int 6), (2, .int 109), (3, .int 105), (4, .int 100), (5, .int 100), (6, .int 108), (7, .int 101)]) hx hb dX12_isWord_103 hl (by decide) rfl (fun ls hl => ?_)
                      refine lv_iinc (v := 2) (lv' := [(9, .int 2), (8, .int 0), (0, .ref h), (1, .int 6), (2, .int 109), (3, .int 105), (4, .int 100), (5, .int 100), (6, .int 108), (7, .int 101)]) hx hb dX12_isWord_105 hl (k := 1) rfl (by decide) (by decide) rfl (fun ls hl => ?_)
                      refine lv_goto (tgt := 18) hx hb dX12_isWord_108 (by decide) ?_
                      refine lv_iload hx hb dX12_isWord_18 (lv_at hl 0 rfl) ?_
                      refine lv_iload_n hx hb dX12_isWord_20 rfl (lv_at hl 3 rfl) ?_
                      refine lv_icmp_ge (tgt := 111) hx hb dX12_isWord_21 (by decide) (fun c19 => ?_) (fun c19 => ?_)
                      · exact absurd c19 (by decide)
                      · skip
                        refine lv_iload hx hb dX12_isWord_24 (lv_at hl 1 rfl) ?_
                        refine lv_if_eq (tgt := 111) hx hb dX12_isWord_26 (by decide) (fun c20 => ?_) (fun c20 => ?_)
                        · skip
                          refine lv_iload hx hb dX12_isWord_111 (lv_at hl 1 rfl) ?_
                          have : (0 : Int32).toInt = 0 := (by decide)
                          exact W.zret (v := 0) hx hb hr rfl (fun t ht9 hW => ⟨0, rfl, ⟨⟨by decide, by decide⟩, (show (((0 : Int32).toInt = 1 ∧ w_middle (fun j => sg ((fa 12 32) j).toInt) ((iv 12 37) : Int32).toInt (((iv 12 37) : Int32).toInt + ((iv 12 38) : Int32).toInt)) ∨ ((0 : Int32).toInt = 0 ∧ ¬ w_middle (fun j => sg ((fa 12 32) j).toInt) ((iv 12 37) : Int32).toInt (((iv 12 37) : Int32).toInt + ((iv 12 38) : Int32).toInt))) from (by have q0 := congrArg Int32.toInt (ev7.trans (congrArg (fa 12 32) (show (v6 : Int32).toNatClampNeg = ((iv 12 37).toInt).toNat + 0 from (by show (v6 : Int32).toInt.toNat = _; omega)))); have s0 := sg_i (v7 : Int32).toInt; rw [q0] at s0; have q1 := congrArg Int32.toInt (ev15.trans (congrArg (fa 12 32) (show (v14 : Int32).toNatClampNeg = ((iv 12 37).toInt).toNat + 1 from (by show (v14 : Int32).toInt.toNat = _; omega)))); have s1 := sg_i (v15 : Int32).toInt; rw [q1] at s1; exact Or.inr ⟨by omega, fun h9 => (by have h8 : ((iv 12 37).toInt + (iv 12 38).toInt) - (iv 12 37).toInt = 6 ∧ sg (fa 12 32 (((iv 12 37).toInt).toNat + 0)).toInt = 109 ∧ sg (fa 12 32 (((iv 12 37).toInt).toNat + 1)).toInt = 105 ∧ sg (fa 12 32 (((iv 12 37).toInt).toNat + 2)).toInt = 100 ∧ sg (fa 12 32 (((iv 12 37).toInt).toNat + 3)).toInt = 100 ∧ sg (fa 12 32 (((iv 12 37).toInt).toNat + 4)).toInt = 108 ∧ sg (fa 12 32 (((iv 12 37).toInt).toNat + 5)).toInt = 101 := h9; have h7 := h8.2.2.1; clear h8 h9; omega)⟩)), (show ((0 : Int32).toInt = 0 ∨ ((iv 12 38) : Int32).toInt = 6) from by omega)⟩, ht9⟩) (fun q hq => by cases hq) dX12_isWord_113
                        · exact absurd rfl c20
                    · have fc18 := z_eq (rfl : (v15).toInt = _) (by decide : (105 : Int32).toInt = 105) c18
                      refine lv_iconst (v := 1) hx hb dX12_isWord_98 (by decide) ?_
                      refine lv_goto (tgt := 103) hx hb dX12_isWord_99 (by decide) ?_
                      refine lv_istore (lv' := [(8, .int 1), (9, .int 1), (0, .ref h), (1, .int 6), (2, .int 109), (3, .int 105), (4, .int 100), (5, .int 100), (6, .int 108), (7, .int 101)]) hx hb dX12_isWord_103 hl (by decide) rfl (fun ls hl => ?_)
                      refine lv_iinc (v := 2) (lv' := [(9, .int 2), (8, .int 1), (0, .ref h), (1, .int 6), (2, .int 109), (3, .int 105), (4, .int 100), (5, .int 100), (6, .int 108), (7, .int 101)]) hx hb dX12_isWord_105 hl (k := 1) rfl (by decide) (by decide) rfl (fun ls hl => ?_)
                      refine lv_goto (tgt := 18) hx hb dX12_isWord_108 (by decide) ?_
                      refine lv_iload hx hb dX12_isWord_18 (lv_at hl 0 rfl) ?_
                      refine lv_iload_n hx hb dX12_isWord_20 rfl (lv_at hl 3 rfl) ?_
                      refine lv_icmp_ge (tgt := 111) hx hb dX12_isWord_21 (by decide) (fun c21 => ?_) (fun c21 => ?_)
                      · exact absurd c21 (by decide)
                      · skip
                        refine lv_iload hx hb dX12_isWord_24 (lv_at hl 1 rfl) ?_
                        refine lv_if_eq (tgt := 111) hx hb dX12_isWord_26 (by decide) (fun c22 => ?_) (fun c22 => ?_)
                        · exact absurd c22 (by decide)
                        · skip
                          refine lv_aload_n hx hb dX12_isWord_29 rfl (lv_at hl 2 rfl) ?_
                          refine gM_12_32 hx hb ht hown hK hP m_1171 dX12_isWord_30 ?_
                          refine lv_aload_n hx hb dX12_isWord_33 rfl (lv_at hl 2 rfl) ?_
                          refine gM_12_37 hx hb ht hown hK hP m_1176 (v := (iv 12 37)) rfl dX12_isWord_34 ?_
                          refine lv_iload hx hb dX12_isWord_37 (lv_at hl 0 rfl) ?_
                          refine lv_iadd hx hb dX12_isWord_39 ?_
                          refine lv_topi (fun v23 ev23 => ?_)
                          have tv23 := z_add ev23 (rfl : ((iv 12 37)).toInt = _) (by decide : (2 : Int32).toInt = 2) (by omega) (by omega)
                          have : 0 ≤ (v23 : Int32).toInt ∧ (v23 : Int32).toInt ≤ 199 := ⟨by omega, by omega⟩
                          refine lM_12_32 hx hb hK hP (f := (fa 12 32)) rfl (vp_in_iff.mpr ⟨by omega, by omega⟩) dX12_isWord_40 ?_
                          refine lv_topi (fun v24 ev24 => ?_)
                          refine lv_iload hx hb dX12_isWord_41 (lv_at hl 0 rfl) ?_
                          refine lv_if_ne (tgt := 50) hx hb dX12_isWord_43 (by decide) (fun c25 => ?_) (fun c25 => ?_)
                          · skip
                            refine lv_iload hx hb dX12_isWord_50 (lv_at hl 0 rfl) ?_
                            refine lv_iconst (v := 1) hx hb dX12_isWord_52 (by decide) ?_
                            refine lv_icmp_ne (tgt := 60) hx hb dX12_isWord_53 (by decide) (fun c26 => ?_) (fun c26 => ?_)
                            · skip
                              refine lv_iload hx hb dX12_isWord_60 (lv_at hl 0 rfl) ?_
                              refine lv_iconst (v := 2) hx hb dX12_isWord_62 (by decide) ?_
                              refine lv_icmp_ne (tgt := 71) hx hb dX12_isWord_63 (by decide) (fun c27 => ?_) (fun c27 => ?_)
                              · exact absurd rfl c27
                              · skip
                                refine lv_iload hx hb dX12_isWord_66 (lv_at hl 6 rfl) ?_
                                refine lv_goto (tgt := 95) hx hb dX12_isWord_68 (by decide) ?_
                                refine lv_icmp_ne (tgt := 102) hx hb dX12_isWord_95 (by decide) (fun c28 => ?_) (fun c28 => ?_)
                                · have fc28 := z_ne (rfl : (v24).toInt = _) (by decide : (100 : Int32).toInt = 100) c28
                                  refine lv_iconst (v := 0) hx hb dX12_isWord_102 (by decide) ?_
                                  refine lv_istore (lv' := [(8, .int 0), (9, .int 2), (0, .ref h), (1, .int 6), (2, .int 109), (3, .int 105), (4, .int 100), (5, .int 100), (6, .int 108), (7, .int 101)]) hx hb dX12_isWord_103 hl (by decide) rfl (fun ls hl => ?_)
                                  refine lv_iinc (v := 3) (lv' := [(9, .int 3), (8, .int 0), (0, .ref h), (1, .int 6), (2, .int 109), (3, .int 105), (4, .int 100), (5, .int 100), (6, .int 108), (7, .int 101)]) hx hb dX12_isWord_105 hl (k := 1) rfl (by decide) (by decide) rfl (fun ls hl => ?_)
                                  refine lv_goto (tgt := 18) hx hb dX12_isWord_108 (by decide) ?_
                                  refine lv_iload hx hb dX12_isWord_18 (lv_at hl 0 rfl) ?_
                                  refine lv_iload_n hx hb dX12_isWord_20 rfl (lv_at hl 3 rfl) ?_
                                  refine lv_icmp_ge (tgt := 111) hx hb dX12_isWord_21 (by decide) (fun c29 => ?_) (fun c29 => ?_)
                                  · exact absurd c29 (by decide)
                                  · skip
                                    refine lv_iload hx hb dX12_isWord_24 (lv_at hl 1 rfl) ?_
                                    refine lv_if_eq (tgt := 111) hx hb dX12_isWord_26 (by decide) (fun c30 => ?_) (fun c30 => ?_)
                                    · skip
                                      refine lv_iload hx hb dX12_isWord_111 (lv_at hl 1 rfl) ?_
                                      have : (0 : Int32).toInt = 0 := (by decide)
                                      exact W.zret (v := 0) hx hb hr rfl (fun t ht9 hW => ⟨0, rfl, ⟨⟨by decide, by decide⟩, (show (((0 : Int32).toInt = 1 ∧ w_middle (fun j => sg ((fa 12 32) j).toInt) ((iv 12 37) : Int32).toInt (((iv 12 37) : Int32).toInt + ((iv 12 38) : Int32).toInt)) ∨ ((0 : Int32).toInt = 0 ∧ ¬ w_middle (fun j => sg ((fa 12 32) j).toInt) ((iv 12 37) : Int32).toInt (((iv 12 37) : Int32).toInt + ((iv 12 38) : Int32).toInt))) from (by have q0 := congrArg Int32.toInt (ev7.trans (congrArg (fa 12 32) (show (v6 : Int32).toNatClampNeg = ((iv 12 37).toInt).toNat + 0 from (by show (v6 : Int32).toInt.toNat = _; omega)))); have s0 := sg_i (v7 : Int32).toInt; rw [q0] at s0; have q1 := congrArg Int32.toInt (ev15.trans (congrArg (fa 12 32) (show (v14 : Int32).toNatClampNeg = ((iv 12 37).toInt).toNat + 1 from (by show (v14 : Int32).toInt.toNat = _; omega)))); have s1 := sg_i (v15 : Int32).toInt; rw [q1] at s1; have q2 := congrArg Int32.toInt (ev24.trans (congrArg (fa 12 32) (show (v23 : Int32).toNatClampNeg = ((iv 12 37).toInt).toNat + 2 from (by show (v23 : Int32).toInt.toNat = _; omega)))); have s2 := sg_i (v24 : Int32).toInt; rw [q2] at s2; exact Or.inr ⟨by omega, fun h9 => (by have h8 : ((iv 12 37).toInt + (iv 12 38).toInt) - (iv 12 37).toInt = 6 ∧ sg (fa 12 32 (((iv 12 37).toInt).toNat + 0)).toInt = 109 ∧ sg (fa 12 32 (((iv 12 37).toInt).toNat + 1)).toInt = 105 ∧ sg (fa 12 32 (((iv 12 37).toInt).toNat + 2)).toInt = 100 ∧ sg (fa 12 32 (((iv 12 37).toInt).toNat + 3)).toInt = 100 ∧ sg (fa 12 32 (((iv 12 37).toInt).toNat + 4)).toInt = 108 ∧ sg (fa 12 32 (((iv 12 37).toInt).toNat + 5)).toInt = 101 := h9; have h7 := h8.2.2.2.1; clear h8 h9; omega)⟩)), (show ((0 : Int32).toInt = 0 ∨ ((iv 12 38) : Int32).toInt = 6) from by omega)⟩, ht9⟩) (fun q hq => by cases hq) dX12_isWord_113
                                    · exact absurd rfl c30
                                · have fc28 := z_eq (rfl : (v24).toInt = _) (by decide : (100 : Int32).toInt = 100) c28
                                  refine lv_iconst (v := 1) hx hb dX12_isWord_98 (by decide) ?_
                                  refine lv_goto (tgt := 103) hx hb dX12_isWord_99 (by decide) ?_
                                  refine lv_istore (lv' := [(8, .int 1), (9, .int 2), (0, .ref h), (1, .int 6), (2, .int 109), (3, .int 105), (4, .int 100), (5, .int 100), (6, .int 108), (7, .int 101)]) hx hb dX12_isWord_103 hl (by decide) rfl (fun ls hl => ?_)
                                  refine lv_iinc (v := 3) (lv' := [(9, .int 3), (8, .int 1), (0, .ref h), (1, .int 6), (2, .int 109), (3, .int 105), (4, .int 100), (5, .int 100), (6, .int 108), (7, .int 101)]) hx hb dX12_isWord_105 hl (k := 1) rfl (by decide) (by decide) rfl (fun ls hl => ?_)
                                  refine lv_goto (tgt := 18) hx hb dX12_isWord_108 (by decide) ?_
                                  refine lv_iload hx hb dX12_isWord_18 (lv_at hl 0 rfl) ?_
                                  refine lv_iload_n hx hb dX12_isWord_20 rfl (lv_at hl 3 rfl) ?_
                                  refine lv_icmp_ge (tgt := 111) hx hb dX12_isWord_21 (by decide) (fun c31 => ?_) (fun c31 => ?_)
                                  · exact absurd c31 (by decide)
                                  · skip
                                    refine lv_iload hx hb dX12_isWord_24 (lv_at hl 1 rfl) ?_
                                    refine lv_if_eq (tgt := 111) hx hb dX12_isWord_26 (by decide) (fun c32 => ?_) (fun c32 => ?_)
                                    · exact absurd c32 (by decide)
                                    · skip
                                      refine lv_aload_n hx hb dX12_isWord_29 rfl (lv_at hl 2 rfl) ?_
                                      refine gM_12_32 hx hb ht hown hK hP m_1171 dX12_isWord_30 ?_
                                      refine lv_aload_n hx hb dX12_isWord_33 rfl (lv_at hl 2 rfl) ?_
                                      refine gM_12_37 hx hb ht hown hK hP m_1176 (v := (iv 12 37)) rfl dX12_isWord_34 ?_
                                      refine lv_iload hx hb dX12_isWord_37 (lv_at hl 0 rfl) ?_
                                      refine lv_iadd hx hb dX12_isWord_39 ?_
                                      refine lv_topi (fun v33 ev33 => ?_)
                                      have tv33 := z_add ev33 (rfl : ((iv 12 37)).toInt = _) (by decide : (3 : Int32).toInt = 3) (by omega) (by omega)
                                      have : 0 ≤ (v33 : Int32).toInt ∧ (v33 : Int32).toInt ≤ 199 := ⟨by omega, by omega⟩
                                      refine lM_12_32 hx hb hK hP (f := (fa 12 32)) rfl (vp_in_iff.mpr ⟨by omega, by omega⟩) dX12_isWord_40 ?_
                                      refine lv_topi (fun v34 ev34 => ?_)
                                      refine lv_iload hx hb dX12_isWord_41 (lv_at hl 0 rfl) ?_
                                      refine lv_if_ne (tgt := 50) hx hb dX12_isWord_43 (by decide) (fun c35 => ?_) (fun c35 => ?_)
                                      · skip
                                        refine lv_iload hx hb dX12_isWord_50 (lv_at hl 0 rfl) ?_
                                        refine lv_iconst (v := 1) hx hb dX12_isWord_52 (by decide) ?_
                                        refine lv_icmp_ne (tgt := 60) hx hb dX12_isWord_53 (by decide) (fun c36 => ?_) (fun c36 => ?_)
                                        · skip
                                          refine lv_iload hx hb dX12_isWord_60 (lv_at hl 0 rfl) ?_
                                          refine lv_iconst (v := 2) hx hb dX12_isWord_62 (by decide) ?_
                                          refine lv_icmp_ne (tgt := 71) hx hb dX12_isWord_63 (by decide) (fun c37 => ?_) (fun c37 => ?_)
                                          · skip
                                            refine lv_iload hx hb dX12_isWord_71 (lv_at hl 0 rfl) ?_
                                            refine lv_iconst (v := 3) hx hb dX12_isWord_73 (by decide) ?_
                                            refine lv_icmp_ne (tgt := 82) hx hb dX12_isWord_74 (by decide) (fun c38 => ?_) (fun c38 => ?_)
                                            · exact absurd rfl c38
                                            · skip
                                              refine lv_iload hx hb dX12_isWord_77 (lv_at hl 7 rfl) ?_
                                              refine lv_goto (tgt := 95) hx hb dX12_isWord_79 (by decide) ?_
                                              refine lv_icmp_ne (tgt := 102) hx hb dX12_isWord_95 (by decide) (fun c39 => ?_) (fun c39 => ?_)
                                              · have fc39 := z_ne (rfl : (v34).toInt = _) (by decide : (100 : Int32).toInt = 100) c39
                                                refine lv_iconst (v := 0) hx hb dX12_isWord_102 (by decide) ?_
                                                refine lv_istore (lv' := [(8, .int 0), (9, .int 3), (0, .ref h), (1, .int 6), (2, .int 109), (3, .int 105), (4, .int 100), (5, .int 100), (6, .int 108), (7, .int 101)]) hx hb dX12_isWord_103 hl (by decide) rfl (fun ls hl => ?_)
                                                refine lv_iinc (v := 4) (lv' := [(9, .int 4), (8, .int 0), (0, .ref h), (1, .int 6), (2, .int 109), (3, .int 105), (4, .int 100), (5, .int 100), (6, .int 108), (7, .int 101)]) hx hb dX12_isWord_105 hl (k := 1) rfl (by decide) (by decide) rfl (fun ls hl => ?_)
                                                refine lv_goto (tgt := 18) hx hb dX12_isWord_108 (by decide) ?_
                                                refine lv_iload hx hb dX12_isWord_18 (lv_at hl 0 rfl) ?_
                                                refine lv_iload_n hx hb dX12_isWord_20 rfl (lv_at hl 3 rfl) ?_
                                                refine lv_icmp_ge (tgt := 111) hx hb dX12_isWord_21 (by decide) (fun c40 => ?_) (fun c40 => ?_)
                                                · exact absurd c40 (by decide)
                                                · skip
                                                  refine lv_iload hx hb dX12_isWord_24 (lv_at hl 1 rfl) ?_
                                                  refine lv_if_eq (tgt := 111) hx hb dX12_isWord_26 (by decide) (fun c41 => ?_) (fun c41 => ?_)
                                                  · skip
                                                    refine lv_iload hx hb dX12_isWord_111 (lv_at hl 1 rfl) ?_
                                                    have : (0 : Int32).toInt = 0 := (by decide)
                                                    exact W.zret (v := 0) hx hb hr rfl (fun t ht9 hW => ⟨0, rfl, ⟨⟨by decide, by decide⟩, (show (((0 : Int32).toInt = 1 ∧ w_middle (fun j => sg ((fa 12 32) j).toInt) ((iv 12 37) : Int32).toInt (((iv 12 37) : Int32).toInt + ((iv 12 38) : Int32).toInt)) ∨ ((0 : Int32).toInt = 0 ∧ ¬ w_middle (fun j => sg ((fa 12 32) j).toInt) ((iv 12 37) : Int32).toInt (((iv 12 37) : Int32).toInt + ((iv 12 38) : Int32).toInt))) from (by have q0 := congrArg Int32.toInt (ev7.trans (congrArg (fa 12 32) (show (v6 : Int32).toNatClampNeg = ((iv 12 37).toInt).toNat + 0 from (by show (v6 : Int32).toInt.toNat = _; omega)))); have s0 := sg_i (v7 : Int32).toInt; rw [q0] at s0; have q1 := congrArg Int32.toInt (ev15.trans (congrArg (fa 12 32) (show (v14 : Int32).toNatClampNeg = ((iv 12 37).toInt).toNat + 1 from (by show (v14 : Int32).toInt.toNat = _; omega)))); have s1 := sg_i (v15 : Int32).toInt; rw [q1] at s1; have q2 := congrArg Int32.toInt (ev24.trans (congrArg (fa 12 32) (show (v23 : Int32).toNatClampNeg = ((iv 12 37).toInt).toNat + 2 from (by show (v23 : Int32).toInt.toNat = _; omega)))); have s2 := sg_i (v24 : Int32).toInt; rw [q2] at s2; have q3 := congrArg Int32.toInt (ev34.trans (congrArg (fa 12 32) (show (v33 : Int32).toNatClampNeg = ((iv 12 37).toInt).toNat + 3 from (by show (v33 : Int32).toInt.toNat = _; omega)))); have s3 := sg_i (v34 : Int32).toInt; rw [q3] at s3; exact Or.inr ⟨by omega, fun h9 => (by have h8 : ((iv 12 37).toInt + (iv 12 38).toInt) - (iv 12 37).toInt = 6 ∧ sg (fa 12 32 (((iv 12 37).toInt).toNat + 0)).toInt = 109 ∧ sg (fa 12 32 (((iv 12 37).toInt).toNat + 1)).toInt = 105 ∧ sg (fa 12 32 (((iv 12 37).toInt).toNat + 2)).toInt = 100 ∧ sg (fa 12 32 (((iv 12 37).toInt).toNat + 3)).toInt = 100 ∧ sg (fa 12 32 (((iv 12 37).toInt).toNat + 4)).toInt = 108 ∧ sg (fa 12 32 (((iv 12 37).toInt).toNat + 5)).toInt = 101 := h9; have h7 := h8.2.2.2.2.1; clear h8 h9; omega)⟩)), (show ((0 : Int32).toInt = 0 ∨ ((iv 12 38) : Int32).toInt = 6) from by omega)⟩, ht9⟩) (fun q hq => by cases hq) dX12_isWord_113
                                                  · exact absurd rfl c41
                                              · have fc39 := z_eq (rfl : (v34).toInt = _) (by decide : (100 : Int32).toInt = 100) c39
                                                refine lv_iconst (v := 1) hx hb dX12_isWord_98 (by decide) ?_
                                                refine lv_goto (tgt := 103) hx hb dX12_isWord_99 (by decide) ?_
                                                refine lv_istore (lv' := [(8, .int 1), (9, .int 3), (0, .ref h), (1, .int 6), (2, .int 109), (3, .int 105), (4, .int 100), (5, .int 100), (6, .int 108), (7, .int 101)]) hx hb dX12_isWord_103 hl (by decide) rfl (fun ls hl => ?_)
                                                refine lv_iinc (v := 4) (lv' := [(9, .int 4), (8, .int 1), (0, .ref h), (1, .int 6), (2, .int 109), (3, .int 105), (4, .int 100), (5, .int 100), (6, .int 108), (7, .int 101)]) hx hb dX12_isWord_105 hl (k := 1) rfl (by decide) (by decide) rfl (fun ls hl => ?_)
                                                refine lv_goto (tgt := 18) hx hb dX12_isWord_108 (by decide) ?_
                                                refine lv_iload hx hb dX12_isWord_18 (lv_at hl 0 rfl) ?_
                                                refine lv_iload_n hx hb dX12_isWord_20 rfl (lv_at hl 3 rfl) ?_
                                                refine lv_icmp_ge (tgt := 111) hx hb dX12_isWord_21 (by decide) (fun c42 => ?_) (fun c42 => ?_)
                                                · exact absurd c42 (by decide)
                                                · skip
                                                  refine lv_iload hx hb dX12_isWord_24 (lv_at hl 1 rfl) ?_
                                                  refine lv_if_eq (tgt := 111) hx hb dX12_isWord_26 (by decide) (fun c43 => ?_) (fun c43 => ?_)
                                                  · exact absurd c43 (by decide)
                                                  · skip
                                                    refine lv_aload_n hx hb dX12_isWord_29 rfl (lv_at hl 2 rfl) ?_
                                                    refine gM_12_32 hx hb ht hown hK hP m_1171 dX12_isWord_30 ?_
                                                    refine lv_aload_n hx hb dX12_isWord_33 rfl (lv_at hl 2 rfl) ?_
                                                    refine gM_12_37 hx hb ht hown hK hP m_1176 (v := (iv 12 37)) rfl dX12_isWord_34 ?_
                                                    refine lv_iload hx hb dX12_isWord_37 (lv_at hl 0 rfl) ?_
                                                    refine lv_iadd hx hb dX12_isWord_39 ?_
                                                    refine lv_topi (fun v44 ev44 => ?_)
                                                    have tv44 := z_add ev44 (rfl : ((iv 12 37)).toInt = _) (by decide : (4 : Int32).toInt = 4) (by omega) (by omega)
                                                    have : 0 ≤ (v44 : Int32).toInt ∧ (v44 : Int32).toInt ≤ 199 := ⟨by omega, by omega⟩
                                                    refine lM_12_32 hx hb hK hP (f := (fa 12 32)) rfl (vp_in_iff.mpr ⟨by omega, by omega⟩) dX12_isWord_40 ?_
                                                    refine lv_topi (fun v45 ev45 => ?_)
                                                    refine lv_iload hx hb dX12_isWord_41 (lv_at hl 0 rfl) ?_
                                                    refine lv_if_ne (tgt := 50) hx hb dX12_isWord_43 (by decide) (fun c46 => ?_) (fun c46 => ?_)
                                                    · skip
                                                      refine lv_iload hx hb dX12_isWord_50 (lv_at hl 0 rfl) ?_
                                                      refine lv_iconst (v := 1) hx hb dX12_isWord_52 (by decide) ?_
                                                      refine lv_icmp_ne (tgt := 60) hx hb dX12_isWord_53 (by decide) (fun c47 => ?_) (fun c47 => ?_)
                                                      · skip
                                                        refine lv_iload hx hb dX12_isWord_60 (lv_at hl 0 rfl) ?_
                                                        refine lv_iconst (v := 2) hx hb dX12_isWord_62 (by decide) ?_
                                                        refine lv_icmp_ne (tgt := 71) hx hb dX12_isWord_63 (by decide) (fun c48 => ?_) (fun c48 => ?_)
                                                        · skip
                                                          refine lv_iload hx hb dX12_isWord_71 (lv_at hl 0 rfl) ?_
                                                          refine lv_iconst (v := 3) hx hb dX12_isWord_73 (by decide) ?_
                                                          refine lv_icmp_ne (tgt := 82) hx hb dX12_isWord_74 (by decide) (fun c49 => ?_) (fun c49 => ?_)
                                                          · skip
                                                            refine lv_iload hx hb dX12_isWord_82 (lv_at hl 0 rfl) ?_
                                                            refine lv_iconst (v := 4) hx hb dX12_isWord_84 (by decide) ?_
                                                            refine lv_icmp_ne (tgt := 93) hx hb dX12_isWord_85 (by decide) (fun c50 => ?_) (fun c50 => ?_)
                                                            · exact absurd rfl c50
                                                            · skip
                                                              refine lv_iload hx hb dX12_isWord_88 (lv_at hl 8 rfl) ?_
                                                              refine lv_goto (tgt := 95) hx hb dX12_isWord_90 (by decide) ?_
                                                              refine lv_icmp_ne (tgt := 102) hx hb dX12_isWord_95 (by decide) (fun c51 => ?_) (fun c51 => ?_)
                                                              · have fc51 := z_ne (rfl : (v45).toInt = _) (by decide : (108 : Int32).toInt = 108) c51
                                                                refine lv_iconst (v := 0) hx hb dX12_isWord_102 (by decide) ?_
                                                                refine lv_istore (lv' := [(8, .int 0), (9, .int 4), (0, .ref h), (1, .int 6), (2, .int 109), (3, .int 105), (4, .int 100), (5, .int 100), (6, .int 108), (7, .int 101)]) hx hb dX12_isWord_103 hl (by decide) rfl (fun ls hl => ?_)
                                                                refine lv_iinc (v := 5) (lv' := [(9, .int 5), (8, .int 0), (0, .ref h), (1, .int 6), (2, .int 109), (3, .int 105), (4, .int 100), (5, .int 100), (6, .int 108), (7, .int 101)]) hx hb dX12_isWord_105 hl (k := 1) rfl (by decide) (by decide) rfl (fun ls hl => ?_)
                                                                refine lv_goto (tgt := 18) hx hb dX12_isWord_108 (by decide) ?_
                                                                refine lv_iload hx hb dX12_isWord_18 (lv_at hl 0 rfl) ?_
                                                                refine lv_iload_n hx hb dX12_isWord_20 rfl (lv_at hl 3 rfl) ?_
                                                                refine lv_icmp_ge (tgt := 111) hx hb dX12_isWord_21 (by decide) (fun c52 => ?_) (fun c52 => ?_)
                                                                · exact absurd c52 (by decide)
                                                                · skip
                                                                  refine lv_iload hx hb dX12_isWord_24 (lv_at hl 1 rfl) ?_
                                                                  refine lv_if_eq (tgt := 111) hx hb dX12_isWord_26 (by decide) (fun c53 => ?_) (fun c53 => ?_)
                                                                  · skip
                                                                    refine lv_iload hx hb dX12_isWord_111 (lv_at hl 1 rfl) ?_
                                                                    have : (0 : Int32).toInt = 0 := (by decide)
                                                                    exact W.zret (v := 0) hx hb hr rfl (fun t ht9 hW => ⟨0, rfl, ⟨⟨by decide, by decide⟩, (show (((0 : Int32).toInt = 1 ∧ w_middle (fun j => sg ((fa 12 32) j).toInt) ((iv 12 37) : Int32).toInt (((iv 12 37) : Int32).toInt + ((iv 12 38) : Int32).toInt)) ∨ ((0 : Int32).toInt = 0 ∧ ¬ w_middle (fun j => sg ((fa 12 32) j).toInt) ((iv 12 37) : Int32).toInt (((iv 12 37) : Int32).toInt + ((iv 12 38) : Int32).toInt))) from (by have q0 := congrArg Int32.toInt (ev7.trans (congrArg (fa 12 32) (show (v6 : Int32).toNatClampNeg = ((iv 12 37).toInt).toNat + 0 from (by show (v6 : Int32).toInt.toNat = _; omega)))); have s0 := sg_i (v7 : Int32).toInt; rw [q0] at s0; have q1 := congrArg Int32.toInt (ev15.trans (congrArg (fa 12 32) (show (v14 : Int32).toNatClampNeg = ((iv 12 37).toInt).toNat + 1 from (by show (v14 : Int32).toInt.toNat = _; omega)))); have s1 := sg_i (v15 : Int32).toInt; rw [q1] at s1; have q2 := congrArg Int32.toInt (ev24.trans (congrArg (fa 12 32) (show (v23 : Int32).toNatClampNeg = ((iv 12 37).toInt).toNat + 2 from (by show (v23 : Int32).toInt.toNat = _; omega)))); have s2 := sg_i (v24 : Int32).toInt; rw [q2] at s2; have q3 := congrArg Int32.toInt (ev34.trans (congrArg (fa 12 32) (show (v33 : Int32).toNatClampNeg = ((iv 12 37).toInt).toNat + 3 from (by show (v33 : Int32).toInt.toNat = _; omega)))); have s3 := sg_i (v34 : Int32).toInt; rw [q3] at s3; have q4 := congrArg Int32.toInt (ev45.trans (congrArg (fa 12 32) (show (v44 : Int32).toNatClampNeg = ((iv 12 37).toInt).toNat + 4 from (by show (v44 : Int32).toInt.toNat = _; omega)))); have s4 := sg_i (v45 : Int32).toInt; rw [q4] at s4; exact Or.inr ⟨by omega, fun h9 => (by have h8 : ((iv 12 37).toInt + (iv 12 38).toInt) - (iv 12 37).toInt = 6 ∧ sg (fa 12 32 (((iv 12 37).toInt).toNat + 0)).toInt = 109 ∧ sg (fa 12 32 (((iv 12 37).toInt).toNat + 1)).toInt = 105 ∧ sg (fa 12 32 (((iv 12 37).toInt).toNat + 2)).toInt = 100 ∧ sg (fa 12 32 (((iv 12 37).toInt).toNat + 3)).toInt = 100 ∧ sg (fa 12 32 (((iv 12 37).toInt).toNat + 4)).toInt = 108 ∧ sg (fa 12 32 (((iv 12 37).toInt).toNat + 5)).toInt = 101 := h9; have h7 := h8.2.2.2.2.2.1; clear h8 h9; omega)⟩)), (show ((0 : Int32).toInt = 0 ∨ ((iv 12 38) : Int32).toInt = 6) from by omega)⟩, ht9⟩) (fun q hq => by cases hq) dX12_isWord_113
                                                                  · exact absurd rfl c53
                                                              · have fc51 := z_eq (rfl : (v45).toInt = _) (by decide : (108 : Int32).toInt = 108) c51
                                                                refine lv_iconst (v := 1) hx hb dX12_isWord_98 (by decide) ?_
                                                                refine lv_goto (tgt := 103) hx hb dX12_isWord_99 (by decide) ?_
                                                                refine lv_istore (lv' := [(8, .int 1), (9, .int 4), (0, .ref h), (1, .int 6), (2, .int 109), (3, .int 105), (4, .int 100), (5, .int 100), (6, .int 108), (7, .int 101)]) hx hb dX12_isWord_103 hl (by decide) rfl (fun ls hl => ?_)
                                                                refine lv_iinc (v := 5) (lv' := [(9, .int 5), (8, .int 1), (0, .ref h), (1, .int 6), (2, .int 109), (3, .int 105), (4, .int 100), (5, .int 100), (6, .int 108), (7, .int 101)]) hx hb dX12_isWord_105 hl (k := 1) rfl (by decide) (by decide) rfl (fun ls hl => ?_)
                                                                refine lv_goto (tgt := 18) hx hb dX12_isWord_108 (by decide) ?_
                                                                refine lv_iload hx hb dX12_isWord_18 (lv_at hl 0 rfl) ?_
                                                                refine lv_iload_n hx hb dX12_isWord_20 rfl (lv_at hl 3 rfl) ?_
                                                                refine lv_icmp_ge (tgt := 111) hx hb dX12_isWord_21 (by decide) (fun c54 => ?_) (fun c54 => ?_)
                                                                · exact absurd c54 (by decide)
                                                                · skip
                                                                  refine lv_iload hx hb dX12_isWord_24 (lv_at hl 1 rfl) ?_
                                                                  refine lv_if_eq (tgt := 111) hx hb dX12_isWord_26 (by decide) (fun c55 => ?_) (fun c55 => ?_)
                                                                  · exact absurd c55 (by decide)
                                                                  · skip
                                                                    refine lv_aload_n hx hb dX12_isWord_29 rfl (lv_at hl 2 rfl) ?_
                                                                    refine gM_12_32 hx hb ht hown hK hP m_1171 dX12_isWord_30 ?_
                                                                    refine lv_aload_n hx hb dX12_isWord_33 rfl (lv_at hl 2 rfl) ?_
                                                                    refine gM_12_37 hx hb ht hown hK hP m_1176 (v := (iv 12 37)) rfl dX12_isWord_34 ?_
                                                                    refine lv_iload hx hb dX12_isWord_37 (lv_at hl 0 rfl) ?_
                                                                    refine lv_iadd hx hb dX12_isWord_39 ?_
                                                                    refine lv_topi (fun v56 ev56 => ?_)
                                                                    have tv56 := z_add ev56 (rfl : ((iv 12 37)).toInt = _) (by decide : (5 : Int32).toInt = 5) (by omega) (by omega)
                                                                    have : 0 ≤ (v56 : Int32).toInt ∧ (v56 : Int32).toInt ≤ 199 := ⟨by omega, by omega⟩
                                                                    refine lM_12_32 hx hb hK hP (f := (fa 12 32)) rfl (vp_in_iff.mpr ⟨by omega, by omega⟩) dX12_isWord_40 ?_
                                                                    refine lv_topi (fun v57 ev57 => ?_)
                                                                    refine lv_iload hx hb dX12_isWord_41 (lv_at hl 0 rfl) ?_
                                                                    refine lv_if_ne (tgt := 50) hx hb dX12_isWord_43 (by decide) (fun c58 => ?_) (fun c58 => ?_)
                                                                    · skip
                                                                      refine lv_iload hx hb dX12_isWord_50 (lv_at hl 0 rfl) ?_
                                                                      refine lv_iconst (v := 1) hx hb dX12_isWord_52 (by decide) ?_
                                                                      refine lv_icmp_ne (tgt := 60) hx hb dX12_isWord_53 (by decide) (fun c59 => ?_) (fun c59 => ?_)
                                                                      · skip
                                                                        refine lv_iload hx hb dX12_isWord_60 (lv_at hl 0 rfl) ?_
                                                                        refine lv_iconst (v := 2) hx hb dX12_isWord_62 (by decide) ?_
                                                                        refine lv_icmp_ne (tgt := 71) hx hb dX12_isWord_63 (by decide) (fun c60 => ?_) (fun c60 => ?_)
                                                                        · skip
                                                                          refine lv_iload hx hb dX12_isWord_71 (lv_at hl 0 rfl) ?_
                                                                          refine lv_iconst (v := 3) hx hb dX12_isWord_73 (by decide) ?_
                                                                          refine lv_icmp_ne (tgt := 82) hx hb dX12_isWord_74 (by decide) (fun c61 => ?_) (fun c61 => ?_)
                                                                          · skip
                                                                            refine lv_iload hx hb dX12_isWord_82 (lv_at hl 0 rfl) ?_
                                                                            refine lv_iconst (v := 4) hx hb dX12_isWord_84 (by decide) ?_
                                                                            refine lv_icmp_ne (tgt := 93) hx hb dX12_isWord_85 (by decide) (fun c62 => ?_) (fun c62 => ?_)
                                                                            · skip
                                                                              refine lv_iload hx hb dX12_isWord_93 (lv_at hl 9 rfl) ?_
                                                                              refine lv_icmp_ne (tgt := 102) hx hb dX12_isWord_95 (by decide) (fun c63 => ?_) (fun c63 => ?_)
                                                                              · have fc63 := z_ne (rfl : (v57).toInt = _) (by decide : (101 : Int32).toInt = 101) c63
                                                                                refine lv_iconst (v := 0) hx hb dX12_isWord_102 (by decide) ?_
                                                                                refine lv_istore (lv' := [(8, .int 0), (9, .int 5), (0, .ref h), (1, .int 6), (2, .int 109), (3, .int 105), (4, .int 100), (5, .int 100), (6, .int 108), (7, .int 101)]) hx hb dX12_isWord_103 hl (by decide) rfl (fun ls hl => ?_)
                                                                                refine lv_iinc (v := 6) (lv' := [(9, .int 6), (8, .int 0), (0, .ref h), (1, .int 6), (2, .int 109), (3, .int 105), (4, .int 100), (5, .int 100), (6, .int 108), (7, .int 101)]) hx hb dX12_isWord_105 hl (k := 1) rfl (by decide) (by decide) rfl (fun ls hl => ?_)
                                                                                refine lv_goto (tgt := 18) hx hb dX12_isWord_108 (by decide) ?_
                                                                                refine lv_iload hx hb dX12_isWord_18 (lv_at hl 0 rfl) ?_
                                                                                refine lv_iload_n hx hb dX12_isWord_20 rfl (lv_at hl 3 rfl) ?_
                                                                                refine lv_icmp_ge (tgt := 111) hx hb dX12_isWord_21 (by decide) (fun c64 => ?_) (fun c64 => ?_)
                                                                                · skip
                                                                                  refine lv_iload hx hb dX12_isWord_111 (lv_at hl 1 rfl) ?_
                                                                                  have : (0 : Int32).toInt = 0 := (by decide)
                                                                                  exact W.zret (v := 0) hx hb hr rfl (fun t ht9 hW => ⟨0, rfl, ⟨⟨by decide, by decide⟩, (show (((0 : Int32).toInt = 1 ∧ w_middle (fun j => sg ((fa 12 32) j).toInt) ((iv 12 37) : Int32).toInt (((iv 12 37) : Int32).toInt + ((iv 12 38) : Int32).toInt)) ∨ ((0 : Int32).toInt = 0 ∧ ¬ w_middle (fun j => sg ((fa 12 32) j).toInt) ((iv 12 37) : Int32).toInt (((iv 12 37) : Int32).toInt + ((iv 12 38) : Int32).toInt))) from (by have q0 := congrArg Int32.toInt (ev7.trans (congrArg (fa 12 32) (show (v6 : Int32).toNatClampNeg = ((iv 12 37).toInt).toNat + 0 from (by show (v6 : Int32).toInt.toNat = _; omega)))); have s0 := sg_i (v7 : Int32).toInt; rw [q0] at s0; have q1 := congrArg Int32.toInt (ev15.trans (congrArg (fa 12 32) (show (v14 : Int32).toNatClampNeg = ((iv 12 37).toInt).toNat + 1 from (by show (v14 : Int32).toInt.toNat = _; omega)))); have s1 := sg_i (v15 : Int32).toInt; rw [q1] at s1; have q2 := congrArg Int32.toInt (ev24.trans (congrArg (fa 12 32) (show (v23 : Int32).toNatClampNeg = ((iv 12 37).toInt).toNat + 2 from (by show (v23 : Int32).toInt.toNat = _; omega)))); have s2 := sg_i (v24 : Int32).toInt; rw [q2] at s2; have q3 := congrArg Int32.toInt (ev34.trans (congrArg (fa 12 32) (show (v33 : Int32).toNatClampNeg = ((iv 12 37).toInt).toNat + 3 from (by show (v33 : Int32).toInt.toNat = _; omega)))); have s3 := sg_i (v34 : Int32).toInt; rw [q3] at s3; have q4 := congrArg Int32.toInt (ev45.trans (congrArg (fa 12 32) (show (v44 : Int32).toNatClampNeg = ((iv 12 37).toInt).toNat + 4 from (by show (v44 : Int32).toInt.toNat = _; omega)))); have s4 := sg_i (v45 : Int32).toInt; rw [q4] at s4; have q5 := congrArg Int32.toInt (ev57.trans (congrArg (fa 12 32) (show (v56 : Int32).toNatClampNeg = ((iv 12 37).toInt).toNat + 5 from (by show (v56 : Int32).toInt.toNat = _; omega)))); have s5 := sg_i (v57 : Int32).toInt; rw [q5] at s5; exact Or.inr ⟨by omega, fun h9 => (by have h8 : ((iv 12 37).toInt + (iv 12 38).toInt) - (iv 12 37).toInt = 6 ∧ sg (fa 12 32 (((iv 12 37).toInt).toNat + 0)).toInt = 109 ∧ sg (fa 12 32 (((iv 12 37).toInt).toNat + 1)).toInt = 105 ∧ sg (fa 12 32 (((iv 12 37).toInt).toNat + 2)).toInt = 100 ∧ sg (fa 12 32 (((iv 12 37).toInt).toNat + 3)).toInt = 100 ∧ sg (fa 12 32 (((iv 12 37).toInt).toNat + 4)).toInt = 108 ∧ sg (fa 12 32 (((iv 12 37).toInt).toNat + 5)).toInt = 101 := h9; have h7 := h8.2.2.2.2.2.2; clear h8 h9; omega)⟩)), (show ((0 : Int32).toInt = 0 ∨ ((iv 12 38) : Int32).toInt = 6) from by omega)⟩, ht9⟩) (fun q hq => by cases hq) dX12_isWord_113
                                                                                · exact absurd c64 (by decide)
                                                                              · have fc63 := z_eq (rfl : (v57).toInt = _) (by decide : (101 : Int32).toInt = 101) c63
                                                                                refine lv_iconst (v := 1) hx hb dX12_isWord_98 (by decide) ?_
                                                                                refine lv_goto (tgt := 103) hx hb dX12_isWord_99 (by decide) ?_
                                                                                refine lv_istore (lv' := [(8, .int 1), (9, .int 5), (0, .ref h), (1, .int 6), (2, .int 109), (3, .int 105), (4, .int 100), (5, .int 100), (6, .int 108), (7, .int 101)]) hx hb dX12_isWord_103 hl (by decide) rfl (fun ls hl => ?_)
                                                                                refine lv_iinc (v := 6) (lv' := [(9, .int 6), (8, .int 1), (0, .ref h), (1, .int 6), (2, .int 109), (3, .int 105), (4, .int 100), (5, .int 100), (6, .int 108), (7, .int 101)]) hx hb dX12_isWord_105 hl (k := 1) rfl (by decide) (by decide) rfl (fun ls hl => ?_)
                                                                                refine lv_goto (tgt := 18) hx hb dX12_isWord_108 (by decide) ?_
                                                                                refine lv_iload hx hb dX12_isWord_18 (lv_at hl 0 rfl) ?_
                                                                                refine lv_iload_n hx hb dX12_isWord_20 rfl (lv_at hl 3 rfl) ?_
                                                                                refine lv_icmp_ge (tgt := 111) hx hb dX12_isWord_21 (by decide) (fun c65 => ?_) (fun c65 => ?_)
                                                                                · skip
                                                                                  refine lv_iload hx hb dX12_isWord_111 (lv_at hl 1 rfl) ?_
                                                                                  have : (1 : Int32).toInt = 1 := (by decide)
                                                                                  exact W.zret (v := 1) hx hb hr rfl (fun t ht9 hW => ⟨1, rfl, ⟨⟨by decide, by decide⟩, (show (((1 : Int32).toInt = 1 ∧ w_middle (fun j => sg ((fa 12 32) j).toInt) ((iv 12 37) : Int32).toInt (((iv 12 37) : Int32).toInt + ((iv 12 38) : Int32).toInt)) ∨ ((1 : Int32).toInt = 0 ∧ ¬ w_middle (fun j => sg ((fa 12 32) j).toInt) ((iv 12 37) : Int32).toInt (((iv 12 37) : Int32).toInt + ((iv 12 38) : Int32).toInt))) from (by have q0 := congrArg Int32.toInt (ev7.trans (congrArg (fa 12 32) (show (v6 : Int32).toNatClampNeg = ((iv 12 37).toInt).toNat + 0 from (by show (v6 : Int32).toInt.toNat = _; omega)))); have s0 := sg_i (v7 : Int32).toInt; rw [q0] at s0; have q1 := congrArg Int32.toInt (ev15.trans (congrArg (fa 12 32) (show (v14 : Int32).toNatClampNeg = ((iv 12 37).toInt).toNat + 1 from (by show (v14 : Int32).toInt.toNat = _; omega)))); have s1 := sg_i (v15 : Int32).toInt; rw [q1] at s1; have q2 := congrArg Int32.toInt (ev24.trans (congrArg (fa 12 32) (show (v23 : Int32).toNatClampNeg = ((iv 12 37).toInt).toNat + 2 from (by show (v23 : Int32).toInt.toNat = _; omega)))); have s2 := sg_i (v24 : Int32).toInt; rw [q2] at s2; have q3 := congrArg Int32.toInt (ev34.trans (congrArg (fa 12 32) (show (v33 : Int32).toNatClampNeg = ((iv 12 37).toInt).toNat + 3 from (by show (v33 : Int32).toInt.toNat = _; omega)))); have s3 := sg_i (v34 : Int32).toInt; rw [q3] at s3; have q4 := congrArg Int32.toInt (ev45.trans (congrArg (fa 12 32) (show (v44 : Int32).toNatClampNeg = ((iv 12 37).toInt).toNat + 4 from (by show (v44 : Int32).toInt.toNat = _; omega)))); have s4 := sg_i (v45 : Int32).toInt; rw [q4] at s4; have q5 := congrArg Int32.toInt (ev57.trans (congrArg (fa 12 32) (show (v56 : Int32).toNatClampNeg = ((iv 12 37).toInt).toNat + 5 from (by show (v56 : Int32).toInt.toNat = _; omega)))); have s5 := sg_i (v57 : Int32).toInt; rw [q5] at s5; exact Or.inl ⟨by omega, (show ((iv 12 37).toInt + (iv 12 38).toInt) - (iv 12 37).toInt = 6 ∧ sg (fa 12 32 (((iv 12 37).toInt).toNat + 0)).toInt = 109 ∧ sg (fa 12 32 (((iv 12 37).toInt).toNat + 1)).toInt = 105 ∧ sg (fa 12 32 (((iv 12 37).toInt).toNat + 2)).toInt = 100 ∧ sg (fa 12 32 (((iv 12 37).toInt).toNat + 3)).toInt = 100 ∧ sg (fa 12 32 (((iv 12 37).toInt).toNat + 4)).toInt = 108 ∧ sg (fa 12 32 (((iv 12 37).toInt).toNat + 5)).toInt = 101 from ⟨by omega, by omega, by omega, by omega, by omega, by omega, by omega⟩)⟩)), (show ((1 : Int32).toInt = 0 ∨ ((iv 12 38) : Int32).toInt = 6) from by omega)⟩, ht9⟩) (fun q hq => by cases hq) dX12_isWord_113
                                                                                · exact absurd c65 (by decide)
                                                                            · exact absurd c62 (by decide)
                                                                          · exact absurd c61 (by decide)
                                                                        · exact absurd c60 (by decide)
                                                                      · exact absurd c59 (by decide)
                                                                    · exact absurd c58 (by decide)
                                                          · exact absurd c49 (by decide)
                                                        · exact absurd c48 (by decide)
                                                      · exact absurd c47 (by decide)
                                                    · exact absurd c46 (by decide)
                                          · exact absurd c37 (by decide)
                                        · exact absurd c36 (by decide)
                                      · exact absurd c35 (by decide)
                            · exact absurd c26 (by decide)
                          · exact absurd c25 (by decide)
                · exact absurd c16 (by decide)
set_option maxHeartbeats 4000000 in
set_option maxRecDepth 100000 in
/-- X12_isWord -/
theorem c_X12_isWord_r_to (l : Launch) (dC : Nat → ClassId) (dI : Nat → Nat → Nat) (h : Nat) (g : Nat → Nat → Nat) (ca : Nat → Nat → ClassId) (iv : Nat → Nat → Int32) (lv : Nat → Nat → Int64) (fa : Nat → Nat → Nat → Int32) (la : Nat → Nat → Nat → Int64) (hI : IX iv fa) (p_0 : (iv 12 37).toInt + (iv 12 38).toInt ≤ 200) : Met l yX12_isWord (wc yX12_isWord cX12_isWord 10 (some .boolean)) ({ frames := 0, cells := 0, slots := 0, locals := 0 } : Room) (pR (dC, dI) classes (WM h g ca iv lv fa la) (TM ca) [.ref h, .int 2, .int 116, .int 111, .int 0, .int 0, .int 0, .int 0]) (vp_Si (fun r => (0 ≤ r.toInt ∧ r.toInt ≤ 1) ∧ (((r.toInt = 1 ∧ w_to (fun j => sg ((fa 12 32) j).toInt) (iv 12 37).toInt ((iv 12 37).toInt + (iv 12 38).toInt)) ∨ (r.toInt = 0 ∧ ¬ w_to (fun j => sg ((fa 12 32) j).toInt) (iv 12 37).toInt ((iv 12 37).toInt + (iv 12 38).toInt)))) ∧ ((r.toInt = 0 ∨ (iv 12 38).toInt = 2)))) 0 0 (fun _ => False) := by
  refine Met.ofW (cc := cX12_isWord) (maxL := 10) (ret := (some .boolean)) (by decide) rfl ?_
  intro p e s m args below meth c s₁ B hml hv
  obtain ⟨rfl, hP, hK⟩ := hv
  have hx := B.exec
  have hb := B.bytes
  have hr := B.returns
  have ht := tb_tl (atoms_spec (ws := wc yX12_isWord cX12_isWord 10 (some .boolean)) B.pre)
  have hown : s.vm.findClass RX12 = some m.cls := findClass_of_methodNamed B.named
  have hlocks := B.notSynchronized
  have hl := lv_entry [.ref h, .int 2, .int 116, .int 111, .int 0, .int 0, .int 0, .int 0] (n := 10) (Nat.le_of_ble_eq_true rfl)
  rw [lg_entry_eq]
  generalize (lg_sl [.ref h, .int 2, .int 116, .int 111, .int 0, .int 0, .int 0, .int 0] ++ List.replicate (10 - (lg_sl [.ref h, .int 2, .int 116, .int 111, .int 0, .int 0, .int 0, .int 0]).length) Slot.unset).toArray = ls at hl ⊢
  have hl : lv_has ls 10 [(0, .ref h), (1, .int 2), (2, .int 116), (3, .int 111), (4, .int 0), (5, .int 0), (6, .int 0), (7, .int 0)] := hl
  refine lv_aload_n hx hb dX12_isWord_0 rfl (lv_at hl 0 rfl) ?_
  have i_12_38 : 0 ≤ (iv 12 38).toInt ∧ (iv 12 38).toInt ≤ 200 := hI.1 12 38
  refine gM_12_38 hx hb ht hown hK hP m_1177 (v := (iv 12 38)) rfl dX12_isWord_1 ?_
  refine lv_iload_n hx hb dX12_isWord_4 rfl (lv_at hl 1 rfl) ?_
  refine lv_icmp_ne (tgt := 12) hx hb dX12_isWord_5 (by decide) (fun c1 => ?_) (fun c1 => ?_)
  · have fc1 := z_ne (rfl : ((iv 12 38)).toInt = _) (by decide : (2 : Int32).toInt = 2) c1
    refine lv_iconst (v := 0) hx hb dX12_isWord_12 (by decide) ?_
    refine lv_istore (lv' := [(8, .int 0), (0, .ref h), (1, .int 2), (2, .int 116), (3, .int 111), (4, .int 0), (5, .int 0), (6, .int 0), (7, .int 0)]) hx hb dX12_isWord_13 hl (by decide) rfl (fun ls hl => ?_)
    refine lv_iconst (v := 0) hx hb dX12_isWord_15 (by decide) ?_
    refine lv_istore (lv' := [(9, .int 0), (8, .int 0), (0, .ref h), (1, .int 2), (2, .int 116), (3, .int 111), (4, .int 0), (5, .int 0), (6, .int 0), (7, .int 0)]) hx hb dX12_isWord_16 hl (by decide) rfl (fun ls hl => ?_)
    refine lv_iload hx hb dX12_isWord_18 (lv_at hl 0 rfl) ?_
    refine lv_iload_n hx hb dX12_isWord_20 rfl (lv_at hl 3 rfl) ?_
    refine lv_icmp_ge (tgt := 111) hx hb dX12_isWord_21 (by decide) (fun c2 => ?_) (fun c2 => ?_)
    · exact absurd c2 (by decide)
    · skip
      refine lv_iload hx hb dX12_isWord_24 (lv_at hl 1 rfl) ?_
      refine lv_if_eq (tgt := 111) hx hb dX12_isWord_26 (by decide) (fun c3 => ?_) (fun c3 => ?_)
      · skip
        refine lv_iload hx hb dX12_isWord_111 (lv_at hl 1 rfl) ?_
        have : (0 : Int32).toInt = 0 := (by decide)
        have i_12_37 : 0 ≤ (iv 12 37).toInt ∧ (iv 12 37).toInt ≤ 200 := hI.1 12 37
        exact W.zret (v := 0) hx hb hr rfl (fun t ht9 hW => ⟨0, rfl, ⟨⟨by decide, by decide⟩, (show (((0 : Int32).toInt = 1 ∧ w_to (fun j => sg ((fa 12 32) j).toInt) ((iv 12 37) : Int32).toInt (((iv 12 37) : Int32).toInt + ((iv 12 38) : Int32).toInt)) ∨ ((0 : Int32).toInt = 0 ∧ ¬ w_to (fun j => sg ((fa 12 32) j).toInt) ((iv 12 37) : Int32).toInt (((iv 12 37) : Int32).toInt + ((iv 12 38) : Int32).toInt))) from (by exact Or.inr ⟨by omega, fun h9 => (by have h8 : ((iv 12 37).toInt + (iv 12 38).toInt) - (iv 12 37).toInt = 2 ∧ sg (fa 12 32 (((iv 12 37).toInt).toNat + 0)).toInt = 116 ∧ sg (fa 12 32 (((iv 12 37).toInt).toNat + 1)).toInt = 111 := h9; have h7 := h8.1; omega)⟩)), (show ((0 : Int32).toInt = 0 ∨ ((iv 12 38) : Int32).toInt = 2) from by omega)⟩, ht9⟩) (fun q hq => by cases hq) dX12_isWord_113
      · exact absurd rfl c3
  · have fc1 := z_eq (rfl : ((iv 12 38)).toInt = _) (by decide : (2 : Int32).toInt = 2) c1
    refine lv_iconst (v := 1) hx hb dX12_isWord_8 (by decide) ?_
    refine lv_goto (tgt := 13) hx hb dX12_isWord_9 (by decide) ?_
    refine lv_istore (lv' := [(8, .int 1), (0, .ref h), (1, .int 2), (2, .int 116), (3, .int 111), (4, .int 0), (5, .int 0), (6, .int 0), (7, .int 0)]) hx hb dX12_isWord_13 hl (by decide) rfl (fun ls hl => ?_)
    refine lv_iconst (v := 0) hx hb dX12_isWord_15 (by decide) ?_
    refine lv_istore (lv' := [(9, .int 0), (8, .int 1), (0, .ref h), (1, .int 2), (2, .int 116), (3, .int 111), (4, .int 0), (5, .int 0), (6, .int 0), (7, .int 0)]) hx hb dX12_isWord_16 hl (by decide) rfl (fun ls hl => ?_)
    refine lv_iload hx hb dX12_isWord_18 (lv_at hl 0 rfl) ?_
    refine lv_iload_n hx hb dX12_isWord_20 rfl (lv_at hl 3 rfl) ?_
    refine lv_icmp_ge (tgt := 111) hx hb dX12_isWord_21 (by decide) (fun c4 => ?_) (fun c4 => ?_)
    · exact absurd c4 (by decide)
    · skip
      refine lv_iload hx hb dX12_isWord_24 (lv_at hl 1 rfl) ?_
      refine lv_if_eq (tgt := 111) hx hb dX12_isWord_26 (by decide) (fun c5 => ?_) (fun c5 => ?_)
      · exact absurd c5 (by decide)
      · skip
        refine lv_aload_n hx hb dX12_isWord_29 rfl (lv_at hl 2 rfl) ?_
        refine gM_12_32 hx hb ht hown hK hP m_1171 dX12_isWord_30 ?_
        refine lv_aload_n hx hb dX12_isWord_33 rfl (lv_at hl 2 rfl) ?_
        have i_12_37 : 0 ≤ (iv 12 37).toInt ∧ (iv 12 37).toInt ≤ 200 := hI.1 12 37
        refine gM_12_37 hx hb ht hown hK hP m_1176 (v := (iv 12 37)) rfl dX12_isWord_34 ?_
        refine lv_iload hx hb dX12_isWord_37 (lv_at hl 0 rfl) ?_
        refine lv_iadd hx hb dX12_isWord_39 ?_
        refine lv_topi (fun v6 ev6 => ?_)
        have tv6 := z_add ev6 (rfl : ((iv 12 37)).toInt = _) (by decide : (0 : Int32).toInt = 0) (by omega) (by omega)
        have : 0 ≤ (v6 : Int32).toInt ∧ (v6 : Int32).toInt ≤ 199 := ⟨by omega, by omega⟩
        refine lM_12_32 hx hb hK hP (f := (fa 12 32)) rfl (vp_in_iff.mpr ⟨by omega, by omega⟩) dX12_isWord_40 ?_
        refine lv_topi (fun v7 ev7 => ?_)
        refine lv_iload hx hb dX12_isWord_41 (lv_at hl 0 rfl) ?_
        refine lv_if_ne (tgt := 50) hx hb dX12_isWord_43 (by decide) (fun c8 => ?_) (fun c8 => ?_)
        · exact absurd rfl c8
        · skip
          refine lv_iload_n hx hb dX12_isWord_46 rfl (lv_at hl 4 rfl) ?_
          refine lv_goto (tgt := 95) hx hb dX12_isWord_47 (by decide) ?_
          refine lv_icmp_ne (tgt := 102) hx hb dX12_isWord_95 (by decide) (fun c9 => ?_) (fun c9 => ?_)
          · have fc9 := z_ne (rfl : (v7).toInt = _) (by decide : (116 : Int32).toInt = 116) c9
            refine lv_iconst (v := 0) hx hb dX12_isWord_102 (by decide) ?_
            refine lv_istore (lv' := [(8, .int 0), (9, .int 0), (0, .ref h), (1, .int 2), (2, .int 116), (3, .int 111), (4, .int 0), (5, .int 0), (6, .int 0), (7, .int 0)]) hx hb dX12_isWord_103 hl (by decide) rfl (fun ls hl => ?_)
            refine lv_iinc (v := 1) (lv' := [(9, .int 1), (8, .int 0), (0, .ref h), (1, .int 2), (2, .int 116), (3, .int 111), (4, .int 0), (5, .int 0), (6, .int 0), (7, .int 0)]) hx hb dX12_isWord_105 hl (k := 1) rfl (by decide) (by decide) rfl (fun ls hl => ?_)
            refine lv_goto (tgt := 18) hx hb dX12_isWord_108 (by decide) ?_
            refine lv_iload hx hb dX12_isWord_18 (lv_at hl 0 rfl) ?_
            refine lv_iload_n hx hb dX12_isWord_20 rfl (lv_at hl 3 rfl) ?_
            refine lv_icmp_ge (tgt := 111) hx hb dX12_isWord_21 (by decide) (fun c10 => ?_) (fun c10 => ?_)
            · exact absurd c10 (by decide)
            · skip
              refine lv_iload hx hb dX12_isWord_24 (lv_at hl 1 rfl) ?_
              refine lv_if_eq (tgt := 111) hx hb dX12_isWord_26 (by decide) (fun c11 => ?_) (fun c11 => ?_)
              · skip
                refine lv_iload hx hb dX12_isWord_111 (lv_at hl 1 rfl) ?_
                have : (0 : Int32).toInt = 0 := (by decide)
                exact W.zret (v := 0) hx hb hr rfl (fun t ht9 hW => ⟨0, rfl, ⟨⟨by decide, by decide⟩, (show (((0 : Int32).toInt = 1 ∧ w_to (fun j => sg ((fa 12 32) j).toInt) ((iv 12 37) : Int32).toInt (((iv 12 37) : Int32).toInt + ((iv 12 38) : Int32).toInt)) ∨ ((0 : Int32).toInt = 0 ∧ ¬ w_to (fun j => sg ((fa 12 32) j).toInt) ((iv 12 37) : Int32).toInt (((iv 12 37) : Int32).toInt + ((iv 12 38) : Int32).toInt))) from (by have q0 := congrArg Int32.toInt (ev7.trans (congrArg (fa 12 32) (show (v6 : Int32).toNatClampNeg = ((iv 12 37).toInt).toNat + 0 from (by show (v6 : Int32).toInt.toNat = _; omega)))); have s0 := sg_i (v7 : Int32).toInt; rw [q0] at s0; exact Or.inr ⟨by omega, fun h9 => (by have h8 : ((iv 12 37).toInt + (iv 12 38).toInt) - (iv 12 37).toInt = 2 ∧ sg (fa 12 32 (((iv 12 37).toInt).toNat + 0)).toInt = 116 ∧ sg (fa 12 32 (((iv 12 37).toInt).toNat + 1)).toInt = 111 := h9; have h7 := h8.2.1; clear h8 h9; omega)⟩)), (show ((0 : Int32).toInt = 0 ∨ ((iv 12 38) : Int32).toInt = 2) from by omega)⟩, ht9⟩) (fun q hq => by cases hq) dX12_isWord_113
              · exact absurd rfl c11
          · have fc9 := z_eq (rfl : (v7).toInt = _) (by decide : (116 : Int32).toInt = 116) c9
            refine lv_iconst (v := 1) hx hb dX12_isWord_98 (by decide) ?_
            refine lv_goto (tgt := 103) hx hb dX12_isWord_99 (by decide) ?_
            refine lv_istore (lv' := [(8, .int 1), (9, .int 0), (0, .ref h), (1, .int 2), (2, .int 116), (3, .int 111), (4, .int 0), (5, .int 0), (6, .int 0), (7, .int 0)]) hx hb dX12_isWord_103 hl (by decide) rfl (fun ls hl => ?_)
            refine lv_iinc (v := 1) (lv' := [(9, .int 1), (8, .int 1), (0, .ref h), (1, .int 2), (2, .int 116), (3, .int 111), (4, .int 0), (5, .int 0), (6, .int 0), (7, .int 0)]) hx hb dX12_isWord_105 hl (k := 1) rfl (by decide) (by decide) rfl (fun ls hl => ?_)
            refine lv_goto (tgt := 18) hx hb dX12_isWord_108 (by decide) ?_
            refine lv_iload hx hb dX12_isWord_18 (lv_at hl 0 rfl) ?_
            refine lv_iload_n hx hb dX12_isWord_20 rfl (lv_at hl 3 rfl) ?_
            refine lv_icmp_ge (tgt := 111) hx hb dX12_isWord_21 (by decide) (fun c12 => ?_) (fun c12 => ?_)
            · exact absurd c12 (by decide)
            · skip
              refine lv_iload hx hb dX12_isWord_24 (lv_at hl 1 rfl) ?_
              refine lv_if_eq (tgt := 111) hx hb dX12_isWord_26 (by decide) (fun c13 => ?_) (fun c13 => ?_)
              · exact absurd c13 (by decide)
              · skip
                refine lv_aload_n hx hb dX12_isWord_29 rfl (lv_at hl 2 rfl) ?_
                refine gM_12_32 hx hb ht hown hK hP m_1171 dX12_isWord_30 ?_
                refine lv_aload_n hx hb dX12_isWord_33 rfl (lv_at hl 2 rfl) ?_
                refine gM_12_37 hx hb ht hown hK hP m_1176 (v := (iv 12 37)) rfl dX12_isWord_34 ?_
                refine lv_iload hx hb dX12_isWord_37 (lv_at hl 0 rfl) ?_
                refine lv_iadd hx hb dX12_isWord_39 ?_
                refine lv_topi (fun v14 ev14 => ?_)
                have tv14 := z_add ev14 (rfl : ((iv 12 37)).toInt = _) (by decide : (1 : Int32).toInt = 1) (by omega) (by omega)
                have : 0 ≤ (v14 : Int32).toInt ∧ (v14 : Int32).toInt ≤ 199 := ⟨by omega, by omega⟩
                refine lM_12_32 hx hb hK hP (f := (fa 12 32)) rfl (vp_in_iff.mpr ⟨by omega, by omega⟩) dX12_isWord_40 ?_
                refine lv_topi (fun v15 ev15 => ?_)
                refine lv_iload hx hb dX12_isWord_41 (lv_at hl 0 rfl) ?_
                refine lv_if_ne (tgt := 50) hx hb dX12_isWord_43 (by decide) (fun c16 => ?_) (fun c16 => ?_)
                · skip
                  refine lv_iload hx hb dX12_isWord_50 (lv_at hl 0 rfl) ?_
                  refine lv_iconst (v := 1) hx hb dX12_isWord_52 (by decide) ?_
                  refine lv_icmp_ne (tgt := 60) hx hb dX12_isWord_53 (by decide) (fun c17 => ?_) (fun c17 => ?_)
                  · exact absurd rfl c17
                  · skip
                    refine lv_iload_n hx hb dX12_isWord_56 rfl (lv_at hl 5 rfl) ?_
                    refine lv_goto (tgt := 95) hx hb dX12_isWord_57 (by decide) ?_
                    refine lv_icmp_ne (tgt := 102) hx hb dX12_isWord_95 (by decide) (fun c18 => ?_) (fun c18 => ?_)
                    · have fc18 := z_ne (rfl : (v15).toInt = _) (by decide : (111 : Int32).toInt = 111) c18
                      refine lv_iconst (v := 0) hx hb dX12_isWord_102 (by decide) ?_
                      refine lv_istore (lv' := [(8, .int 0), (9, .int 1), (0, .ref h), (1, .int 2), (2, .int 116), (3, .int 111), (4, .int 0), (5, .int 0), (6, .int 0), (7, .int 0)]) hx hb dX12_isWord_103 hl (by decide) rfl (fun ls hl => ?_)
                      refine lv_iinc (v := 2) (lv' := [(9, .int 2), (8, .int 0), (0, .ref h), (1, .int 2), (2, .int 116), (3, .int 111), (4, .int 0), (5, .int 0), (6, .int 0), (7, .int 0)]) hx hb dX12_isWord_105 hl (k := 1) rfl (by decide) (by decide) rfl (fun ls hl => ?_)
                      refine lv_goto (tgt := 18) hx hb dX12_isWord_108 (by decide) ?_
                      refine lv_iload hx hb dX12_isWord_18 (lv_at hl 0 rfl) ?_
                      refine lv_iload_n hx hb dX12_isWord_20 rfl (lv_at hl 3 rfl) ?_
                      refine lv_icmp_ge (tgt := 111) hx hb dX12_isWord_21 (by decide) (fun c19 => ?_) (fun c19 => ?_)
                      · skip
                        refine lv_iload hx hb dX12_isWord_111 (lv_at hl 1 rfl) ?_
                        have : (0 : Int32).toInt = 0 := (by decide)
                        exact W.zret (v := 0) hx hb hr rfl (fun t ht9 hW => ⟨0, rfl, ⟨⟨by decide, by decide⟩, (show (((0 : Int32).toInt = 1 ∧ w_to (fun j => sg ((fa 12 32) j).toInt) ((iv 12 37) : Int32).toInt (((iv 12 37) : Int32).toInt + ((iv 12 38) : Int32).toInt)) ∨ ((0 : Int32).toInt = 0 ∧ ¬ w_to (fun j => sg ((fa 12 32) j).toInt) ((iv 12 37) : Int32).toInt (((iv 12 37) : Int32).toInt + ((iv 12 38) : Int32).toInt))) from (by have q0 := congrArg Int32.toInt (ev7.trans (congrArg (fa 12 32) (show (v6 : Int32).toNatClampNeg = ((iv 12 37).toInt).toNat + 0 from (by show (v6 : Int32).toInt.toNat = _; omega)))); have s0 := sg_i (v7 : Int32).toInt; rw [q0] at s0; have q1 := congrArg Int32.toInt (ev15.trans (congrArg (fa 12 32) (show (v14 : Int32).toNatClampNeg = ((iv 12 37).toInt).toNat + 1 from (by show (v14 : Int32).toInt.toNat = _; omega)))); have s1 := sg_i (v15 : Int32).toInt; rw [q1] at s1; exact Or.inr ⟨by omega, fun h9 => (by have h8 : ((iv 12 37).toInt + (iv 12 38).toInt) - (iv 12 37).toInt = 2 ∧ sg (fa 12 32 (((iv 12 37).toInt).toNat + 0)).toInt = 116 ∧ sg (fa 12 32 (((iv 12 37).toInt).toNat + 1)).toInt = 111 := h9; have h7 := h8.2.2; clear h8 h9; omega)⟩)), (show ((0 : Int32).toInt = 0 ∨ ((iv 12 38) : Int32).toInt = 2) from by omega)⟩, ht9⟩) (fun q hq => by cases hq) dX12_isWord_113
                      · exact absurd c19 (by decide)
                    · have fc18 := z_eq (rfl : (v15).toInt = _) (by decide : (111 : Int32).toInt = 111) c18
                      refine lv_iconst (v := 1) hx hb dX12_isWord_98 (by decide) ?_
                      refine lv_goto (tgt := 103) hx hb dX12_isWord_99 (by decide) ?_
                      refine lv_istore (lv' := [(8, .int 1), (9, .int 1), (0, .ref h), (1, .int 2), (2, .int 116), (3, .int 111), (4, .int 0), (5, .int 0), (6, .int 0), (7, .int 0)]) hx hb dX12_isWord_103 hl (by decide) rfl (fun ls hl => ?_)
                      refine lv_iinc (v := 2) (lv' := [(9, .int 2), (8, .int 1), (0, .ref h), (1, .int 2), (2, .int 116), (3, .int 111), (4, .int 0), (5, .int 0), (6, .int 0), (7, .int 0)]) hx hb dX12_isWord_105 hl (k := 1) rfl (by decide) (by decide) rfl (fun ls hl => ?_)
                      refine lv_goto (tgt := 18) hx hb dX12_isWord_108 (by decide) ?_
                      refine lv_iload hx hb dX12_isWord_18 (lv_at hl 0 rfl) ?_
                      refine lv_iload_n hx hb dX12_isWord_20 rfl (lv_at hl 3 rfl) ?_
                      refine lv_icmp_ge (tgt := 111) hx hb dX12_isWord_21 (by decide) (fun c20 => ?_) (fun c20 => ?_)
                      · skip
                        refine lv_iload hx hb dX12_isWord_111 (lv_at hl 1 rfl) ?_
                        have : (1 : Int32).toInt = 1 := (by decide)
                        exact W.zret (v := 1) hx hb hr rfl (fun t ht9 hW => ⟨1, rfl, ⟨⟨by decide, by decide⟩, (show (((1 : Int32).toInt = 1 ∧ w_to (fun j => sg ((fa 12 32) j).toInt) ((iv 12 37) : Int32).toInt (((iv 12 37) : Int32).toInt + ((iv 12 38) : Int32).toInt)) ∨ ((1 : Int32).toInt = 0 ∧ ¬ w_to (fun j => sg ((fa 12 32) j).toInt) ((iv 12 37) : Int32).toInt (((iv 12 37) : Int32).toInt + ((iv 12 38) : Int32).toInt))) from (by have q0 := congrArg Int32.toInt (ev7.trans (congrArg (fa 12 32) (show (v6 : Int32).toNatClampNeg = ((iv 12 37).toInt).toNat + 0 from (by show (v6 : Int32).toInt.toNat = _; omega)))); have s0 := sg_i (v7 : Int32).toInt; rw [q0] at s0; have q1 := congrArg Int32.toInt (ev15.trans (congrArg (fa 12 32) (show (v14 : Int32).toNatClampNeg = ((iv 12 37).toInt).toNat + 1 from (by show (v14 : Int32).toInt.toNat = _; omega)))); have s1 := sg_i (v15 : Int32).toInt; rw [q1] at s1; exact Or.inl ⟨by omega, (show ((iv 12 37).toInt + (iv 12 38).toInt) - (iv 12 37).toInt = 2 ∧ sg (fa 12 32 (((iv 12 37).toInt).toNat + 0)).toInt = 116 ∧ sg (fa 12 32 (((iv 12 37).toInt).toNat + 1)).toInt = 111 from ⟨by omega, by omega, by omega⟩)⟩)), (show ((1 : Int32).toInt = 0 ∨ ((iv 12 38) : Int32).toInt = 2) from by omega)⟩, ht9⟩) (fun q hq => by cases hq) dX12_isWord_113
                      · exact absurd c20 (by decide)
                · exact absurd c16 (by decide)
