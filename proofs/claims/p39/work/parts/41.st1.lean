/-! ===== st1 ===== -/

/-- which skeins of a bale and a look count on a day, on both sides; their sums and their number -/
def cxP (rw : Nat → Int32) (b d l : Int) : Nat → Prop := fun s => (rw (9 * s + 0)).toInt = b ∧ (rw (9 * s + 1)).toInt = l ∧ (rw (9 * s + 7)).toInt ≤ d ∧ ((rw (9 * s + 8)).toInt = -1 ∨ d < (rw (9 * s + 8)).toInt)
def cyP (ob ol dy lo : Nat → Int32) (b d l : Int) : Nat → Prop := fun s => (ob s).toInt = b ∧ (ol s).toInt = l ∧ (dy s).toInt ≤ d ∧ ((lo s).toInt < 0 ∨ d < (lo s).toInt)
noncomputable def sX (rw : Nat → Int32) (b d l : Int) (k n : Nat) : Int64 := smL (cxP rw b d l) (fun s => rw (9 * s + k)) n
noncomputable def nX (rw : Nat → Int32) (b d l : Int) (n : Nat) : Int32 := smC (cxP rw b d l) n
noncomputable def sY (ob ol dy lo w : Nat → Int32) (b d l : Int) (n : Nat) : Int64 := smL (cyP ob ol dy lo b d l) w n
noncomputable def nY (ob ol dy lo : Nat → Int32) (b d l : Int) (n : Nat) : Int32 := smC (cyP ob ol dy lo b d l) n
/-- both sides' skeins are the same -/
def RoE (n : Int) (rw ob ol sc ra dr ov ha dy lo : Nat → Int32) : Prop := ∀ s : Nat, (s : Int) < n → rw (9 * s + 0) = ob s ∧ rw (9 * s + 1) = ol s ∧ rw (9 * s + 2) = sc s ∧ rw (9 * s + 3) = ra s ∧ rw (9 * s + 4) = dr s ∧ rw (9 * s + 5) = ov s ∧ rw (9 * s + 6) = ha s ∧ rw (9 * s + 7) = dy s ∧ rw (9 * s + 8) = lo s
theorem RoE_c {n : Int} {rw ob ol sc ra dr ov ha dy lo : Nat → Int32} (h : RoE n rw ob ol sc ra dr ov ha dy lo) (hl : ∀ j : Nat, -1 ≤ (lo j).toInt) (b d l : Int) {s : Nat} (hs : (s : Int) < n) : cxP rw b d l s ↔ cyP ob ol dy lo b d l s := by
  obtain ⟨a0, a1, -, -, -, -, -, a7, a8⟩ := h s hs
  have q := hl s
  show ((rw (9 * s + 0)).toInt = b ∧ (rw (9 * s + 1)).toInt = l ∧ (rw (9 * s + 7)).toInt ≤ d ∧ ((rw (9 * s + 8)).toInt = -1 ∨ d < (rw (9 * s + 8)).toInt)) ↔ ((ob s).toInt = b ∧ (ol s).toInt = l ∧ (dy s).toInt ≤ d ∧ ((lo s).toInt < 0 ∨ d < (lo s).toInt))
  rw [a0, a1, a7, a8]
  constructor
  · intro z; exact ⟨by omega, by omega, by omega, by omega⟩
  · intro z; exact ⟨by omega, by omega, by omega, by omega⟩
theorem RoE_s {n : Int} {rw ob ol sc ra dr ov ha dy lo : Nat → Int32} (h : RoE n rw ob ol sc ra dr ov ha dy lo) (hl : ∀ j : Nat, -1 ≤ (lo j).toInt) (b d l : Int) : sX rw b d l 3 n.toNat = sY ob ol dy lo ra b d l n.toNat ∧ sX rw b d l 4 n.toNat = sY ob ol dy lo dr b d l n.toNat ∧ nX rw b d l n.toNat = nY ob ol dy lo b d l n.toNat := by
  refine ⟨smL_cg _ (fun j hj => ⟨RoE_c h hl b d l (by omega), (h j (by omega)).2.2.2.1⟩), smL_cg _ (fun j hj => ⟨RoE_c h hl b d l (by omega), (h j (by omega)).2.2.2.2.1⟩), smC_cg _ (fun j hj => RoE_c h hl b d l (by omega))⟩
/-- as the machine's library tells it -/
def absL (x : Int64) : Int64 := if 0 < x then x else -x
theorem abs_p {x : Int64} (h : 0 ≤ x.toInt) : absL x = x := by
  unfold absL; split
  · rfl
  · next q =>
    have q2 : ¬ (0 : Int64).toInt < x.toInt := fun z => q (Int64.lt_iff_toInt_lt.mpr z)
    have z0 : (0 : Int64).toInt = 0 := rfl
    have e : x = 0 := Int64.toInt_inj.mp (by omega)
    rw [e]; decide
theorem abs_n {x y : Int64} (h : x.toInt < 0) (hy : y = 0 - x) : absL x = y := by
  unfold absL; split
  · next q =>
    have q2 := Int64.lt_iff_toInt_lt.mp q
    have z0 : (0 : Int64).toInt = 0 := rfl
    omega
  · rw [hy]
    apply Int64.toInt_inj.mp
    have z0 : (0 : Int64).toInt = 0 := rfl
    rw [Int64.toInt_neg, Int64.toInt_sub, z0, Int.zero_sub]
/-- a thousand times the difference of two ratios is above a bound -/
def difL (d0 r0 d1 r1 : Int64) (p : Int32) : Prop := (p.toInt64 * r0 * r1).toInt < ((1000 : Int64) * absL (d0 * r1 - d1 * r0)).toInt
/-- the state by what holds, by the numbers of skeins, by whether looks part -/
def WuR (F : Int → Int → Prop) (c0 c1 c2 : Int) (df : Int32 → Prop) (r : Int) : Prop := ∃ nd : Int, F 1 nd ∧ ((c0 < nd ∧ r = 0) ∨ (nd ≤ c0 ∧ ∃ lk : Int, F 3 lk ∧ ((lk = 1 ∧ r = 1) ∨ (lk ≠ 1 ∧ ((c1 < nd ∧ r = 0) ∨ (nd ≤ c1 ∧ ∃ pt : Int32, F 2 pt.toInt ∧ ((¬ df pt ∧ r = 1) ∨ (df pt ∧ ((c2 < nd ∧ r = 2) ∨ (nd ≤ c2 ∧ r = 1))))))))))
theorem WuR_un {F G : Int → Int → Prop} {c0 c1 c2 : Int} {df : Int32 → Prop} {r s : Int} (hF : ∀ a v w : Int, 0 ≤ a → a ≤ 5 → F a v → G a w → v = w) (h : WuR F c0 c1 c2 df r) (k : WuR G c0 c1 c2 df s) : r = s := by
  obtain ⟨nd, h1, h2⟩ := h
  obtain ⟨nd', k1, k2⟩ := k
  have e1 := hF 1 nd nd' (by decide) (by decide) h1 k1
  subst e1
  rcases h2 with ⟨a1, a2⟩ | ⟨a1, lk, h3, h4⟩
  · rcases k2 with ⟨b1, b2⟩ | ⟨b1, -⟩
    · omega
    · omega
  · rcases k2 with ⟨b1, b2⟩ | ⟨b1, lk', k3, k4⟩
    · omega
    · have e2 := hF 3 lk lk' (by decide) (by decide) h3 k3
      subst e2
      rcases h4 with ⟨a3, a4⟩ | ⟨a3, h5⟩
      · rcases k4 with ⟨b3, b4⟩ | ⟨b3, -⟩
        · omega
        · omega
      · rcases k4 with ⟨b3, b4⟩ | ⟨b3, k5⟩
        · omega
        · rcases h5 with ⟨a5, a6⟩ | ⟨a5, pt, h6, h7⟩
          · rcases k5 with ⟨b5, b6⟩ | ⟨b5, -⟩
            · omega
            · omega
          · rcases k5 with ⟨b5, b6⟩ | ⟨b5, pt', k6, k7⟩
            · omega
            · have e3 := Int32.toInt_inj.mp (hF 2 pt.toInt pt'.toInt (by decide) (by decide) h6 k6)
              subst e3
              rcases h7 with ⟨a7, a8⟩ | ⟨a7, h8⟩
              · rcases k7 with ⟨b7, b8⟩ | ⟨b7, -⟩
                · omega
                · exact absurd b7 a7
              · rcases k7 with ⟨b7, b8⟩ | ⟨b7, k8⟩
                · exact absurd a7 b7
                · omega
set_option maxHeartbeats 4000000 in
set_option maxRecDepth 100000 in
/-- X7_differ -/
theorem c_X7_differ_f30 (l : Launch) (dC : Nat → ClassId) (dI : Nat → Nat → Nat) (h : Nat) (g : Nat → Nat → Nat) (ca : Nat → Nat → ClassId) (iv : Nat → Nat → Int32) (lv : Nat → Nat → Int64) (fa : Nat → Nat → Nat → Int32) (la : Nat → Nat → Nat → Int64) (hI : IX iv fa) (d : Int32) : Met l yX7_differ (wc yX7_differ cX7_differ 4 (some .boolean)) ({ frames := 1, cells := 0, slots := 0, locals := 40 } : Room) (pR (dC, dI) classes (WX h g ca iv lv fa la) (TX ca) [.ref (g 3 2), .int 0, .int 1, .int d]) (vp_Si (fun r => (0 ≤ r.toInt ∧ r.toInt ≤ 1) ∧ (((r.toInt = 1 ∧ difL ((la 30 1) 0) ((la 30 0) 0) ((la 30 1) 1) ((la 30 0) 1) d) ∨ (r.toInt = 0 ∧ ¬ difL ((la 30 1) 0) ((la 30 0) 0) ((la 30 1) 1) ((la 30 0) 1) d))))) 0 0 (fun _ => False) := by
  refine Met.ofW (cc := cX7_differ) (maxL := 4) (ret := (some .boolean)) (by decide) rfl ?_
  intro p e s m args below meth c s₁ B hml hv
  obtain ⟨rfl, hP, hK⟩ := hv
  have hx := B.exec
  have hb := B.bytes
  have hr := B.returns
  have ht := tb_tl (atoms_spec (ws := wc yX7_differ cX7_differ 4 (some .boolean)) B.pre)
  have hown : s.vm.findClass RX7 = some m.cls := findClass_of_methodNamed B.named
  have hlocks := B.notSynchronized
  have hl := lv_entry [.ref (g 3 2), .int 0, .int 1, .int d] (n := 4) (Nat.le_of_ble_eq_true rfl)
  rw [lg_entry_eq]
  generalize (lg_sl [.ref (g 3 2), .int 0, .int 1, .int d] ++ List.replicate (4 - (lg_sl [.ref (g 3 2), .int 0, .int 1, .int d]).length) Slot.unset).toArray = ls at hl ⊢
  have hl : lv_has ls 4 [(0, .ref (g 3 2)), (1, .int 0), (2, .int 1), (3, .int d)] := hl
  refine lv_ldc2 hx hb hown (ht _ m_630) dX7_differ_0 ?_
  refine lv_aload_n hx hb dX7_differ_3 rfl (lv_at hl 0 rfl) ?_
  refine gX_30_1 hx hb ht hown hK hP m_264 dX7_differ_4 ?_
  refine lv_iload_n hx hb dX7_differ_7 rfl (lv_at hl 1 rfl) ?_
  refine lX_30_1 hx hb hK hP (f := (la 30 1)) rfl (vp_in_iff.mpr (by decide)) dX7_differ_8 ?_
  refine lv_topl (fun w1 ew1 => ?_)
  refine lv_aload_n hx hb dX7_differ_9 rfl (lv_at hl 0 rfl) ?_
  refine gX_30_0 hx hb ht hown hK hP m_261 dX7_differ_10 ?_
  refine lv_iload_n hx hb dX7_differ_13 rfl (lv_at hl 2 rfl) ?_
  refine lX_30_0 hx hb hK hP (f := (la 30 0)) rfl (vp_in_iff.mpr (by decide)) dX7_differ_14 ?_
  refine lv_topl (fun w2 ew2 => ?_)
  refine lv_lmul hx hb dX7_differ_15 ?_
  refine lv_topl (fun w3 ew3 => ?_)
  refine lv_aload_n hx hb dX7_differ_16 rfl (lv_at hl 0 rfl) ?_
  refine gX_30_1 hx hb ht hown hK hP m_264 dX7_differ_17 ?_
  refine lv_iload_n hx hb dX7_differ_20 rfl (lv_at hl 2 rfl) ?_
  refine lX_30_1 hx hb hK hP (f := (la 30 1)) rfl (vp_in_iff.mpr (by decide)) dX7_differ_21 ?_
  refine lv_topl (fun w4 ew4 => ?_)
  refine lv_aload_n hx hb dX7_differ_22 rfl (lv_at hl 0 rfl) ?_
  refine gX_30_0 hx hb ht hown hK hP m_261 dX7_differ_23 ?_
  refine lv_iload_n hx hb dX7_differ_26 rfl (lv_at hl 1 rfl) ?_
  refine lX_30_0 hx hb hK hP (f := (la 30 0)) rfl (vp_in_iff.mpr (by decide)) dX7_differ_27 ?_
  refine lv_topl (fun w5 ew5 => ?_)
  refine lv_lmul hx hb dX7_differ_28 ?_
  refine lv_topl (fun w6 ew6 => ?_)
  refine lv_lsub hx hb dX7_differ_29 ?_
  refine lv_topl (fun w7 ew7 => ?_)
  refine va_mabs_long hx hb (hml.trans hl.1.symm) hown (ht _ m_631) (ht _ m_632) (ht _ m_90) (ht _ m_633) (Nat.le_of_ble_eq_true rfl) (Nat.le_of_ble_eq_true rfl) (Nat.le_of_ble_eq_true rfl) (Nat.le_of_ble_eq_true rfl) dX7_differ_30 ?_
  refine lv_topl (fun w8 ew8 => ?_)
  refine lv_lmul hx hb dX7_differ_33 ?_
  refine lv_topl (fun w9 ew9 => ?_)
  refine lv_iload_n hx hb dX7_differ_34 rfl (lv_at hl 3 rfl) ?_
  refine lv_i2l (v := (d.toInt64)) hx hb dX7_differ_35 rfl ?_
  refine lv_aload_n hx hb dX7_differ_36 rfl (lv_at hl 0 rfl) ?_
  refine gX_30_0 hx hb ht hown hK hP m_261 dX7_differ_37 ?_
  refine lv_iload_n hx hb dX7_differ_40 rfl (lv_at hl 1 rfl) ?_
  refine lX_30_0 hx hb hK hP (f := (la 30 0)) rfl (vp_in_iff.mpr (by decide)) dX7_differ_41 ?_
  refine lv_topl (fun w10 ew10 => ?_)
  refine lv_lmul hx hb dX7_differ_42 ?_
  refine lv_topl (fun w11 ew11 => ?_)
  refine lv_aload_n hx hb dX7_differ_43 rfl (lv_at hl 0 rfl) ?_
  refine gX_30_0 hx hb ht hown hK hP m_261 dX7_differ_44 ?_
  refine lv_iload_n hx hb dX7_differ_47 rfl (lv_at hl 2 rfl) ?_
  refine lX_30_0 hx hb hK hP (f := (la 30 0)) rfl (vp_in_iff.mpr (by decide)) dX7_differ_48 ?_
  refine lv_topl (fun w12 ew12 => ?_)
  refine lv_lmul hx hb dX7_differ_49 ?_
  refine lv_topl (fun w13 ew13 => ?_)
  refine W.lcmp hx hb dX7_differ_50 ?_
  refine lv_topi (fun v14 ev14 => ?_)
  refine lv_if_le (tgt := 58) hx hb dX7_differ_51 (by decide) (fun c15 => ?_) (fun c15 => ?_)
  · have fc15 := zc_ngt ev14 (rfl : (w9).toInt = _) (rfl : (w13).toInt = _) (Int32.not_lt.mpr c15)
    refine lv_iconst (v := 0) hx hb dX7_differ_58 (by decide) ?_
    have : (0 : Int32).toInt = 0 := (by decide)
    exact W.zret (v := 0) hx hb hr rfl (fun t ht9 hW => ⟨0, rfl, ⟨⟨by decide, by decide⟩, (show (((0 : Int32).toInt = 1 ∧ difL ((la 30 1) 0) ((la 30 0) 0) ((la 30 1) 1) ((la 30 0) 1) d) ∨ ((0 : Int32).toInt = 0 ∧ ¬ difL ((la 30 1) 0) ((la 30 0) 0) ((la 30 1) 1) ((la 30 0) 1) d)) from (by subst_vars; exact Or.inr ⟨by decide, fun q9 => (by have q8 := q9; unfold difL at q8; exact absurd fc15 (Int.not_le.mpr q8))⟩))⟩, ht9⟩) (fun q hq => by cases hq) dX7_differ_59
  · have fc15 := zc_gt ev14 (rfl : (w9).toInt = _) (rfl : (w13).toInt = _) (Int32.not_le.mp c15)
    refine lv_iconst (v := 1) hx hb dX7_differ_54 (by decide) ?_
    refine lv_goto (tgt := 59) hx hb dX7_differ_55 (by decide) ?_
    have : (1 : Int32).toInt = 1 := (by decide)
    exact W.zret (v := 1) hx hb hr rfl (fun t ht9 hW => ⟨1, rfl, ⟨⟨by decide, by decide⟩, (show (((1 : Int32).toInt = 1 ∧ difL ((la 30 1) 0) ((la 30 0) 0) ((la 30 1) 1) ((la 30 0) 1) d) ∨ ((1 : Int32).toInt = 0 ∧ ¬ difL ((la 30 1) 0) ((la 30 0) 0) ((la 30 1) 1) ((la 30 0) 1) d)) from (by subst_vars; exact Or.inl ⟨by decide, fc15⟩))⟩, ht9⟩) (fun q hq => by cases hq) dX7_differ_59
set_option maxHeartbeats 4000000 in
set_option maxRecDepth 100000 in
/-- X3_weighUp -/
theorem c_X3_weighUp_f (l : Launch) (dC : Nat → ClassId) (dI : Nat → Nat → Nat) (sz : Nat) (ak av : Nat → Nat) (h : Nat) (g : Nat → Nat → Nat) (ca : Nat → Nat → ClassId) (iv : Nat → Nat → Int32) (lv : Nat → Nat → Int64) (fa : Nat → Nat → Nat → Int32) (la : Nat → Nat → Nat → Int64) (hI : IX iv fa) (a : Int32) (b : Int32) (hJB : ∀ j : Nat, (j : Int) < (iv 1 7).toInt → 0 ≤ (fa 1 0 j).toInt) : Met l yX3_weighUp (wc yX3_weighUp cX3_weighUp 5 (some .int)) ({ frames := 4, cells := 0, slots := 0, locals := 93 } : Room) (pWZ ak av (dC, dI) classes (WX h g ca iv lv fa la) (TX ca) sz [.ref (g 11 5), .int a, .int b]) (va_Qi (fun r (u : SS) => ∃ (na_1_6 : Nat → Int32) (na_30_2 : Nat → Int32) (nb_30_0 : Nat → Int64) (nb_30_1 : Nat → Int64) (ni_3_3 : Int32) (ni_3_4 : Int32), (∀ j, inb (bA 1 6 j) (na_1_6 j)) ∧ inb (bI 3 3) ni_3_3 ∧ inb (bI 3 4) ni_3_4 ∧ (WuR (fun q v => FoX (iv 1 7).toInt (fa 1 0) (fa 1 1) (fa 1 2) (fa 1 3) q b.toInt v) (nX (fa 10 0) a.toInt b.toInt 0 ((iv 10 1).toInt).toNat).toInt (nX (fa 10 0) a.toInt b.toInt 1 ((iv 10 1).toInt).toNat).toInt (nX (fa 10 0) a.toInt b.toInt 2 ((iv 10 1).toInt).toNat).toInt (fun pt => difL (sX (fa 10 0) a.toInt b.toInt 0 4 ((iv 10 1).toInt).toNat) (sX (fa 10 0) a.toInt b.toInt 0 3 ((iv 10 1).toInt).toNat) (sX (fa 10 0) a.toInt b.toInt 1 4 ((iv 10 1).toInt).toNat) (sX (fa 10 0) a.toInt b.toInt 1 3 ((iv 10 1).toInt).toNat) pt) r.toInt) ∧ (0 ≤ r.toInt ∧ r.toInt ≤ 2) ∧ u = ((u2 (u2 iv 3 3 ni_3_3) 3 4 ni_3_4), lv, (u2 (u2 fa 1 6 na_1_6) 30 2 na_30_2), (u2 (u2 la 30 0 nb_30_0) 30 1 nb_30_1))) (bX (dC, dI) h g ca (va_A (WX h g ca iv lv fa la) sz)) (va_A (WX h g ca iv lv fa la) sz)) 0 0 (va_A (WX h g ca iv lv fa la) sz) := by
  refine Met.ofW (cc := cX3_weighUp) (maxL := 5) (ret := (some .int)) (by decide) rfl ?_
  intro p e s m args below meth c s₁ B hml hv
  obtain ⟨rfl, hsz, hP, hK, hD0, hZ⟩ := hv
  have hx := B.exec
  have hb := B.bytes
  have hr := B.returns
  have ht := tb_tl (atoms_spec (ws := wc yX3_weighUp cX3_weighUp 5 (some .int)) B.pre)
  have hown : s.vm.findClass RX3 = some m.cls := findClass_of_methodNamed B.named
  have hlocks := B.notSynchronized
  subst hsz
  have hD := hD0.self (sz := s.heap.size)
  generalize hAe : va_A (WX h g ca iv lv fa la) s.heap.size = A at hD hZ ⊢
  have hA : ∀ q : Nat, s.heap.size ≤ q → A q := fun q h => by rw [← hAe]; exact Or.inr h
  have hS : va_S A s.heap s.heap [] := va_S.rf
  have hl := lv_entry [.ref (g 11 5), .int a, .int b] (n := 5) (Nat.le_of_ble_eq_true rfl)
  rw [lg_entry_eq]
  generalize (lg_sl [.ref (g 11 5), .int a, .int b] ++ List.replicate (5 - (lg_sl [.ref (g 11 5), .int a, .int b]).length) Slot.unset).toArray = ls at hl ⊢
  have hl : lv_has ls 5 [(0, .ref (g 11 5)), (1, .int a), (2, .int b)] := hl
  refine lv_aload_n hx hb dX3_weighUp_0 rfl (lv_at hl 0 rfl) ?_
  refine lv_iload_n hx hb dX3_weighUp_1 rfl (lv_at hl 1 rfl) ?_
  refine lv_iload_n hx hb dX3_weighUp_2 rfl (lv_at hl 2 rfl) ?_
  have hFc := free_all hD hS hA
  refine va_callv (va_runV (As := [.int a, .int b]) (rest := []) ⟨hx, hb, hml, hown, ht⟩ (c_X3_gather_s l dC dI s.heap.size h g ca iv lv fa la hI a b) (kV 2 ht m_599 m_565 m_566 m_83 m_567 rfl rfl hd_X3_gather_v ⟨Nat.le_of_ble_eq_true rfl, Nat.le_of_ble_eq_true rfl⟩) (vW hP hK hD (rX_3 hK hP)) rfl rfl hl.1 rfl (lv_room (Nat.le_of_ble_eq_true rfl)) dX3_weighUp_3 ⟨Nat.le_of_ble_eq_true rfl, Nat.le_of_ble_eq_true rfl⟩) hS (fun q _ h => hFc q h) hFc (fun u t H1 locs ht9 hvm hr1 hB hz1 hk1 hS => ?_)
  obtain ⟨n2, n3, n4, xr1_0, rfl⟩ := hr1
  have hn2 : ∀ j, inb (bA 30 2 j) (n2 j) := fun j => full_i _
  obtain ⟨hP, hD⟩ := hB
  rw [ht9] at hP
  generalize H1 = H at hP hS ⊢
  have hP : va_P (dC, dI) classes (WX h g ca iv lv (u2 fa 30 2 n2) (u2 (u2 la 30 0 n3) 30 1 n4)) H := hP
  have hD : va_D A (WX h g ca iv lv (u2 fa 30 2 n2) (u2 (u2 la 30 0 n3) 30 1 n4)) := (show va_D _ (WX h g ca iv lv (u2 fa 30 2 n2) (u2 (u2 la 30 0 n3) 30 1 n4)) from hD).weaken (fun _ _ _ h => hFc _ h)
  have i_10_1 : 0 ≤ (iv 10 1).toInt ∧ (iv 10 1).toInt ≤ 60 := hI.1 10 1
  have xr1_0 : ∀ l : Nat, l < 3 → n3 l = smL (fun s : Nat => ((fa 10 0) (9 * s + 0)).toInt = (a : Int32).toInt ∧ ((fa 10 0) (9 * s + 1)).toInt = (l : Int) ∧ ((fa 10 0) (9 * s + 7)).toInt ≤ (b : Int32).toInt ∧ (((fa 10 0) (9 * s + 8)).toInt = -1 ∨ (b : Int32).toInt < ((fa 10 0) (9 * s + 8)).toInt)) (fun s : Nat => (fa 10 0) (9 * s + 3)) (((iv 10 1) : Int32).toInt).toNat ∧ n4 l = smL (fun s : Nat => ((fa 10 0) (9 * s + 0)).toInt = (a : Int32).toInt ∧ ((fa 10 0) (9 * s + 1)).toInt = (l : Int) ∧ ((fa 10 0) (9 * s + 7)).toInt ≤ (b : Int32).toInt ∧ (((fa 10 0) (9 * s + 8)).toInt = -1 ∨ (b : Int32).toInt < ((fa 10 0) (9 * s + 8)).toInt)) (fun s : Nat => (fa 10 0) (9 * s + 4)) (((iv 10 1) : Int32).toInt).toNat ∧ n2 l = smC (fun s : Nat => ((fa 10 0) (9 * s + 0)).toInt = (a : Int32).toInt ∧ ((fa 10 0) (9 * s + 1)).toInt = (l : Int) ∧ ((fa 10 0) (9 * s + 7)).toInt ≤ (b : Int32).toInt ∧ (((fa 10 0) (9 * s + 8)).toInt = -1 ∨ (b : Int32).toInt < ((fa 10 0) (9 * s + 8)).toInt)) (((iv 10 1) : Int32).toInt).toNat := xr1_0
  have ga0 : n3 0 = sX (fa 10 0) a.toInt b.toInt 0 3 ((iv 10 1).toInt).toNat := (xr1_0 0 (by decide)).1
  have gb0 : n4 0 = sX (fa 10 0) a.toInt b.toInt 0 4 ((iv 10 1).toInt).toNat := (xr1_0 0 (by decide)).2.1
  have gc0 : n2 0 = nX (fa 10 0) a.toInt b.toInt 0 ((iv 10 1).toInt).toNat := (xr1_0 0 (by decide)).2.2
  have ga1 : n3 1 = sX (fa 10 0) a.toInt b.toInt 1 3 ((iv 10 1).toInt).toNat := (xr1_0 1 (by decide)).1
  have gb1 : n4 1 = sX (fa 10 0) a.toInt b.toInt 1 4 ((iv 10 1).toInt).toNat := (xr1_0 1 (by decide)).2.1
  have gc1 : n2 1 = nX (fa 10 0) a.toInt b.toInt 1 ((iv 10 1).toInt).toNat := (xr1_0 1 (by decide)).2.2
  have ga2 : n3 2 = sX (fa 10 0) a.toInt b.toInt 2 3 ((iv 10 1).toInt).toNat := (xr1_0 2 (by decide)).1
  have gb2 : n4 2 = sX (fa 10 0) a.toInt b.toInt 2 4 ((iv 10 1).toInt).toNat := (xr1_0 2 (by decide)).2.1
  have gc2 : n2 2 = nX (fa 10 0) a.toInt b.toInt 2 ((iv 10 1).toInt).toNat := (xr1_0 2 (by decide)).2.2
  refine lv_aload_n hx hb dX3_weighUp_6 rfl (lv_at hl 0 rfl) ?_
  refine gX_3_1 hx hb ht hown hK hP m_280 dX3_weighUp_7 ?_
  refine lv_iconst (v := 1) hx hb dX3_weighUp_10 (by decide) ?_
  refine lv_iload_n hx hb dX3_weighUp_11 rfl (lv_at hl 2 rfl) ?_
  have hFc := free_all hD hS hA
  refine va_calli (va_runV (As := [.int 1, .int b]) (rest := []) ⟨hx, hb, hml, hown, ht⟩ (c_X1_holding_f l dC dI H.size ak av h g ca iv lv (u2 fa 30 2 n2) (u2 (u2 la 30 0 n3) 30 1 n4) (IX_a (c := 30) (k := 2) hI hn2) 1 b ⟨by decide, by decide⟩ hJB) (kV 2 ht m_600 m_601 m_602 m_81 m_603 rfl rfl hd_X1_holding_v ⟨Nat.le_of_ble_eq_true rfl, Nat.le_of_ble_eq_true rfl⟩) (vWZ hP hK hD ((hZ.kept hS.2.1).narrow (free_all hD hS hA)) (rX_1 hK hP)) rfl rfl hl.1 rfl (lv_room (Nat.le_of_ble_eq_true rfl)) dX3_weighUp_12 ⟨Nat.le_of_ble_eq_true rfl, Nat.le_of_ble_eq_true rfl⟩) hS (fun q _ h => hFc q h) hFc (fun r5 u t H1 locs ht9 hvm hr5 hB hz1 hk1 hS => ?_)
  obtain ⟨n6, hn6, xr5_0, hr5, rfl⟩ := hr5
  obtain ⟨hP, hD⟩ := hB
  rw [ht9] at hP
  generalize H1 = H at hP hS ⊢
  have hP : va_P (dC, dI) classes (WX h g ca iv lv (u2 (u2 fa 30 2 n2) 1 6 n6) (u2 (u2 la 30 0 n3) 30 1 n4)) H := hP
  have hD : va_D A (WX h g ca iv lv (u2 (u2 fa 30 2 n2) 1 6 n6) (u2 (u2 la 30 0 n3) 30 1 n4)) := (show va_D _ (WX h g ca iv lv (u2 (u2 fa 30 2 n2) 1 6 n6) (u2 (u2 la 30 0 n3) 30 1 n4)) from hD).weaken (fun _ _ _ h => hFc _ h)
  have i_1_7 : 0 ≤ (iv 1 7).toInt ∧ (iv 1 7).toInt ≤ 8 := hI.1 1 7
  have : (1 : Int32).toInt = 1 := (by decide)
  have xr5_0 : FoX ((iv 1 7) : Int32).toInt (fa 1 0) (fa 1 1) (fa 1 2) (fa 1 3) (1 : Int32).toInt (b : Int32).toInt (r5 : Int32).toInt := xr5_0
  refine lv_istore_n (lv' := [(3, .int r5), (0, .ref (g 11 5)), (1, .int a), (2, .int b)]) hx hb dX3_weighUp_15 rfl hl (by decide) rfl (fun ls hl => ?_)
  refine lv_aload_n hx hb dX3_weighUp_16 rfl (lv_at hl 1 rfl) ?_
  refine gX_3_2 hx hb ht hown hK hP m_281 dX3_weighUp_17 ?_
  refine gX_30_2 hx hb ht hown hK hP m_268 dX3_weighUp_20 ?_
  refine lv_iconst (v := 0) hx hb dX3_weighUp_23 (by decide) ?_
  refine lX_30_2 hx hb hK hP (f := n2) rfl (vp_in_iff.mpr (by decide)) dX3_weighUp_24 ?_
  refine lv_topi (fun v7 ev7 => ?_)
  have gn0 := congrArg Int32.toInt ((show v7 = n2 0 from ev7).trans gc0)
  refine lv_iload_n hx hb dX3_weighUp_25 rfl (lv_at hl 0 rfl) ?_
  refine lv_icmp_ge (tgt := 31) hx hb dX3_weighUp_26 (by decide) (fun c8 => ?_) (fun c8 => ?_)
  · have fc8 := z_le (rfl : (r5).toInt = _) (rfl : (v7).toInt = _) c8
    refine lv_aload_n hx hb dX3_weighUp_31 rfl (lv_at hl 1 rfl) ?_
    refine gX_3_1 hx hb ht hown hK hP m_280 dX3_weighUp_32 ?_
    refine lv_iconst (v := 3) hx hb dX3_weighUp_35 (by decide) ?_
    refine lv_iload_n hx hb dX3_weighUp_36 rfl (lv_at hl 3 rfl) ?_
    have hFc := free_all hD hS hA
    refine va_calli (va_runV (As := [.int 3, .int b]) (rest := []) ⟨hx, hb, hml, hown, ht⟩ (c_X1_holding_f l dC dI H.size ak av h g ca iv lv (u2 (u2 fa 30 2 n2) 1 6 n6) (u2 (u2 la 30 0 n3) 30 1 n4) (IX_a (c := 1) (k := 6) (IX_a (c := 30) (k := 2) hI hn2) hn6) 3 b ⟨by decide, by decide⟩ hJB) (kV 2 ht m_600 m_601 m_602 m_81 m_603 rfl rfl hd_X1_holding_v ⟨Nat.le_of_ble_eq_true rfl, Nat.le_of_ble_eq_true rfl⟩) (vWZ hP hK hD ((hZ.kept hS.2.1).narrow (free_all hD hS hA)) (rX_1 hK hP)) rfl rfl hl.1 rfl (lv_room (Nat.le_of_ble_eq_true rfl)) dX3_weighUp_37 ⟨Nat.le_of_ble_eq_true rfl, Nat.le_of_ble_eq_true rfl⟩) hS (fun q _ h => hFc q h) hFc (fun r9 u t H1 locs ht9 hvm hr9 hB hz1 hk1 hS => ?_)
    obtain ⟨n10, hn10, xr9_0, hr9, rfl⟩ := hr9
    obtain ⟨hP, hD⟩ := hB
    rw [ht9] at hP
    generalize H1 = H at hP hS ⊢
    have hP : va_P (dC, dI) classes (WX h g ca iv lv (u2 (u2 fa 30 2 n2) 1 6 n10) (u2 (u2 la 30 0 n3) 30 1 n4)) H := hP
    have hD : va_D A (WX h g ca iv lv (u2 (u2 fa 30 2 n2) 1 6 n10) (u2 (u2 la 30 0 n3) 30 1 n4)) := (show va_D _ (WX h g ca iv lv (u2 (u2 fa 30 2 n2) 1 6 n10) (u2 (u2 la 30 0 n3) 30 1 n4)) from hD).weaken (fun _ _ _ h => hFc _ h)
    have : (3 : Int32).toInt = 3 := (by decide)
    have xr9_0 : FoX ((iv 1 7) : Int32).toInt (fa 1 0) (fa 1 1) (fa 1 2) (fa 1 3) (3 : Int32).toInt (b : Int32).toInt (r9 : Int32).toInt := xr9_0
    refine lv_iconst (v := 1) hx hb dX3_weighUp_40 (by decide) ?_
    refine lv_icmp_ne (tgt := 51) hx hb dX3_weighUp_41 (by decide) (fun c11 => ?_) (fun c11 => ?_)
    · have fc11 := z_ne (rfl : (r9).toInt = _) (by decide : (1 : Int32).toInt = 1) c11
      refine lv_aload_n hx hb dX3_weighUp_51 rfl (lv_at hl 1 rfl) ?_
      refine gX_3_2 hx hb ht hown hK hP m_281 dX3_weighUp_52 ?_
      refine gX_30_2 hx hb ht hown hK hP m_268 dX3_weighUp_55 ?_
      refine lv_iconst (v := 1) hx hb dX3_weighUp_58 (by decide) ?_
      refine lX_30_2 hx hb hK hP (f := n2) rfl (vp_in_iff.mpr (by decide)) dX3_weighUp_59 ?_
      refine lv_topi (fun v12 ev12 => ?_)
      have gn1 := congrArg Int32.toInt ((show v12 = n2 1 from ev12).trans gc1)
      refine lv_iload_n hx hb dX3_weighUp_60 rfl (lv_at hl 0 rfl) ?_
      refine lv_icmp_ge (tgt := 66) hx hb dX3_weighUp_61 (by decide) (fun c13 => ?_) (fun c13 => ?_)
      · have fc13 := z_le (rfl : (r5).toInt = _) (rfl : (v12).toInt = _) c13
        refine lv_aload_n hx hb dX3_weighUp_66 rfl (lv_at hl 1 rfl) ?_
        refine gX_3_1 hx hb ht hown hK hP m_280 dX3_weighUp_67 ?_
        refine lv_iconst (v := 5) hx hb dX3_weighUp_70 (by decide) ?_
        refine lv_iload_n hx hb dX3_weighUp_71 rfl (lv_at hl 3 rfl) ?_
        have hFc := free_all hD hS hA
        refine va_calli (va_runV (As := [.int 5, .int b]) (rest := []) ⟨hx, hb, hml, hown, ht⟩ (c_X1_holding_f l dC dI H.size ak av h g ca iv lv (u2 (u2 fa 30 2 n2) 1 6 n10) (u2 (u2 la 30 0 n3) 30 1 n4) (IX_a (c := 1) (k := 6) (IX_a (c := 30) (k := 2) hI hn2) hn10) 5 b ⟨by decide, by decide⟩ hJB) (kV 2 ht m_600 m_601 m_602 m_81 m_603 rfl rfl hd_X1_holding_v ⟨Nat.le_of_ble_eq_true rfl, Nat.le_of_ble_eq_true rfl⟩) (vWZ hP hK hD ((hZ.kept hS.2.1).narrow (free_all hD hS hA)) (rX_1 hK hP)) rfl rfl hl.1 rfl (lv_room (Nat.le_of_ble_eq_true rfl)) dX3_weighUp_72 ⟨Nat.le_of_ble_eq_true rfl, Nat.le_of_ble_eq_true rfl⟩) hS (fun q _ h => hFc q h) hFc (fun r14 u t H1 locs ht9 hvm hr14 hB hz1 hk1 hS => ?_)
        obtain ⟨n15, hn15, xr14_0, hr14, rfl⟩ := hr14
        obtain ⟨hP, hD⟩ := hB
        rw [ht9] at hP
        generalize H1 = H at hP hS ⊢
        have hP : va_P (dC, dI) classes (WX h g ca iv lv (u2 (u2 fa 30 2 n2) 1 6 n15) (u2 (u2 la 30 0 n3) 30 1 n4)) H := hP
        have hD : va_D A (WX h g ca iv lv (u2 (u2 fa 30 2 n2) 1 6 n15) (u2 (u2 la 30 0 n3) 30 1 n4)) := (show va_D _ (WX h g ca iv lv (u2 (u2 fa 30 2 n2) 1 6 n15) (u2 (u2 la 30 0 n3) 30 1 n4)) from hD).weaken (fun _ _ _ h => hFc _ h)
        have : (5 : Int32).toInt = 5 := (by decide)
        have xr14_0 : FoX ((iv 1 7) : Int32).toInt (fa 1 0) (fa 1 1) (fa 1 2) (fa 1 3) (5 : Int32).toInt (b : Int32).toInt (r14 : Int32).toInt := xr14_0
        refine lv_istore (lv' := [(4, .int r14), (3, .int r5), (0, .ref (g 11 5)), (1, .int a), (2, .int b)]) hx hb dX3_weighUp_75 hl (by decide) rfl (fun ls hl => ?_)
        refine lv_aload_n hx hb dX3_weighUp_77 rfl (lv_at hl 2 rfl) ?_
        refine gX_3_2 hx hb ht hown hK hP m_281 dX3_weighUp_78 ?_
        refine lv_iconst (v := 0) hx hb dX3_weighUp_81 (by decide) ?_
        refine lv_iconst (v := 1) hx hb dX3_weighUp_82 (by decide) ?_
        refine lv_aload_n hx hb dX3_weighUp_83 rfl (lv_at hl 2 rfl) ?_
        refine gX_3_1 hx hb ht hown hK hP m_280 dX3_weighUp_84 ?_
        refine lv_iconst (v := 2) hx hb dX3_weighUp_87 (by decide) ?_
        refine lv_iload_n hx hb dX3_weighUp_88 rfl (lv_at hl 4 rfl) ?_
        have hFc := free_all hD hS hA
        refine va_calli (va_runV (As := [.int 2, .int b]) (rest := [.int 1, .int 0, .ref (g 3 2)]) ⟨hx, hb, hml, hown, ht⟩ (c_X1_holding_f l dC dI H.size ak av h g ca iv lv (u2 (u2 fa 30 2 n2) 1 6 n15) (u2 (u2 la 30 0 n3) 30 1 n4) (IX_a (c := 1) (k := 6) (IX_a (c := 30) (k := 2) hI hn2) hn15) 2 b ⟨by decide, by decide⟩ hJB) (kV 2 ht m_600 m_601 m_602 m_81 m_603 rfl rfl hd_X1_holding_v ⟨Nat.le_of_ble_eq_true rfl, Nat.le_of_ble_eq_true rfl⟩) (vWZ hP hK hD ((hZ.kept hS.2.1).narrow (free_all hD hS hA)) (rX_1 hK hP)) rfl rfl hl.1 rfl (lv_room (Nat.le_of_ble_eq_true rfl)) dX3_weighUp_89 ⟨Nat.le_of_ble_eq_true rfl, Nat.le_of_ble_eq_true rfl⟩) hS (fun q _ h => hFc q h) hFc (fun r16 u t H1 locs ht9 hvm hr16 hB hz1 hk1 hS => ?_)
        obtain ⟨n17, hn17, xr16_0, hr16, rfl⟩ := hr16
        obtain ⟨hP, hD⟩ := hB
        rw [ht9] at hP
        generalize H1 = H at hP hS ⊢
        have hP : va_P (dC, dI) classes (WX h g ca iv lv (u2 (u2 fa 30 2 n2) 1 6 n17) (u2 (u2 la 30 0 n3) 30 1 n4)) H := hP
        have hD : va_D A (WX h g ca iv lv (u2 (u2 fa 30 2 n2) 1 6 n17) (u2 (u2 la 30 0 n3) 30 1 n4)) := (show va_D _ (WX h g ca iv lv (u2 (u2 fa 30 2 n2) 1 6 n17) (u2 (u2 la 30 0 n3) 30 1 n4)) from hD).weaken (fun _ _ _ h => hFc _ h)
        have : (2 : Int32).toInt = 2 := (by decide)
        have xr16_0 : FoX ((iv 1 7) : Int32).toInt (fa 1 0) (fa 1 1) (fa 1 2) (fa 1 3) (2 : Int32).toInt (b : Int32).toInt (r16 : Int32).toInt := xr16_0
        refine vp_callSi (W.runV (As := [.int 0, .int 1, .int r16]) (rest := []) ⟨hx, hb, hml, hown, ht⟩ (c_X7_differ_f30 l dC dI h g ca iv lv (u2 (u2 fa 30 2 n2) 1 6 n17) (u2 (u2 la 30 0 n3) 30 1 n4) (IX_a (c := 1) (k := 6) (IX_a (c := 30) (k := 2) hI hn2) hn17) r16) (kV 3 ht m_626 m_627 m_628 m_84 m_629 rfl rfl hd_X7_differ_v ⟨Nat.le_of_ble_eq_true rfl, Nat.le_of_ble_eq_true rfl⟩) (vR hP hK (rX_30 hK hP)) rfl rfl hl.1 rfl (lv_room (Nat.le_of_ble_eq_true rfl)) dX3_weighUp_92 ⟨Nat.le_of_ble_eq_true rfl, Nat.le_of_ble_eq_true rfl⟩) (fun r18 hr18 => ?_)
        obtain ⟨hr18, xr18_0⟩ := hr18
        have xr18_0 : (((r18 : Int32).toInt = 1 ∧ difL (n4 0) (n3 0) (n4 1) (n3 1) (r16 : Int32)) ∨ ((r18 : Int32).toInt = 0 ∧ ¬ difL (n4 0) (n3 0) (n4 1) (n3 1) (r16 : Int32))) := xr18_0
        refine lv_if_ne (tgt := 105) hx hb dX3_weighUp_95 (by decide) (fun c19 => ?_) (fun c19 => ?_)
        · have fc19 := z_ne (rfl : (r18).toInt = _) (by decide : (0 : Int32).toInt = 0) c19
          refine lv_aload_n hx hb dX3_weighUp_105 rfl (lv_at hl 2 rfl) ?_
          refine gX_3_2 hx hb ht hown hK hP m_281 dX3_weighUp_106 ?_
          refine gX_30_2 hx hb ht hown hK hP m_268 dX3_weighUp_109 ?_
          refine lv_iconst (v := 2) hx hb dX3_weighUp_112 (by decide) ?_
          refine lX_30_2 hx hb hK hP (f := n2) rfl (vp_in_iff.mpr (by decide)) dX3_weighUp_113 ?_
          refine lv_topi (fun v20 ev20 => ?_)
          have gn2 := congrArg Int32.toInt ((show v20 = n2 2 from ev20).trans gc2)
          refine lv_iload_n hx hb dX3_weighUp_114 rfl (lv_at hl 1 rfl) ?_
          refine lv_icmp_ge (tgt := 122) hx hb dX3_weighUp_115 (by decide) (fun c21 => ?_) (fun c21 => ?_)
          · have fc21 := z_le (rfl : (r5).toInt = _) (rfl : (v20).toInt = _) c21
            refine lv_aload_n hx hb dX3_weighUp_122 rfl (lv_at hl 2 rfl) ?_
            refine lv_iload hx hb dX3_weighUp_123 (lv_at hl 0 rfl) ?_
            have hFc := free_all hD hS hA
            refine va_calli (va_runV (As := [.int r14]) (rest := []) ⟨hx, hb, hml, hown, ht⟩ (c_X3_settleByThree l dC dI H.size h g ca iv lv (u2 (u2 fa 30 2 n2) 1 6 n17) (u2 (u2 la 30 0 n3) 30 1 n4) (IX_a (c := 1) (k := 6) (IX_a (c := 30) (k := 2) hI hn2) hn17) r14) (kV 1 ht m_642 m_644 m_12 m_83 m_645 rfl rfl hd_X3_settleByThree_v ⟨Nat.le_of_ble_eq_true rfl, Nat.le_of_ble_eq_true rfl⟩) (vW hP hK hD (rX_3 hK hP)) rfl rfl hl.1 rfl (lv_room (Nat.le_of_ble_eq_true rfl)) dX3_weighUp_125 ⟨Nat.le_of_ble_eq_true rfl, Nat.le_of_ble_eq_true rfl⟩) hS (fun q _ h => hFc q h) hFc (fun r22 u t H1 locs ht9 hvm hr22 hB hz1 hk1 hS => ?_)
            obtain ⟨n23, n24, hn23, hn24, hr22, rfl⟩ := hr22
            have hn23 : 0 ≤ n23.toInt ∧ n23.toInt ≤ 2 := hn23
            have hn24 : 0 ≤ n24.toInt ∧ n24.toInt ≤ 2 := hn24
            obtain ⟨hP, hD⟩ := hB
            rw [ht9] at hP
            generalize H1 = H at hP hS ⊢
            have hP : va_P (dC, dI) classes (WX h g ca (u2 (u2 iv 3 3 n23) 3 4 n24) lv (u2 (u2 fa 30 2 n2) 1 6 n17) (u2 (u2 la 30 0 n3) 30 1 n4)) H := hP
            have hD : va_D A (WX h g ca (u2 (u2 iv 3 3 n23) 3 4 n24) lv (u2 (u2 fa 30 2 n2) 1 6 n17) (u2 (u2 la 30 0 n3) 30 1 n4)) := (show va_D _ (WX h g ca (u2 (u2 iv 3 3 n23) 3 4 n24) lv (u2 (u2 fa 30 2 n2) 1 6 n17) (u2 (u2 la 30 0 n3) 30 1 n4)) from hD).weaken (fun _ _ _ h => hFc _ h)
            have hP9 : va_P (dC, dI) classes (WX h g ca (u2 (u2 iv 3 3 n23) 3 4 n24) lv (u2 (u2 fa 1 6 n17) 30 2 n2) (u2 (u2 la 30 0 n3) 30 1 n4)) H := hP
            have hD9 : va_D A (WX h g ca (u2 (u2 iv 3 3 n23) 3 4 n24) lv (u2 (u2 fa 1 6 n17) 30 2 n2) (u2 (u2 la 30 0 n3) 30 1 n4)) := hD
            exact W.iret (v := r22) hx hb hr (fun t ht9 hW => ⟨⟨r22, ((u2 (u2 iv 3 3 n23) 3 4 n24), lv, (u2 (u2 fa 1 6 n17) 30 2 n2), (u2 (u2 la 30 0 n3) 30 1 n4)), rfl, ⟨n17, n2, n3, n4, n23, n24, hn17, (show inb (0, 2) n23 from ⟨by omega, by omega⟩), (show inb (0, 2) n24 from ⟨by omega, by omega⟩), (show WuR (fun q v => FoX (iv 1 7).toInt (fa 1 0) (fa 1 1) (fa 1 2) (fa 1 3) q (b).toInt v) (nX (fa 10 0) (a).toInt (b).toInt 0 ((iv 10 1).toInt).toNat).toInt (nX (fa 10 0) (a).toInt (b).toInt 1 ((iv 10 1).toInt).toNat).toInt (nX (fa 10 0) (a).toInt (b).toInt 2 ((iv 10 1).toInt).toNat).toInt (fun pt => difL (sX (fa 10 0) (a).toInt (b).toInt 0 4 ((iv 10 1).toInt).toNat) (sX (fa 10 0) (a).toInt (b).toInt 0 3 ((iv 10 1).toInt).toNat) (sX (fa 10 0) (a).toInt (b).toInt 1 4 ((iv 10 1).toInt).toNat) (sX (fa 10 0) (a).toInt (b).toInt 1 3 ((iv 10 1).toInt).toNat) pt) (r22 : Int32).toInt from (by have hd9 := xr18_0; rw [ga0, gb0, ga1, gb1] at hd9; exact ⟨_, (show FoX (iv 1 7).toInt (fa 1 0) (fa 1 1) (fa 1 2) (fa 1 3) 1 b.toInt (r5 : Int32).toInt from xr5_0), Or.inr ⟨by omega, _, (show FoX (iv 1 7).toInt (fa 1 0) (fa 1 1) (fa 1 2) (fa 1 3) 3 b.toInt (r9 : Int32).toInt from xr9_0), Or.inr ⟨by omega, Or.inr ⟨by omega, r16, (show FoX (iv 1 7).toInt (fa 1 0) (fa 1 1) (fa 1 2) (fa 1 3) 2 b.toInt (r16 : Int32).toInt from xr16_0), Or.inr ⟨(hd9.resolve_right (fun q => by omega)).2, Or.inr ⟨by omega, by omega⟩⟩⟩⟩⟩⟩)), ⟨by omega, by omega⟩, rfl⟩, by rw [ht9]; exact hP9, hD9⟩, hS.F ht9⟩) hS.2.2 dX3_weighUp_128
          · have fc21 := z_nle (rfl : (r5).toInt = _) (rfl : (v20).toInt = _) c21
            refine lv_iconst (v := 2) hx hb dX3_weighUp_118 (by decide) ?_
            refine lv_goto (tgt := 128) hx hb dX3_weighUp_119 (by decide) ?_
            have hP9 : va_P (dC, dI) classes (WX h g ca (u2 (u2 iv 3 3 (iv 3 3)) 3 4 (iv 3 4)) lv (u2 (u2 fa 1 6 n17) 30 2 n2) (u2 (u2 la 30 0 n3) 30 1 n4)) H := hP
            have hD9 : va_D A (WX h g ca (u2 (u2 iv 3 3 (iv 3 3)) 3 4 (iv 3 4)) lv (u2 (u2 fa 1 6 n17) 30 2 n2) (u2 (u2 la 30 0 n3) 30 1 n4)) := hD
            exact W.iret (v := 2) hx hb hr (fun t ht9 hW => ⟨⟨2, ((u2 (u2 iv 3 3 (iv 3 3)) 3 4 (iv 3 4)), lv, (u2 (u2 fa 1 6 n17) 30 2 n2), (u2 (u2 la 30 0 n3) 30 1 n4)), rfl, ⟨n17, n2, n3, n4, (iv 3 3), (iv 3 4), hn17, (hI.1 3 3), (hI.1 3 4), (show WuR (fun q v => FoX (iv 1 7).toInt (fa 1 0) (fa 1 1) (fa 1 2) (fa 1 3) q (b).toInt v) (nX (fa 10 0) (a).toInt (b).toInt 0 ((iv 10 1).toInt).toNat).toInt (nX (fa 10 0) (a).toInt (b).toInt 1 ((iv 10 1).toInt).toNat).toInt (nX (fa 10 0) (a).toInt (b).toInt 2 ((iv 10 1).toInt).toNat).toInt (fun pt => difL (sX (fa 10 0) (a).toInt (b).toInt 0 4 ((iv 10 1).toInt).toNat) (sX (fa 10 0) (a).toInt (b).toInt 0 3 ((iv 10 1).toInt).toNat) (sX (fa 10 0) (a).toInt (b).toInt 1 4 ((iv 10 1).toInt).toNat) (sX (fa 10 0) (a).toInt (b).toInt 1 3 ((iv 10 1).toInt).toNat) pt) (2 : Int32).toInt from (by have hd9 := xr18_0; rw [ga0, gb0, ga1, gb1] at hd9; exact ⟨_, (show FoX (iv 1 7).toInt (fa 1 0) (fa 1 1) (fa 1 2) (fa 1 3) 1 b.toInt (r5 : Int32).toInt from xr5_0), Or.inr ⟨by omega, _, (show FoX (iv 1 7).toInt (fa 1 0) (fa 1 1) (fa 1 2) (fa 1 3) 3 b.toInt (r9 : Int32).toInt from xr9_0), Or.inr ⟨by omega, Or.inr ⟨by omega, r16, (show FoX (iv 1 7).toInt (fa 1 0) (fa 1 1) (fa 1 2) (fa 1 3) 2 b.toInt (r16 : Int32).toInt from xr16_0), Or.inr ⟨(hd9.resolve_right (fun q => by omega)).2, Or.inl ⟨by omega, by omega⟩⟩⟩⟩⟩⟩)), ⟨by decide, by decide⟩, rfl⟩, by rw [ht9]; exact hP9, hD9⟩, hS.F ht9⟩) hS.2.2 dX3_weighUp_128
        · have fc19 := z_eq (rfl : (r18).toInt = _) (by decide : (0 : Int32).toInt = 0) c19
          refine lv_aload_n hx hb dX3_weighUp_98 rfl (lv_at hl 2 rfl) ?_
          refine lv_iload hx hb dX3_weighUp_99 (lv_at hl 0 rfl) ?_
          have hFc := free_all hD hS hA
          refine va_calli (va_runV (As := [.int r14]) (rest := []) ⟨hx, hb, hml, hown, ht⟩ (c_X3_settleByTwo l dC dI H.size h g ca iv lv (u2 (u2 fa 30 2 n2) 1 6 n17) (u2 (u2 la 30 0 n3) 30 1 n4) (IX_a (c := 1) (k := 6) (IX_a (c := 30) (k := 2) hI hn2) hn17) r14) (kV 1 ht m_634 m_636 m_10 m_83 m_637 rfl rfl hd_X3_settleByTwo_v ⟨Nat.le_of_ble_eq_true rfl, Nat.le_of_ble_eq_true rfl⟩) (vW hP hK hD (rX_3 hK hP)) rfl rfl hl.1 rfl (lv_room (Nat.le_of_ble_eq_true rfl)) dX3_weighUp_101 ⟨Nat.le_of_ble_eq_true rfl, Nat.le_of_ble_eq_true rfl⟩) hS (fun q _ h => hFc q h) hFc (fun r25 u t H1 locs ht9 hvm hr25 hB hz1 hk1 hS => ?_)
          obtain ⟨n26, n27, hn26, hn27, hr25, rfl⟩ := hr25
          have hn26 : 0 ≤ n26.toInt ∧ n26.toInt ≤ 2 := hn26
          have hn27 : 0 ≤ n27.toInt ∧ n27.toInt ≤ 2 := hn27
          obtain ⟨hP, hD⟩ := hB
          rw [ht9] at hP
          generalize H1 = H at hP hS ⊢
          have hP : va_P (dC, dI) classes (WX h g ca (u2 (u2 iv 3 3 n26) 3 4 n27) lv (u2 (u2 fa 30 2 n2) 1 6 n17) (u2 (u2 la 30 0 n3) 30 1 n4)) H := hP
          have hD : va_D A (WX h g ca (u2 (u2 iv 3 3 n26) 3 4 n27) lv (u2 (u2 fa 30 2 n2) 1 6 n17) (u2 (u2 la 30 0 n3) 30 1 n4)) := (show va_D _ (WX h g ca (u2 (u2 iv 3 3 n26) 3 4 n27) lv (u2 (u2 fa 30 2 n2) 1 6 n17) (u2 (u2 la 30 0 n3) 30 1 n4)) from hD).weaken (fun _ _ _ h => hFc _ h)
          have hP9 : va_P (dC, dI) classes (WX h g ca (u2 (u2 iv 3 3 n26) 3 4 n27) lv (u2 (u2 fa 1 6 n17) 30 2 n2) (u2 (u2 la 30 0 n3) 30 1 n4)) H := hP
          have hD9 : va_D A (WX h g ca (u2 (u2 iv 3 3 n26) 3 4 n27) lv (u2 (u2 fa 1 6 n17) 30 2 n2) (u2 (u2 la 30 0 n3) 30 1 n4)) := hD
          exact W.iret (v := r25) hx hb hr (fun t ht9 hW => ⟨⟨r25, ((u2 (u2 iv 3 3 n26) 3 4 n27), lv, (u2 (u2 fa 1 6 n17) 30 2 n2), (u2 (u2 la 30 0 n3) 30 1 n4)), rfl, ⟨n17, n2, n3, n4, n26, n27, hn17, (show inb (0, 2) n26 from ⟨by omega, by omega⟩), (show inb (0, 2) n27 from ⟨by omega, by omega⟩), (show WuR (fun q v => FoX (iv 1 7).toInt (fa 1 0) (fa 1 1) (fa 1 2) (fa 1 3) q (b).toInt v) (nX (fa 10 0) (a).toInt (b).toInt 0 ((iv 10 1).toInt).toNat).toInt (nX (fa 10 0) (a).toInt (b).toInt 1 ((iv 10 1).toInt).toNat).toInt (nX (fa 10 0) (a).toInt (b).toInt 2 ((iv 10 1).toInt).toNat).toInt (fun pt => difL (sX (fa 10 0) (a).toInt (b).toInt 0 4 ((iv 10 1).toInt).toNat) (sX (fa 10 0) (a).toInt (b).toInt 0 3 ((iv 10 1).toInt).toNat) (sX (fa 10 0) (a).toInt (b).toInt 1 4 ((iv 10 1).toInt).toNat) (sX (fa 10 0) (a).toInt (b).toInt 1 3 ((iv 10 1).toInt).toNat) pt) (r25 : Int32).toInt from (by have hd9 := xr18_0; rw [ga0, gb0, ga1, gb1] at hd9; exact ⟨_, (show FoX (iv 1 7).toInt (fa 1 0) (fa 1 1) (fa 1 2) (fa 1 3) 1 b.toInt (r5 : Int32).toInt from xr5_0), Or.inr ⟨by omega, _, (show FoX (iv 1 7).toInt (fa 1 0) (fa 1 1) (fa 1 2) (fa 1 3) 3 b.toInt (r9 : Int32).toInt from xr9_0), Or.inr ⟨by omega, Or.inr ⟨by omega, r16, (show FoX (iv 1 7).toInt (fa 1 0) (fa 1 1) (fa 1 2) (fa 1 3) 2 b.toInt (r16 : Int32).toInt from xr16_0), Or.inl ⟨(hd9.resolve_left (fun q => by omega)).2, by omega⟩⟩⟩⟩⟩)), ⟨by omega, by omega⟩, rfl⟩, by rw [ht9]; exact hP9, hD9⟩, hS.F ht9⟩) hS.2.2 dX3_weighUp_104
      · have fc13 := z_nle (rfl : (r5).toInt = _) (rfl : (v12).toInt = _) c13
        refine lv_iconst (v := 0) hx hb dX3_weighUp_64 (by decide) ?_
        have : (0 : Int32).toInt = 0 := (by decide)
        have hP9 : va_P (dC, dI) classes (WX h g ca (u2 (u2 iv 3 3 (iv 3 3)) 3 4 (iv 3 4)) lv (u2 (u2 fa 1 6 n10) 30 2 n2) (u2 (u2 la 30 0 n3) 30 1 n4)) H := hP
        have hD9 : va_D A (WX h g ca (u2 (u2 iv 3 3 (iv 3 3)) 3 4 (iv 3 4)) lv (u2 (u2 fa 1 6 n10) 30 2 n2) (u2 (u2 la 30 0 n3) 30 1 n4)) := hD
        exact W.iret (v := 0) hx hb hr (fun t ht9 hW => ⟨⟨0, ((u2 (u2 iv 3 3 (iv 3 3)) 3 4 (iv 3 4)), lv, (u2 (u2 fa 1 6 n10) 30 2 n2), (u2 (u2 la 30 0 n3) 30 1 n4)), rfl, ⟨n10, n2, n3, n4, (iv 3 3), (iv 3 4), hn10, (hI.1 3 3), (hI.1 3 4), (show WuR (fun q v => FoX (iv 1 7).toInt (fa 1 0) (fa 1 1) (fa 1 2) (fa 1 3) q (b).toInt v) (nX (fa 10 0) (a).toInt (b).toInt 0 ((iv 10 1).toInt).toNat).toInt (nX (fa 10 0) (a).toInt (b).toInt 1 ((iv 10 1).toInt).toNat).toInt (nX (fa 10 0) (a).toInt (b).toInt 2 ((iv 10 1).toInt).toNat).toInt (fun pt => difL (sX (fa 10 0) (a).toInt (b).toInt 0 4 ((iv 10 1).toInt).toNat) (sX (fa 10 0) (a).toInt (b).toInt 0 3 ((iv 10 1).toInt).toNat) (sX (fa 10 0) (a).toInt (b).toInt 1 4 ((iv 10 1).toInt).toNat) (sX (fa 10 0) (a).toInt (b).toInt 1 3 ((iv 10 1).toInt).toNat) pt) (0 : Int32).toInt from ⟨_, (show FoX (iv 1 7).toInt (fa 1 0) (fa 1 1) (fa 1 2) (fa 1 3) 1 b.toInt (r5 : Int32).toInt from xr5_0), Or.inr ⟨by omega, _, (show FoX (iv 1 7).toInt (fa 1 0) (fa 1 1) (fa 1 2) (fa 1 3) 3 b.toInt (r9 : Int32).toInt from xr9_0), Or.inr ⟨by omega, Or.inl ⟨by omega, by omega⟩⟩⟩⟩), ⟨by decide, by decide⟩, rfl⟩, by rw [ht9]; exact hP9, hD9⟩, hS.F ht9⟩) hS.2.2 dX3_weighUp_65
    · have fc11 := z_eq (rfl : (r9).toInt = _) (by decide : (1 : Int32).toInt = 1) c11
      refine lv_aload_n hx hb dX3_weighUp_44 rfl (lv_at hl 1 rfl) ?_
      refine lv_iconst (v := 0) hx hb dX3_weighUp_45 (by decide) ?_
      refine lv_iconst (v := 0) hx hb dX3_weighUp_46 (by decide) ?_
      have hFc := free_all hD hS hA
      refine va_calli (va_runV (As := [.int 0, .int 0]) (rest := []) ⟨hx, hb, hml, hown, ht⟩ (c_X3_settle l dC dI H.size h g ca iv lv (u2 (u2 fa 30 2 n2) 1 6 n10) (u2 (u2 la 30 0 n3) 30 1 n4) (IX_a (c := 1) (k := 6) (IX_a (c := 30) (k := 2) hI hn2) hn10) 0 0 ⟨by decide, by decide⟩ ⟨by decide, by decide⟩) (kV 2 ht m_622 m_624 m_9 m_83 m_625 rfl rfl hd_X3_settle_v ⟨Nat.le_of_ble_eq_true rfl, Nat.le_of_ble_eq_true rfl⟩) (vW hP hK hD (rX_3 hK hP)) rfl rfl hl.1 rfl (lv_room (Nat.le_of_ble_eq_true rfl)) dX3_weighUp_47 ⟨Nat.le_of_ble_eq_true rfl, Nat.le_of_ble_eq_true rfl⟩) hS (fun q _ h => hFc q h) hFc (fun r28 u t H1 locs ht9 hvm hr28 hB hz1 hk1 hS => ?_)
      obtain ⟨n29, n30, hn29, hn30, hr28, rfl⟩ := hr28
      have hn29 : 0 ≤ n29.toInt ∧ n29.toInt ≤ 2 := hn29
      have hn30 : 0 ≤ n30.toInt ∧ n30.toInt ≤ 2 := hn30
      obtain ⟨hP, hD⟩ := hB
      rw [ht9] at hP
      generalize H1 = H at hP hS ⊢
      have hP : va_P (dC, dI) classes (WX h g ca (u2 (u2 iv 3 3 n29) 3 4 n30) lv (u2 (u2 fa 30 2 n2) 1 6 n10) (u2 (u2 la 30 0 n3) 30 1 n4)) H := hP
      have hD : va_D A (WX h g ca (u2 (u2 iv 3 3 n29) 3 4 n30) lv (u2 (u2 fa 30 2 n2) 1 6 n10) (u2 (u2 la 30 0 n3) 30 1 n4)) := (show va_D _ (WX h g ca (u2 (u2 iv 3 3 n29) 3 4 n30) lv (u2 (u2 fa 30 2 n2) 1 6 n10) (u2 (u2 la 30 0 n3) 30 1 n4)) from hD).weaken (fun _ _ _ h => hFc _ h)
      have hP9 : va_P (dC, dI) classes (WX h g ca (u2 (u2 iv 3 3 n29) 3 4 n30) lv (u2 (u2 fa 1 6 n10) 30 2 n2) (u2 (u2 la 30 0 n3) 30 1 n4)) H := hP
      have hD9 : va_D A (WX h g ca (u2 (u2 iv 3 3 n29) 3 4 n30) lv (u2 (u2 fa 1 6 n10) 30 2 n2) (u2 (u2 la 30 0 n3) 30 1 n4)) := hD
      exact W.iret (v := r28) hx hb hr (fun t ht9 hW => ⟨⟨r28, ((u2 (u2 iv 3 3 n29) 3 4 n30), lv, (u2 (u2 fa 1 6 n10) 30 2 n2), (u2 (u2 la 30 0 n3) 30 1 n4)), rfl, ⟨n10, n2, n3, n4, n29, n30, hn10, (show inb (0, 2) n29 from ⟨by omega, by omega⟩), (show inb (0, 2) n30 from ⟨by omega, by omega⟩), (show WuR (fun q v => FoX (iv 1 7).toInt (fa 1 0) (fa 1 1) (fa 1 2) (fa 1 3) q (b).toInt v) (nX (fa 10 0) (a).toInt (b).toInt 0 ((iv 10 1).toInt).toNat).toInt (nX (fa 10 0) (a).toInt (b).toInt 1 ((iv 10 1).toInt).toNat).toInt (nX (fa 10 0) (a).toInt (b).toInt 2 ((iv 10 1).toInt).toNat).toInt (fun pt => difL (sX (fa 10 0) (a).toInt (b).toInt 0 4 ((iv 10 1).toInt).toNat) (sX (fa 10 0) (a).toInt (b).toInt 0 3 ((iv 10 1).toInt).toNat) (sX (fa 10 0) (a).toInt (b).toInt 1 4 ((iv 10 1).toInt).toNat) (sX (fa 10 0) (a).toInt (b).toInt 1 3 ((iv 10 1).toInt).toNat) pt) (r28 : Int32).toInt from ⟨_, (show FoX (iv 1 7).toInt (fa 1 0) (fa 1 1) (fa 1 2) (fa 1 3) 1 b.toInt (r5 : Int32).toInt from xr5_0), Or.inr ⟨by omega, _, (show FoX (iv 1 7).toInt (fa 1 0) (fa 1 1) (fa 1 2) (fa 1 3) 3 b.toInt (r9 : Int32).toInt from xr9_0), Or.inl ⟨by omega, by omega⟩⟩⟩), ⟨by omega, by omega⟩, rfl⟩, by rw [ht9]; exact hP9, hD9⟩, hS.F ht9⟩) hS.2.2 dX3_weighUp_50
  · have fc8 := z_nle (rfl : (r5).toInt = _) (rfl : (v7).toInt = _) c8
    refine lv_iconst (v := 0) hx hb dX3_weighUp_29 (by decide) ?_
    have : (0 : Int32).toInt = 0 := (by decide)
    have hP9 : va_P (dC, dI) classes (WX h g ca (u2 (u2 iv 3 3 (iv 3 3)) 3 4 (iv 3 4)) lv (u2 (u2 fa 1 6 n6) 30 2 n2) (u2 (u2 la 30 0 n3) 30 1 n4)) H := hP
    have hD9 : va_D A (WX h g ca (u2 (u2 iv 3 3 (iv 3 3)) 3 4 (iv 3 4)) lv (u2 (u2 fa 1 6 n6) 30 2 n2) (u2 (u2 la 30 0 n3) 30 1 n4)) := hD
    exact W.iret (v := 0) hx hb hr (fun t ht9 hW => ⟨⟨0, ((u2 (u2 iv 3 3 (iv 3 3)) 3 4 (iv 3 4)), lv, (u2 (u2 fa 1 6 n6) 30 2 n2), (u2 (u2 la 30 0 n3) 30 1 n4)), rfl, ⟨n6, n2, n3, n4, (iv 3 3), (iv 3 4), hn6, (hI.1 3 3), (hI.1 3 4), (show WuR (fun q v => FoX (iv 1 7).toInt (fa 1 0) (fa 1 1) (fa 1 2) (fa 1 3) q (b).toInt v) (nX (fa 10 0) (a).toInt (b).toInt 0 ((iv 10 1).toInt).toNat).toInt (nX (fa 10 0) (a).toInt (b).toInt 1 ((iv 10 1).toInt).toNat).toInt (nX (fa 10 0) (a).toInt (b).toInt 2 ((iv 10 1).toInt).toNat).toInt (fun pt => difL (sX (fa 10 0) (a).toInt (b).toInt 0 4 ((iv 10 1).toInt).toNat) (sX (fa 10 0) (a).toInt (b).toInt 0 3 ((iv 10 1).toInt).toNat) (sX (fa 10 0) (a).toInt (b).toInt 1 4 ((iv 10 1).toInt).toNat) (sX (fa 10 0) (a).toInt (b).toInt 1 3 ((iv 10 1).toInt).toNat) pt) (0 : Int32).toInt from ⟨_, (show FoX (iv 1 7).toInt (fa 1 0) (fa 1 1) (fa 1 2) (fa 1 3) 1 b.toInt (r5 : Int32).toInt from xr5_0), Or.inl ⟨by omega, by omega⟩⟩), ⟨by decide, by decide⟩, rfl⟩, by rw [ht9]; exact hP9, hD9⟩, hS.F ht9⟩) hS.2.2 dX3_weighUp_30
set_option maxHeartbeats 4000000 in
set_option maxRecDepth 100000 in
/-- X11_state -/
theorem c_X11_state_f (l : Launch) (dC : Nat → ClassId) (dI : Nat → Nat → Nat) (sz : Nat) (ak av : Nat → Nat) (h : Nat) (g : Nat → Nat → Nat) (ca : Nat → Nat → ClassId) (iv : Nat → Nat → Int32) (lv : Nat → Nat → Int64) (fa : Nat → Nat → Nat → Int32) (la : Nat → Nat → Nat → Int64) (hI : IX iv fa) (a : Int32) (b : Int32) (hJB : ∀ j : Nat, (j : Int) < (iv 1 7).toInt → 0 ≤ (fa 1 0 j).toInt) : Met l yX11_state (wc yX11_state cX11_state 3 (some .int)) ({ frames := 5, cells := 0, slots := 0, locals := 117 } : Room) (pWZ ak av (dC, dI) classes (WX h g ca iv lv fa la) (TX ca) sz [.ref h, .int a, .int b]) (va_Qi (fun r (u : SS) => ∃ (na_1_6 : Nat → Int32) (na_30_2 : Nat → Int32) (nb_30_0 : Nat → Int64) (nb_30_1 : Nat → Int64) (ni_3_3 : Int32) (ni_3_4 : Int32), (∀ j, inb (bA 1 6 j) (na_1_6 j)) ∧ inb (bI 3 3) ni_3_3 ∧ inb (bI 3 4) ni_3_4 ∧ (((r.toInt = -100001 ∧ ¬ (0 ≤ a.toInt ∧ a.toInt < (iv 0 7).toInt)) ∨ (r.toInt = -100002 ∧ (0 ≤ a.toInt ∧ a.toInt < (iv 0 7).toInt) ∧ ¬ (0 ≤ b.toInt ∧ b.toInt ≤ (iv 11 10).toInt)) ∨ ((0 ≤ a.toInt ∧ a.toInt < (iv 0 7).toInt) ∧ (0 ≤ b.toInt ∧ b.toInt ≤ (iv 11 10).toInt) ∧ WuR (fun q v => FoX (iv 1 7).toInt (fa 1 0) (fa 1 1) (fa 1 2) (fa 1 3) q b.toInt v) (nX (fa 10 0) a.toInt b.toInt 0 ((iv 10 1).toInt).toNat).toInt (nX (fa 10 0) a.toInt b.toInt 1 ((iv 10 1).toInt).toNat).toInt (nX (fa 10 0) a.toInt b.toInt 2 ((iv 10 1).toInt).toNat).toInt (fun pt => difL (sX (fa 10 0) a.toInt b.toInt 0 4 ((iv 10 1).toInt).toNat) (sX (fa 10 0) a.toInt b.toInt 0 3 ((iv 10 1).toInt).toNat) (sX (fa 10 0) a.toInt b.toInt 1 4 ((iv 10 1).toInt).toNat) (sX (fa 10 0) a.toInt b.toInt 1 3 ((iv 10 1).toInt).toNat) pt) r.toInt))) ∧ ((-100002) ≤ r.toInt ∧ r.toInt ≤ 2) ∧ u = ((u2 (u2 iv 3 3 ni_3_3) 3 4 ni_3_4), lv, (u2 (u2 fa 1 6 na_1_6) 30 2 na_30_2), (u2 (u2 la 30 0 nb_30_0) 30 1 nb_30_1))) (bX (dC, dI) h g ca (va_A (WX h g ca iv lv fa la) sz)) (va_A (WX h g ca iv lv fa la) sz)) 0 0 (va_A (WX h g ca iv lv fa la) sz) := by
  refine Met.ofW (cc := cX11_state) (maxL := 3) (ret := (some .int)) (by decide) rfl ?_
  intro p e s m args below meth c s₁ B hml hv
  obtain ⟨rfl, hsz, hP, hK, hD0, hZ⟩ := hv
  have hx := B.exec
  have hb := B.bytes
  have hr := B.returns
  have ht := tb_tl (atoms_spec (ws := wc yX11_state cX11_state 3 (some .int)) B.pre)
  have hown : s.vm.findClass RX11 = some m.cls := findClass_of_methodNamed B.named
  have hlocks := B.notSynchronized
  subst hsz
  have hD := hD0.self (sz := s.heap.size)
  generalize hAe : va_A (WX h g ca iv lv fa la) s.heap.size = A at hD hZ ⊢
  have hA : ∀ q : Nat, s.heap.size ≤ q → A q := fun q h => by rw [← hAe]; exact Or.inr h
  have hS : va_S A s.heap s.heap [] := va_S.rf
  have hl := lv_entry [.ref h, .int a, .int b] (n := 3) (Nat.le_of_ble_eq_true rfl)
  rw [lg_entry_eq]
  generalize (lg_sl [.ref h, .int a, .int b] ++ List.replicate (3 - (lg_sl [.ref h, .int a, .int b]).length) Slot.unset).toArray = ls at hl ⊢
  have hl : lv_has ls 3 [(0, .ref h), (1, .int a), (2, .int b)] := hl
  refine lv_aload_n hx hb dX11_state_0 rfl (lv_at hl 0 rfl) ?_
  refine gX_11_2 hx hb ht hown hK hP m_417 dX11_state_1 ?_
  refine lv_iload_n hx hb dX11_state_4 rfl (lv_at hl 1 rfl) ?_
  refine vp_callSi (W.runV (As := [.int a]) (rest := []) ⟨hx, hb, hml, hown, ht⟩ (c_X0_has l dC dI h g ca iv lv fa la hI a) (kV 1 ht m_472 m_473 m_474 m_80 m_475 rfl rfl hd_X0_has_v ⟨Nat.le_of_ble_eq_true rfl, Nat.le_of_ble_eq_true rfl⟩) (vR hP hK (rX_0 hK hP)) rfl rfl hl.1 rfl (lv_room (Nat.le_of_ble_eq_true rfl)) dX11_state_5 ⟨Nat.le_of_ble_eq_true rfl, Nat.le_of_ble_eq_true rfl⟩) (fun r1 hr1 => ?_)
  rcases hr1 with ⟨rfl, fr1⟩ | ⟨rfl, fr1⟩
  · skip
    have i_0_7 : 0 ≤ (iv 0 7).toInt ∧ (iv 0 7).toInt ≤ 10 := hI.1 0 7
    have fr1 : (0 ≤ (a : Int32).toInt ∧ (a : Int32).toInt < ((iv 0 7) : Int32).toInt) := fr1
    refine lv_if_ne (tgt := 14) hx hb dX11_state_8 (by decide) (fun c2 => ?_) (fun c2 => ?_)
    · skip
      refine lv_iload_n hx hb dX11_state_14 rfl (lv_at hl 2 rfl) ?_
      refine lv_iconst (v := 0) hx hb dX11_state_15 (by decide) ?_
      refine lv_aload_n hx hb dX11_state_16 rfl (lv_at hl 0 rfl) ?_
      have i_11_10 : 0 ≤ (iv 11 10).toInt ∧ (iv 11 10).toInt ≤ 3000 := hI.1 11 10
      refine gX_11_10 hx hb ht hown hK hP m_425 (v := (iv 11 10)) rfl dX11_state_17 ?_
      refine vp_callSi (W.runS (As := [.int b, .int 0, .int (iv 11 10)]) (rest := []) ⟨hx, hb, hml, hown, ht⟩ (c_X11_within l dC dI b 0 (iv 11 10) (b.toInt) (0) ((iv 11 10).toInt) (rfl : (b).toInt = _) (by decide : (0 : Int32).toInt = 0) (rfl : ((iv 11 10)).toInt = _)) (kS 3 ht m_453 m_454 m_77 m_455 rfl rfl hd_X11_within_v ⟨Nat.le_of_ble_eq_true rfl, Nat.le_of_ble_eq_true rfl⟩) (sR noP (hK.sub (tys' := []) [] rfl)) rfl rfl hl.1 rfl (lv_room (Nat.le_of_ble_eq_true rfl)) dX11_state_20 ⟨Nat.le_of_ble_eq_true rfl, Nat.le_of_ble_eq_true rfl⟩) (fun r3 hr3 => ?_)
      rcases hr3 with ⟨rfl, fr3⟩ | ⟨rfl, fr3⟩
      · skip
        refine lv_if_eq (tgt := 38) hx hb dX11_state_23 (by decide) (fun c4 => ?_) (fun c4 => ?_)
        · exact absurd c4 (by decide)
        · skip
          refine lv_aload_n hx hb dX11_state_26 rfl (lv_at hl 0 rfl) ?_
          refine gX_11_5 hx hb ht hown hK hP m_420 dX11_state_27 ?_
          refine lv_iload_n hx hb dX11_state_30 rfl (lv_at hl 1 rfl) ?_
          refine lv_iload_n hx hb dX11_state_31 rfl (lv_at hl 2 rfl) ?_
          have i_1_7 : 0 ≤ (iv 1 7).toInt ∧ (iv 1 7).toInt ≤ 8 := hI.1 1 7
          have i_10_1 : 0 ≤ (iv 10 1).toInt ∧ (iv 10 1).toInt ≤ 60 := hI.1 10 1
          have hFc := free_all hD hS hA
          refine va_calli (va_runV (As := [.int a, .int b]) (rest := []) ⟨hx, hb, hml, hown, ht⟩ (c_X3_weighUp_f l dC dI s.heap.size ak av h g ca iv lv fa la hI a b hJB) (kV 2 ht m_595 m_596 m_597 m_83 m_598 rfl rfl hd_X3_weighUp_v ⟨Nat.le_of_ble_eq_true rfl, Nat.le_of_ble_eq_true rfl⟩) (vWZ hP hK hD ((hZ.kept hS.2.1).narrow (free_all hD hS hA)) (rX_3 hK hP)) rfl rfl hl.1 rfl (lv_room (Nat.le_of_ble_eq_true rfl)) dX11_state_32 ⟨Nat.le_of_ble_eq_true rfl, Nat.le_of_ble_eq_true rfl⟩) hS (fun q _ h => hFc q h) hFc (fun r5 u t H1 locs ht9 hvm hr5 hB hz1 hk1 hS => ?_)
          obtain ⟨n6, n7, n8, n9, n10, n11, hn6, hn10, hn11, xr5_0, hr5, rfl⟩ := hr5
          have hn7 : ∀ j, inb (bA 30 2 j) (n7 j) := fun j => full_i _
          have hn10 : 0 ≤ n10.toInt ∧ n10.toInt ≤ 2 := hn10
          have hn11 : 0 ≤ n11.toInt ∧ n11.toInt ≤ 2 := hn11
          obtain ⟨hP, hD⟩ := hB
          rw [ht9] at hP
          generalize H1 = H at hP hS ⊢
          have hP : va_P (dC, dI) classes (WX h g ca (u2 (u2 iv 3 3 n10) 3 4 n11) lv (u2 (u2 fa 1 6 n6) 30 2 n7) (u2 (u2 la 30 0 n8) 30 1 n9)) H := hP
          have hD : va_D A (WX h g ca (u2 (u2 iv 3 3 n10) 3 4 n11) lv (u2 (u2 fa 1 6 n6) 30 2 n7) (u2 (u2 la 30 0 n8) 30 1 n9)) := (show va_D _ (WX h g ca (u2 (u2 iv 3 3 n10) 3 4 n11) lv (u2 (u2 fa 1 6 n6) 30 2 n7) (u2 (u2 la 30 0 n8) 30 1 n9)) from hD).weaken (fun _ _ _ h => hFc _ h)
          have xr5_0 : WuR (fun q v => FoX ((iv 1 7) : Int32).toInt (fa 1 0) (fa 1 1) (fa 1 2) (fa 1 3) q (b : Int32).toInt v) (nX (fa 10 0) (a : Int32).toInt (b : Int32).toInt 0 (((iv 10 1) : Int32).toInt).toNat).toInt (nX (fa 10 0) (a : Int32).toInt (b : Int32).toInt 1 (((iv 10 1) : Int32).toInt).toNat).toInt (nX (fa 10 0) (a : Int32).toInt (b : Int32).toInt 2 (((iv 10 1) : Int32).toInt).toNat).toInt (fun pt => difL (sX (fa 10 0) (a : Int32).toInt (b : Int32).toInt 0 4 (((iv 10 1) : Int32).toInt).toNat) (sX (fa 10 0) (a : Int32).toInt (b : Int32).toInt 0 3 (((iv 10 1) : Int32).toInt).toNat) (sX (fa 10 0) (a : Int32).toInt (b : Int32).toInt 1 4 (((iv 10 1) : Int32).toInt).toNat) (sX (fa 10 0) (a : Int32).toInt (b : Int32).toInt 1 3 (((iv 10 1) : Int32).toInt).toNat) pt) (r5 : Int32).toInt := xr5_0
          refine lv_goto (tgt := 40) hx hb dX11_state_35 (by decide) ?_
          have hP9 : va_P (dC, dI) classes (WX h g ca (u2 (u2 iv 3 3 n10) 3 4 n11) lv (u2 (u2 fa 1 6 n6) 30 2 n7) (u2 (u2 la 30 0 n8) 30 1 n9)) H := hP
          have hD9 : va_D A (WX h g ca (u2 (u2 iv 3 3 n10) 3 4 n11) lv (u2 (u2 fa 1 6 n6) 30 2 n7) (u2 (u2 la 30 0 n8) 30 1 n9)) := hD
          exact W.iret (v := r5) hx hb hr (fun t ht9 hW => ⟨⟨r5, ((u2 (u2 iv 3 3 n10) 3 4 n11), lv, (u2 (u2 fa 1 6 n6) 30 2 n7), (u2 (u2 la 30 0 n8) 30 1 n9)), rfl, ⟨n6, n7, n8, n9, n10, n11, hn6, (show inb (0, 2) n10 from ⟨by omega, by omega⟩), (show inb (0, 2) n11 from ⟨by omega, by omega⟩), (show (((r5 : Int32).toInt = -100001 ∧ ¬ (0 ≤ (a).toInt ∧ (a).toInt < (iv 0 7).toInt)) ∨ ((r5 : Int32).toInt = -100002 ∧ (0 ≤ (a).toInt ∧ (a).toInt < (iv 0 7).toInt) ∧ ¬ (0 ≤ (b).toInt ∧ (b).toInt ≤ (iv 11 10).toInt)) ∨ ((0 ≤ (a).toInt ∧ (a).toInt < (iv 0 7).toInt) ∧ (0 ≤ (b).toInt ∧ (b).toInt ≤ (iv 11 10).toInt) ∧ WuR (fun q v => FoX (iv 1 7).toInt (fa 1 0) (fa 1 1) (fa 1 2) (fa 1 3) q (b).toInt v) (nX (fa 10 0) (a).toInt (b).toInt 0 ((iv 10 1).toInt).toNat).toInt (nX (fa 10 0) (a).toInt (b).toInt 1 ((iv 10 1).toInt).toNat).toInt (nX (fa 10 0) (a).toInt (b).toInt 2 ((iv 10 1).toInt).toNat).toInt (fun pt => difL (sX (fa 10 0) (a).toInt (b).toInt 0 4 ((iv 10 1).toInt).toNat) (sX (fa 10 0) (a).toInt (b).toInt 0 3 ((iv 10 1).toInt).toNat) (sX (fa 10 0) (a).toInt (b).toInt 1 4 ((iv 10 1).toInt).toNat) (sX (fa 10 0) (a).toInt (b).toInt 1 3 ((iv 10 1).toInt).toNat) pt) (r5 : Int32).toInt)) from Or.inr (Or.inr ⟨⟨by omega, by omega⟩, ⟨by omega, by omega⟩, xr5_0⟩)), ⟨by omega, by omega⟩, rfl⟩, by rw [ht9]; exact hP9, hD9⟩, hS.F ht9⟩) hS.2.2 dX11_state_40
      · skip
        refine lv_if_eq (tgt := 38) hx hb dX11_state_23 (by decide) (fun c12 => ?_) (fun c12 => ?_)
        · skip
          refine lv_ldc hx hb hown (ht _ m_456) dX11_state_38 ?_
          have : ((-100002) : Int32).toInt = (-100002) := (by decide)
          have hP9 : va_P (dC, dI) classes (WX h g ca (u2 (u2 iv 3 3 (iv 3 3)) 3 4 (iv 3 4)) lv (u2 (u2 fa 1 6 (fa 1 6)) 30 2 (fa 30 2)) (u2 (u2 la 30 0 (la 30 0)) 30 1 (la 30 1))) s.heap := hP
          have hD9 : va_D A (WX h g ca (u2 (u2 iv 3 3 (iv 3 3)) 3 4 (iv 3 4)) lv (u2 (u2 fa 1 6 (fa 1 6)) 30 2 (fa 30 2)) (u2 (u2 la 30 0 (la 30 0)) 30 1 (la 30 1))) := hD
          exact W.iret (v := (-100002)) hx hb hr (fun t ht9 hW => ⟨⟨(-100002), ((u2 (u2 iv 3 3 (iv 3 3)) 3 4 (iv 3 4)), lv, (u2 (u2 fa 1 6 (fa 1 6)) 30 2 (fa 30 2)), (u2 (u2 la 30 0 (la 30 0)) 30 1 (la 30 1))), rfl, ⟨(fa 1 6), (fa 30 2), (la 30 0), (la 30 1), (iv 3 3), (iv 3 4), (hI.2 1 6), (hI.1 3 3), (hI.1 3 4), (show ((((-100002) : Int32).toInt = -100001 ∧ ¬ (0 ≤ (a).toInt ∧ (a).toInt < (iv 0 7).toInt)) ∨ (((-100002) : Int32).toInt = -100002 ∧ (0 ≤ (a).toInt ∧ (a).toInt < (iv 0 7).toInt) ∧ ¬ (0 ≤ (b).toInt ∧ (b).toInt ≤ (iv 11 10).toInt)) ∨ ((0 ≤ (a).toInt ∧ (a).toInt < (iv 0 7).toInt) ∧ (0 ≤ (b).toInt ∧ (b).toInt ≤ (iv 11 10).toInt) ∧ WuR (fun q v => FoX (iv 1 7).toInt (fa 1 0) (fa 1 1) (fa 1 2) (fa 1 3) q (b).toInt v) (nX (fa 10 0) (a).toInt (b).toInt 0 ((iv 10 1).toInt).toNat).toInt (nX (fa 10 0) (a).toInt (b).toInt 1 ((iv 10 1).toInt).toNat).toInt (nX (fa 10 0) (a).toInt (b).toInt 2 ((iv 10 1).toInt).toNat).toInt (fun pt => difL (sX (fa 10 0) (a).toInt (b).toInt 0 4 ((iv 10 1).toInt).toNat) (sX (fa 10 0) (a).toInt (b).toInt 0 3 ((iv 10 1).toInt).toNat) (sX (fa 10 0) (a).toInt (b).toInt 1 4 ((iv 10 1).toInt).toNat) (sX (fa 10 0) (a).toInt (b).toInt 1 3 ((iv 10 1).toInt).toNat) pt) ((-100002) : Int32).toInt)) from Or.inr (Or.inl ⟨by omega, ⟨by omega, by omega⟩, by omega⟩)), ⟨by decide, by decide⟩, rfl⟩, by rw [ht9]; exact hP9, hD9⟩, hS.F ht9⟩) hS.2.2 dX11_state_40
        · exact absurd rfl c12
    · exact absurd c2 (by decide)
  · skip
    have i_0_7 : 0 ≤ (iv 0 7).toInt ∧ (iv 0 7).toInt ≤ 10 := hI.1 0 7
    have fr1 : ¬ (0 ≤ (a : Int32).toInt ∧ (a : Int32).toInt < ((iv 0 7) : Int32).toInt) := fr1
    refine lv_if_ne (tgt := 14) hx hb dX11_state_8 (by decide) (fun c13 => ?_) (fun c13 => ?_)
    · exact absurd rfl c13
    · skip
      refine lv_ldc hx hb hown (ht _ m_476) dX11_state_11 ?_
      have : ((-100001) : Int32).toInt = (-100001) := (by decide)
      have hP9 : va_P (dC, dI) classes (WX h g ca (u2 (u2 iv 3 3 (iv 3 3)) 3 4 (iv 3 4)) lv (u2 (u2 fa 1 6 (fa 1 6)) 30 2 (fa 30 2)) (u2 (u2 la 30 0 (la 30 0)) 30 1 (la 30 1))) s.heap := hP
      have hD9 : va_D A (WX h g ca (u2 (u2 iv 3 3 (iv 3 3)) 3 4 (iv 3 4)) lv (u2 (u2 fa 1 6 (fa 1 6)) 30 2 (fa 30 2)) (u2 (u2 la 30 0 (la 30 0)) 30 1 (la 30 1))) := hD
      exact W.iret (v := (-100001)) hx hb hr (fun t ht9 hW => ⟨⟨(-100001), ((u2 (u2 iv 3 3 (iv 3 3)) 3 4 (iv 3 4)), lv, (u2 (u2 fa 1 6 (fa 1 6)) 30 2 (fa 30 2)), (u2 (u2 la 30 0 (la 30 0)) 30 1 (la 30 1))), rfl, ⟨(fa 1 6), (fa 30 2), (la 30 0), (la 30 1), (iv 3 3), (iv 3 4), (hI.2 1 6), (hI.1 3 3), (hI.1 3 4), (show ((((-100001) : Int32).toInt = -100001 ∧ ¬ (0 ≤ (a).toInt ∧ (a).toInt < (iv 0 7).toInt)) ∨ (((-100001) : Int32).toInt = -100002 ∧ (0 ≤ (a).toInt ∧ (a).toInt < (iv 0 7).toInt) ∧ ¬ (0 ≤ (b).toInt ∧ (b).toInt ≤ (iv 11 10).toInt)) ∨ ((0 ≤ (a).toInt ∧ (a).toInt < (iv 0 7).toInt) ∧ (0 ≤ (b).toInt ∧ (b).toInt ≤ (iv 11 10).toInt) ∧ WuR (fun q v => FoX (iv 1 7).toInt (fa 1 0) (fa 1 1) (fa 1 2) (fa 1 3) q (b).toInt v) (nX (fa 10 0) (a).toInt (b).toInt 0 ((iv 10 1).toInt).toNat).toInt (nX (fa 10 0) (a).toInt (b).toInt 1 ((iv 10 1).toInt).toNat).toInt (nX (fa 10 0) (a).toInt (b).toInt 2 ((iv 10 1).toInt).toNat).toInt (fun pt => difL (sX (fa 10 0) (a).toInt (b).toInt 0 4 ((iv 10 1).toInt).toNat) (sX (fa 10 0) (a).toInt (b).toInt 0 3 ((iv 10 1).toInt).toNat) (sX (fa 10 0) (a).toInt (b).toInt 1 4 ((iv 10 1).toInt).toNat) (sX (fa 10 0) (a).toInt (b).toInt 1 3 ((iv 10 1).toInt).toNat) pt) ((-100001) : Int32).toInt)) from Or.inl ⟨by omega, by omega⟩), ⟨by decide, by decide⟩, rfl⟩, by rw [ht9]; exact hP9, hD9⟩, hS.F ht9⟩) hS.2.2 dX11_state_13
