/-! ===== n1 ===== -/
set_option maxRecDepth 100000 in
theorem dvX12_gcd_0 : ([(0, .lload_n 0, 1), (1, .invokestatic 160, 3), (4, .lstore 4, 2), (6, .lload_n 2, 1), (7, .invokestatic 160, 3), (10, .lstore 6, 2), (12, .lload 6, 2), (14, .lconst 0, 1), (15, .lcmp, 1), (16, .ifCond .eq 21, 3), (19, .lload 4, 2), (21, .lload 6, 2), (23, .lrem, 1), (24, .lstore 8, 2), (26, .lload 6, 2), (28, .lstore 4, 2), (30, .lload 8, 2), (32, .lstore 6, 2), (34, .goto (-22), 3), (37, .lload 4, 2), (39, .lreturn, 1)] : List (Nat × Instr × Nat)).all (fun q => decide (decode cX12_gcd q.1 = .ok (q.2.1, q.2.2))) = true := by decide +kernel
theorem dX12_gcd_0 : decode cX12_gcd 0 = .ok (.lload_n 0, 1) := all_at dvX12_gcd_0 0 rfl
theorem dX12_gcd_1 : decode cX12_gcd 1 = .ok (.invokestatic 160, 3) := all_at dvX12_gcd_0 1 rfl
theorem dX12_gcd_4 : decode cX12_gcd 4 = .ok (.lstore 4, 2) := all_at dvX12_gcd_0 2 rfl
theorem dX12_gcd_6 : decode cX12_gcd 6 = .ok (.lload_n 2, 1) := all_at dvX12_gcd_0 3 rfl
theorem dX12_gcd_7 : decode cX12_gcd 7 = .ok (.invokestatic 160, 3) := all_at dvX12_gcd_0 4 rfl
theorem dX12_gcd_10 : decode cX12_gcd 10 = .ok (.lstore 6, 2) := all_at dvX12_gcd_0 5 rfl
theorem dX12_gcd_12 : decode cX12_gcd 12 = .ok (.lload 6, 2) := all_at dvX12_gcd_0 6 rfl
theorem dX12_gcd_14 : decode cX12_gcd 14 = .ok (.lconst 0, 1) := all_at dvX12_gcd_0 7 rfl
theorem dX12_gcd_15 : decode cX12_gcd 15 = .ok (.lcmp, 1) := all_at dvX12_gcd_0 8 rfl
theorem dX12_gcd_16 : decode cX12_gcd 16 = .ok (.ifCond .eq 21, 3) := all_at dvX12_gcd_0 9 rfl
theorem dX12_gcd_19 : decode cX12_gcd 19 = .ok (.lload 4, 2) := all_at dvX12_gcd_0 10 rfl
theorem dX12_gcd_21 : decode cX12_gcd 21 = .ok (.lload 6, 2) := all_at dvX12_gcd_0 11 rfl
theorem dX12_gcd_23 : decode cX12_gcd 23 = .ok (.lrem, 1) := all_at dvX12_gcd_0 12 rfl
theorem dX12_gcd_24 : decode cX12_gcd 24 = .ok (.lstore 8, 2) := all_at dvX12_gcd_0 13 rfl
theorem dX12_gcd_26 : decode cX12_gcd 26 = .ok (.lload 6, 2) := all_at dvX12_gcd_0 14 rfl
theorem dX12_gcd_28 : decode cX12_gcd 28 = .ok (.lstore 4, 2) := all_at dvX12_gcd_0 15 rfl
theorem dX12_gcd_30 : decode cX12_gcd 30 = .ok (.lload 8, 2) := all_at dvX12_gcd_0 16 rfl
theorem dX12_gcd_32 : decode cX12_gcd 32 = .ok (.lstore 6, 2) := all_at dvX12_gcd_0 17 rfl
theorem dX12_gcd_34 : decode cX12_gcd 34 = .ok (.goto (-22), 3) := all_at dvX12_gcd_0 18 rfl
theorem dX12_gcd_37 : decode cX12_gcd 37 = .ok (.lload 4, 2) := all_at dvX12_gcd_0 19 rfl
theorem dX12_gcd_39 : decode cX12_gcd 39 = .ok (.lreturn, 1) := all_at dvX12_gcd_0 20 rfl

theorem upd_ne {f : Nat → Int32} {i j : Nat} {x : Int32} (h : j ≠ i) : upd f i x j = f j := by
  unfold upd; split
  · next e => exact absurd e h
  · rfl
theorem upd_eq {f : Nat → Int32} {i : Nat} {x : Int32} : upd f i x i = x := by
  unfold upd; split
  · rfl
  · next e => exact absurd rfl e
theorem updL_ne {f : Nat → Int64} {i j : Nat} {x : Int64} (h : j ≠ i) : vp_updL f i x j = f j := by
  unfold vp_updL; split
  · next e => exact absurd e h
  · rfl
theorem updL_eq {f : Nat → Int64} {i : Nat} {x : Int64} : vp_updL f i x i = x := by
  unfold vp_updL; split
  · rfl
  · next e => exact absurd rfl e
/-- a clause is good: a strike names a place of a rule; what a let says of skeins is at least 1 -/
def gd3 (kd nm fi : Int32) : Prop := (kd.toInt = 3 → 0 ≤ fi.toInt ∧ fi.toInt ≤ 7) ∧ (kd.toInt = 0 → nm.toInt = 1 → 1 ≤ fi.toInt)
/-- the clauses of all rules are good -/
def JCf (n : Int) (cl kd nm fi : Nat → Int32) : Prop := ∀ k c : Int32, 0 ≤ k.toInt → k.toInt < n → 12 * k.toInt ≤ c.toInt → c.toInt < 12 * k.toInt + (cl k.toNatClampNeg).toInt → gd3 (kd c.toNatClampNeg) (nm c.toNatClampNeg) (fi c.toNatClampNeg)
theorem JC_keep {n0 : Int} {cl kd nm fi kd' nm' fi' : Nat → Int32} (hJ : JCf n0 cl kd nm fi) (hcl : ∀ j, inb (bA 12 25 j) (cl j)) (A : ∀ j : Nat, (j : Int) < 12 * n0 → kd' j = kd j ∧ nm' j = nm j ∧ fi' j = fi j) : JCf n0 cl kd' nm' fi' := by
  intro k c h1 h2 h3 h4
  have q := hcl k.toNatClampNeg
  have q1 : 0 ≤ (cl k.toNatClampNeg).toInt ∧ (cl k.toNatClampNeg).toInt ≤ 12 := q
  have e : ((c.toNatClampNeg : Nat) : Int) < 12 * n0 := by show ((c.toInt.toNat : Nat) : Int) < _; omega
  obtain ⟨a, b, d⟩ := A c.toNatClampNeg e
  rw [a, b, d]; exact hJ k c h1 h2 h3 h4
theorem JC_add {n0 n : Int32} {cl kd nm fi kd' nm' fi' : Nat → Int32} (hJ : JCf n0.toInt cl kd nm fi) (hcl : ∀ j, inb (bA 12 25 j) (cl j)) (hn0 : 0 ≤ n0.toInt ∧ n0.toInt ≤ 7) (A : ∀ j : Nat, (j : Int) < 12 * n0.toInt → kd' j = kd j ∧ nm' j = nm j ∧ fi' j = fi j)
    (B : ∀ j : Nat, 12 * n0.toInt ≤ (j : Int) → (j : Int) < 12 * n0.toInt + n.toInt → gd3 (kd' j) (nm' j) (fi' j)) : JCf (n0.toInt + 1) (upd cl n0.toNatClampNeg n) kd' nm' fi' := by
  intro k c h1 h2 h3 h4
  by_cases e : k.toInt = n0.toInt
  · have e2 : k = n0 := Int32.toInt_inj.mp e
    rw [e2, upd_eq] at h4
    refine B _ ?_ ?_
    · show _ ≤ ((c.toInt.toNat : Nat) : Int); omega
    · show ((c.toInt.toNat : Nat) : Int) < _; omega
  · have e2 : k.toNatClampNeg ≠ n0.toNatClampNeg := by show k.toInt.toNat ≠ n0.toInt.toNat; omega
    rw [upd_ne e2] at h4
    exact JC_keep hJ hcl A k c h1 (by omega) h3 h4
def JRf (n : Int) (raw : Nat → Int32) : Prop := ∀ j : Nat, (j : Int) < n → 100 ≤ (raw j).toInt
theorem JR_add {n0 x : Int32} {raw : Nat → Int32} (h : JRf n0.toInt raw) (h0 : 0 ≤ n0.toInt) (hx : 100 ≤ x.toInt) : JRf (n0.toInt + 1) (upd raw n0.toNatClampNeg x) := by
  intro j hj
  by_cases e : j = n0.toNatClampNeg
  · rw [e, upd_eq]; exact hx
  · have e2 : j ≠ n0.toInt.toNat := e
    rw [upd_ne e]; exact h j (by omega)
/-- how many of the first n skeins are of a bale and a look -/
def cn0 (ob ol : Nat → Int32) (b l : Int32) : Nat → Nat
  | 0 => 0
  | n + 1 => cn0 ob ol b l n + (if (ob n).toInt = b.toInt ∧ (ol n).toInt = l.toInt then 1 else 0)
def JNf (n : Int) (ob ol : Nat → Int32) : Prop := ∀ b l : Int32, cn0 ob ol b l n.toNat ≤ 12
theorem cn0_congr {ob ol ob' ol' : Nat → Int32} {b l : Int32} : ∀ n : Nat, (∀ j, j < n → ob' j = ob j ∧ ol' j = ol j) → cn0 ob' ol' b l n = cn0 ob ol b l n
  | 0, _ => rfl
  | n + 1, h => by
    show cn0 ob' ol' b l n + _ = cn0 ob ol b l n + _
    rw [cn0_congr n (fun j hj => h j (Nat.lt_succ_of_lt hj)), (h n (Nat.lt_succ_self n)).1, (h n (Nat.lt_succ_self n)).2]
theorem cn0_mono {ob ol : Nat → Int32} {b l : Int32} {m : Nat} : ∀ n : Nat, m ≤ n → cn0 ob ol b l m ≤ cn0 ob ol b l n
  | 0, h => by rw [Nat.le_zero.mp h]; exact Nat.le_refl _
  | n + 1, h => by
    by_cases e : m = n + 1
    · rw [e]; exact Nat.le_refl _
    · exact Nat.le_trans (cn0_mono n (by omega)) (Nat.le_add_right _ _)
theorem JN_add {n0 b l : Int32} {ob ol : Nat → Int32} (h : JNf n0.toInt ob ol) (h0 : 0 ≤ n0.toInt) (h1 : cn0 ob ol b l n0.toInt.toNat ≤ 11) : JNf (n0.toInt + 1) (upd ob n0.toNatClampNeg b) (upd ol n0.toNatClampNeg l) := by
  intro b' l'
  have e : (n0.toInt + 1).toNat = n0.toInt.toNat + 1 := by omega
  have c := cn0_congr (ob := ob) (ol := ol) (ob' := upd ob n0.toNatClampNeg b) (ol' := upd ol n0.toNatClampNeg l) (b := b') (l := l') n0.toInt.toNat (fun j hj => ⟨upd_ne (by show j ≠ n0.toInt.toNat; omega), upd_ne (by show j ≠ n0.toInt.toNat; omega)⟩)
  have e3 : upd ob n0.toNatClampNeg b n0.toInt.toNat = b := upd_eq
  have e4 : upd ol n0.toNatClampNeg l n0.toInt.toNat = l := upd_eq
  rw [e]
  show cn0 _ _ b' l' n0.toInt.toNat + (if (upd ob n0.toNatClampNeg b n0.toInt.toNat).toInt = b'.toInt ∧ (upd ol n0.toNatClampNeg l n0.toInt.toNat).toInt = l'.toInt then 1 else 0) ≤ 12
  rw [c, e3, e4]
  split
  · next q =>
    have q1 : b = b' := Int32.toInt_inj.mp q.1
    have q2 : l = l' := Int32.toInt_inj.mp q.2
    rw [← q1, ← q2]; omega
  · have := h b' l'; omega
theorem cn0_step {ob ol : Nat → Int32} {b l s s' x y : Int32} (hs : s'.toInt = s.toInt + 1) (h0 : 0 ≤ s.toInt) (hx : x = ob s.toNatClampNeg) (hy : y = ol s.toNatClampNeg) : cn0 ob ol b l s'.toInt.toNat = cn0 ob ol b l s.toInt.toNat + (if x.toInt = b.toInt ∧ y.toInt = l.toInt then 1 else 0) := by
  have e : s'.toInt.toNat = s.toInt.toNat + 1 := by omega
  rw [e, hx, hy]; rfl
theorem cn0_le {ob ol : Nat → Int32} {b l s s' : Int32} (hs : s'.toInt = s.toInt + 1) (h0 : 0 ≤ s.toInt) : cn0 ob ol b l s.toInt.toNat ≤ cn0 ob ol b l s'.toInt.toNat := cn0_mono _ (by omega)
/-- how many of the first n skeins are of a bale and a look and are there on a day -/
def cn1 (ob ol dy lo : Nat → Int32) (b l d : Int32) : Nat → Nat
  | 0 => 0
  | n + 1 => cn1 ob ol dy lo b l d n + (if (ob n).toInt = b.toInt ∧ (ol n).toInt = l.toInt ∧ (dy n).toInt ≤ d.toInt ∧ ((lo n).toInt < 0 ∨ d.toInt < (lo n).toInt) then 1 else 0)
theorem cn1_same {ob ol dy lo : Nat → Int32} {b l d s s' : Int32} (hs : s'.toInt = s.toInt + 1) (h0 : 0 ≤ s.toInt) (h : ¬ ((ob s.toNatClampNeg).toInt = b.toInt ∧ (ol s.toNatClampNeg).toInt = l.toInt ∧ (dy s.toNatClampNeg).toInt ≤ d.toInt ∧ ((lo s.toNatClampNeg).toInt < 0 ∨ d.toInt < (lo s.toNatClampNeg).toInt))) : cn1 ob ol dy lo b l d s'.toInt.toNat = cn1 ob ol dy lo b l d s.toInt.toNat := by
  have e : s'.toInt.toNat = s.toInt.toNat + 1 := by omega
  rw [e]
  show _ + (if _ then 1 else 0) = _
  split
  · next q => exact absurd q h
  · rfl
theorem cn1_up {ob ol dy lo : Nat → Int32} {b l d s s' : Int32} (hs : s'.toInt = s.toInt + 1) (h0 : 0 ≤ s.toInt) : cn1 ob ol dy lo b l d s.toInt.toNat ≤ cn1 ob ol dy lo b l d s'.toInt.toNat ∧ cn1 ob ol dy lo b l d s'.toInt.toNat ≤ cn1 ob ol dy lo b l d s.toInt.toNat + 1 := by
  have e : s'.toInt.toNat = s.toInt.toNat + 1 := by omega
  rw [e]
  show _ ≤ _ + (if _ then 1 else 0) ∧ _ + (if _ then 1 else 0) ≤ _
  split <;> omega
theorem cn1_next {ob ol dy lo : Nat → Int32} {b l d s s' : Int32} (hs : s'.toInt = s.toInt + 1) (h0 : 0 ≤ s.toInt) (h : (ob s.toNatClampNeg).toInt = b.toInt ∧ (ol s.toNatClampNeg).toInt = l.toInt ∧ (dy s.toNatClampNeg).toInt ≤ d.toInt ∧ ((lo s.toNatClampNeg).toInt < 0 ∨ d.toInt < (lo s.toNatClampNeg).toInt)) : cn1 ob ol dy lo b l d s'.toInt.toNat = cn1 ob ol dy lo b l d s.toInt.toNat + 1 := by
  have e : s'.toInt.toNat = s.toInt.toNat + 1 := by omega
  rw [e]
  show _ + (if _ then 1 else 0) = _
  split
  · rfl
  · next q => exact absurd h q
set_option maxHeartbeats 4000000 in
set_option maxRecDepth 100000 in
/-- X12_plain -/
theorem c_X12_plain_x (l : Launch) (dC : Nat → ClassId) (dI : Nat → Nat → Nat) (a : Int64) : Met l yX12_plain (wc yX12_plain cX12_plain 2 (some .long)) ({ frames := 0, cells := 0, slots := 0, locals := 0 } : Room) (pR (dC, dI) classes [] [] [.long a]) (vp_Sl (fun r => (True) ∧ ((r.toInt).natAbs = (a.toInt).natAbs))) 0 0 (fun _ => False) := by
  refine Met.ofW (cc := cX12_plain) (maxL := 2) (ret := (some .long)) (by decide) rfl ?_
  intro p e s m args below meth c s₁ B hml hv
  obtain ⟨rfl, hP, hK⟩ := hv
  have hx := B.exec
  have hb := B.bytes
  have hr := B.returns
  have ht := tb_tl (atoms_spec (ws := wc yX12_plain cX12_plain 2 (some .long)) B.pre)
  have hown : s.vm.findClass RX12 = some m.cls := findClass_of_methodNamed B.named
  have hlocks := B.notSynchronized
  have hl := lv_entry [.long a] (n := 2) (Nat.le_of_ble_eq_true rfl)
  rw [lg_entry_eq]
  generalize (lg_sl [.long a] ++ List.replicate (2 - (lg_sl [.long a]).length) Slot.unset).toArray = ls at hl ⊢
  have hl : lv_has ls 2 [(0, .long a)] := hl
  refine lv_lload_n hx hb dX12_plain_0 rfl (lv_at hl 0 rfl) ?_
  refine lv_lconst (v := 0) hx hb dX12_plain_1 (by decide) ?_
  refine W.lcmp hx hb dX12_plain_2 ?_
  refine lv_topi (fun v1 ev1 => ?_)
  refine lv_if_ge (tgt := 12) hx hb dX12_plain_3 (by decide) (fun c2 => ?_) (fun c2 => ?_)
  · have fc2 := zc_nlt ev1 (rfl : (a).toInt = _) (by decide : (0 : Int64).toInt = 0) (Int32.not_lt.mpr c2)
    refine lv_lload_n hx hb dX12_plain_12 rfl (lv_at hl 0 rfl) ?_
    exact W.lret (v := a) hx hb hr (fun t ht9 hW => ⟨a, rfl, ⟨trivial, (show ((a : Int64).toInt).natAbs = ((a).toInt).natAbs from by first | omega | exact l_neg0 (by assumption))⟩, ht9⟩) (fun q hq => by cases hq) dX12_plain_13
  · have fc2 := zc_lt ev1 (rfl : (a).toInt = _) (by decide : (0 : Int64).toInt = 0) (Int32.not_le.mp c2)
    refine lv_lconst (v := 0) hx hb dX12_plain_6 (by decide) ?_
    refine lv_lload_n hx hb dX12_plain_7 rfl (lv_at hl 0 rfl) ?_
    refine lv_lsub hx hb dX12_plain_8 ?_
    refine lv_topl (fun w3 ew3 => ?_)
    refine lv_goto (tgt := 13) hx hb dX12_plain_9 (by decide) ?_
    exact W.lret (v := w3) hx hb hr (fun t ht9 hW => ⟨w3, rfl, ⟨trivial, (show ((w3 : Int64).toInt).natAbs = ((a).toInt).natAbs from by first | omega | exact l_neg0 (by assumption))⟩, ht9⟩) (fun q hq => by cases hq) dX12_plain_13
set_option maxHeartbeats 4000000 in
set_option maxRecDepth 100000 in
/-- X12_gcd -/
theorem c_X12_gcd (l : Launch) (dC : Nat → ClassId) (dI : Nat → Nat → Nat) (a : Int64) (b : Int64) (p_0 : b.toInt ≠ 0) : Met l yX12_gcd (wc yX12_gcd cX12_gcd 10 (some .long)) ({ frames := 1, cells := 0, slots := 0, locals := 21 } : Room) (pR (dC, dI) classes [] [] [.long a, .long b]) (vp_Sl (fun r => (True) ∧ (r.toInt ≠ 0) ∧ ((r.toInt).natAbs ≤ (b.toInt).natAbs))) 0 0 (fun _ => False) := by
  refine Met.ofW (cc := cX12_gcd) (maxL := 10) (ret := (some .long)) (by decide) rfl ?_
  intro p e s m args below meth c s₁ B hml hv
  obtain ⟨rfl, hP, hK⟩ := hv
  have hx := B.exec
  have hb := B.bytes
  have hr := B.returns
  have ht := tb_tl (atoms_spec (ws := wc yX12_gcd cX12_gcd 10 (some .long)) B.pre)
  have hown : s.vm.findClass RX12 = some m.cls := findClass_of_methodNamed B.named
  have hlocks := B.notSynchronized
  have hl := lv_entry [.long a, .long b] (n := 10) (Nat.le_of_ble_eq_true rfl)
  rw [lg_entry_eq]
  generalize (lg_sl [.long a, .long b] ++ List.replicate (10 - (lg_sl [.long a, .long b]).length) Slot.unset).toArray = ls at hl ⊢
  have hl : lv_has ls 10 [(0, .long a), (2, .long b)] := hl
  refine lv_lload_n hx hb dX12_gcd_0 rfl (lv_at hl 0 rfl) ?_
  refine vp_callSl (W.runS (As := [.long a]) (rest := []) ⟨hx, hb, hml, hown, ht⟩ (c_X12_plain_x l dC dI a) (kS 1 ht m_1445 m_1446 m_89 m_1447 rfl rfl hd_X12_plain_v ⟨Nat.le_of_ble_eq_true rfl, Nat.le_of_ble_eq_true rfl⟩) (sR noP (hK.sub (tys' := []) [] rfl)) rfl rfl hl.1 rfl (lv_room (Nat.le_of_ble_eq_true rfl)) dX12_gcd_1 ⟨Nat.le_of_ble_eq_true rfl, Nat.le_of_ble_eq_true rfl⟩) (fun r1 hr1 => ?_)
  obtain ⟨hr1, xr1_0⟩ := hr1
  have xr1_0 : ((r1 : Int64).toInt).natAbs = ((a : Int64).toInt).natAbs := xr1_0
  refine lv_lstore (lv' := [(4, .long r1), (0, .long a), (2, .long b)]) hx hb dX12_gcd_4 hl (by decide) rfl (fun ls hl => ?_)
  refine lv_lload_n hx hb dX12_gcd_6 rfl (lv_at hl 2 rfl) ?_
  refine vp_callSl (W.runS (As := [.long b]) (rest := []) ⟨hx, hb, hml, hown, ht⟩ (c_X12_plain_x l dC dI b) (kS 1 ht m_1445 m_1446 m_89 m_1447 rfl rfl hd_X12_plain_v ⟨Nat.le_of_ble_eq_true rfl, Nat.le_of_ble_eq_true rfl⟩) (sR noP (hK.sub (tys' := []) [] rfl)) rfl rfl hl.1 rfl (lv_room (Nat.le_of_ble_eq_true rfl)) dX12_gcd_7 ⟨Nat.le_of_ble_eq_true rfl, Nat.le_of_ble_eq_true rfl⟩) (fun r2 hr2 => ?_)
  obtain ⟨hr2, xr2_0⟩ := hr2
  have xr2_0 : ((r2 : Int64).toInt).natAbs = ((b : Int64).toInt).natAbs := xr2_0
  refine lv_lstore (lv' := [(6, .long r2), (4, .long r1), (0, .long a), (2, .long b)]) hx hb dX12_gcd_10 hl (by decide) rfl (fun ls hl => ?_)
  have lp8 : ∀ (nn8 : Nat) (x7_6 : Int64) (x7_4 : Int64), ((x7_6 : Int64).toInt).natAbs ≤ ((b).toInt).natAbs → ((x7_6 : Int64).toInt ≠ 0 ∨ ((x7_4 : Int64).toInt ≠ 0 ∧ ((x7_4 : Int64).toInt).natAbs ≤ ((b).toInt).natAbs)) → (((x7_6 : Int64).toInt).natAbs : Int) < (nn8 : Int) → ∀ (ls : Array Slot), lv_has ls 10 [(6, .long x7_6), (4, .long x7_4), (0, .long a), (2, .long b)] → W p l e ({ frames := 1, cells := 0, slots := 0, locals := 21 } : Room) s m ([.long a, .long b] : List Value).toArray below meth c s.heap [] 0 0 (MQ below (vp_Sl (fun r => (True) ∧ (r.toInt ≠ 0) ∧ ((r.toInt).natAbs ≤ (b.toInt).natAbs))) ([.long a, .long b] : List Value).toArray s 0 0 (fun _ => False)) (F0 m 12 ls []) := by
    intro nn8
    induction nn8 with
    | zero => intro x7_6 x7_4 hq8_0 hq8_1 hm8; exfalso; omega
    | succ nn8 ih8 =>
      intro x7_6 x7_4 hq8_0 hq8_1 hm8 ls hl
      refine lv_lload hx hb dX12_gcd_12 (lv_at hl 0 rfl) ?_
      refine lv_lconst (v := 0) hx hb dX12_gcd_14 (by decide) ?_
      refine W.lcmp hx hb dX12_gcd_15 ?_
      refine lv_topi (fun v9 ev9 => ?_)
      refine lv_if_eq (tgt := 37) hx hb dX12_gcd_16 (by decide) (fun c10 => ?_) (fun c10 => ?_)
      · have fc10 := zc_eq ev9 (rfl : (x7_6).toInt = _) (by decide : (0 : Int64).toInt = 0) c10
        refine lv_lload hx hb dX12_gcd_37 (lv_at hl 1 rfl) ?_
        exact W.lret (v := x7_4) hx hb hr (fun t ht9 hW => ⟨x7_4, rfl, ⟨trivial, (show (x7_4 : Int64).toInt ≠ 0 from by omega), (show ((x7_4 : Int64).toInt).natAbs ≤ ((b).toInt).natAbs from by omega)⟩, ht9⟩) (fun q hq => by cases hq) dX12_gcd_39
      · have fc10 := zc_ne ev9 (rfl : (x7_6).toInt = _) (by decide : (0 : Int64).toInt = 0) c10
        refine lv_lload hx hb dX12_gcd_19 (lv_at hl 1 rfl) ?_
        refine lv_lload hx hb dX12_gcd_21 (lv_at hl 0 rfl) ?_
        have zw11 : (x7_6 : Int64).toInt ≠ 0 := by omega
        refine lv_lrem hx hb dX12_gcd_23 (l_nz rfl zw11) ?_
        refine lv_topl (fun w11 ew11 => ?_)
        have tw11 := l_rem ew11 (rfl : (x7_4 : Int64).toInt = _) (rfl : (x7_6 : Int64).toInt = _) zw11
        refine lv_lstore (lv' := [(8, .long w11), (6, .long x7_6), (4, .long x7_4), (0, .long a), (2, .long b)]) hx hb dX12_gcd_24 hl (by decide) rfl (fun ls hl => ?_)
        refine lv_lload hx hb dX12_gcd_26 (lv_at hl 1 rfl) ?_
        refine lv_lstore (lv' := [(4, .long x7_6), (8, .long w11), (6, .long x7_6), (0, .long a), (2, .long b)]) hx hb dX12_gcd_28 hl (by decide) rfl (fun ls hl => ?_)
        refine lv_lload hx hb dX12_gcd_30 (lv_at hl 1 rfl) ?_
        refine lv_lstore (lv' := [(6, .long w11), (4, .long x7_6), (8, .long w11), (0, .long a), (2, .long b)]) hx hb dX12_gcd_32 hl (by decide) rfl (fun ls hl => ?_)
        refine lv_goto (tgt := 12) hx hb dX12_gcd_34 (by decide) ?_
        exact ih8 w11 x7_6 (show ((w11 : Int64).toInt).natAbs ≤ ((b).toInt).natAbs from by omega) (show ((w11 : Int64).toInt ≠ 0 ∨ ((x7_6 : Int64).toInt ≠ 0 ∧ ((x7_6 : Int64).toInt).natAbs ≤ ((b).toInt).natAbs)) from by omega) (by omega) ls (lv_sub hl [0, 1, 3, 4] rfl)
  exact lp8 ((r2 : Int64).toInt.natAbs + 1) r2 r1 (show ((r2 : Int64).toInt).natAbs ≤ ((b).toInt).natAbs from by omega) (show ((r2 : Int64).toInt ≠ 0 ∨ ((r1 : Int64).toInt ≠ 0 ∧ ((r1 : Int64).toInt).natAbs ≤ ((b).toInt).natAbs)) from by omega) (show (((r2 : Int64).toInt).natAbs : Int) < _ from by omega) ls (lv_sub hl [0, 1, 2, 3] rfl)
set_option maxHeartbeats 4000000 in
set_option maxRecDepth 100000 in
/-- X12_bit -/
theorem c_X12_bit_0 (l : Launch) (dC : Nat → ClassId) (dI : Nat → Nat → Nat) : Met l yX12_bit (wc yX12_bit cX12_bit 1 (some .int)) ({ frames := 0, cells := 0, slots := 0, locals := 0 } : Room) (pR (dC, dI) classes [] [] [.int 0]) (vp_Si (fun r => r = 0)) 0 0 (fun _ => False) := by
  refine Met.ofW (cc := cX12_bit) (maxL := 1) (ret := (some .int)) (by decide) rfl ?_
  intro p e s m args below meth c s₁ B hml hv
  obtain ⟨rfl, hP, hK⟩ := hv
  have hx := B.exec
  have hb := B.bytes
  have hr := B.returns
  have ht := tb_tl (atoms_spec (ws := wc yX12_bit cX12_bit 1 (some .int)) B.pre)
  have hown : s.vm.findClass RX12 = some m.cls := findClass_of_methodNamed B.named
  have hlocks := B.notSynchronized
  have hl := lv_entry [.int 0] (n := 1) (Nat.le_of_ble_eq_true rfl)
  rw [lg_entry_eq]
  generalize (lg_sl [.int 0] ++ List.replicate (1 - (lg_sl [.int 0]).length) Slot.unset).toArray = ls at hl ⊢
  have hl : lv_has ls 1 [(0, .int 0)] := hl
  refine lv_iload_n hx hb dX12_bit_0 rfl (lv_at hl 0 rfl) ?_
  refine lv_if_eq (tgt := 8) hx hb dX12_bit_1 (by decide) (fun c1 => ?_) (fun c1 => ?_)
  · skip
    refine lv_iconst (v := 0) hx hb dX12_bit_8 (by decide) ?_
    exact W.iret (v := 0) hx hb hr (fun t ht9 hW => ⟨0, rfl, rfl, ht9⟩) (fun q hq => by cases hq) dX12_bit_9
  · exact absurd rfl c1
set_option maxHeartbeats 4000000 in
set_option maxRecDepth 100000 in
/-- X12_bit -/
theorem c_X12_bit_1 (l : Launch) (dC : Nat → ClassId) (dI : Nat → Nat → Nat) : Met l yX12_bit (wc yX12_bit cX12_bit 1 (some .int)) ({ frames := 0, cells := 0, slots := 0, locals := 0 } : Room) (pR (dC, dI) classes [] [] [.int 1]) (vp_Si (fun r => r = 1)) 0 0 (fun _ => False) := by
  refine Met.ofW (cc := cX12_bit) (maxL := 1) (ret := (some .int)) (by decide) rfl ?_
  intro p e s m args below meth c s₁ B hml hv
  obtain ⟨rfl, hP, hK⟩ := hv
  have hx := B.exec
  have hb := B.bytes
  have hr := B.returns
  have ht := tb_tl (atoms_spec (ws := wc yX12_bit cX12_bit 1 (some .int)) B.pre)
  have hown : s.vm.findClass RX12 = some m.cls := findClass_of_methodNamed B.named
  have hlocks := B.notSynchronized
  have hl := lv_entry [.int 1] (n := 1) (Nat.le_of_ble_eq_true rfl)
  rw [lg_entry_eq]
  generalize (lg_sl [.int 1] ++ List.replicate (1 - (lg_sl [.int 1]).length) Slot.unset).toArray = ls at hl ⊢
  have hl : lv_has ls 1 [(0, .int 1)] := hl
  refine lv_iload_n hx hb dX12_bit_0 rfl (lv_at hl 0 rfl) ?_
  refine lv_if_eq (tgt := 8) hx hb dX12_bit_1 (by decide) (fun c1 => ?_) (fun c1 => ?_)
  · exact absurd c1 (by decide)
  · skip
    refine lv_iconst (v := 1) hx hb dX12_bit_4 (by decide) ?_
    refine lv_goto (tgt := 9) hx hb dX12_bit_5 (by decide) ?_
    exact W.iret (v := 1) hx hb hr (fun t ht9 hW => ⟨1, rfl, rfl, ht9⟩) (fun q hq => by cases hq) dX12_bit_9
set_option maxHeartbeats 4000000 in
set_option maxRecDepth 100000 in
/-- X12_atFirst -/
theorem c_X12_atFirst_1 (l : Launch) (dC : Nat → ClassId) (dI : Nat → Nat → Nat) : Met l yX12_atFirst (wc yX12_atFirst cX12_atFirst 1 (some .int)) ({ frames := 0, cells := 0, slots := 0, locals := 0 } : Room) (pR (dC, dI) classes [] [] [.int 1]) (vp_Si (fun r => r = 3)) 0 0 (fun _ => False) := by
  refine Met.ofW (cc := cX12_atFirst) (maxL := 1) (ret := (some .int)) (by decide) rfl ?_
  intro p e s m args below meth c s₁ B hml hv
  obtain ⟨rfl, hP, hK⟩ := hv
  have hx := B.exec
  have hb := B.bytes
  have hr := B.returns
  have ht := tb_tl (atoms_spec (ws := wc yX12_atFirst cX12_atFirst 1 (some .int)) B.pre)
  have hown : s.vm.findClass RX12 = some m.cls := findClass_of_methodNamed B.named
  have hlocks := B.notSynchronized
  have hl := lv_entry [.int 1] (n := 1) (Nat.le_of_ble_eq_true rfl)
  rw [lg_entry_eq]
  generalize (lg_sl [.int 1] ++ List.replicate (1 - (lg_sl [.int 1]).length) Slot.unset).toArray = ls at hl ⊢
  have hl : lv_has ls 1 [(0, .int 1)] := hl
  refine lv_iload_n hx hb dX12_atFirst_0 rfl (lv_at hl 0 rfl) ?_
  refine lv_tableIn (tgt := 39) (off := 38) hx hb dX12_atFirst_1 (by decide) (by decide) rfl (by decide) ?_
  refine lv_iconst (v := 3) hx hb dX12_atFirst_39 (by decide) ?_
  exact W.iret (v := 3) hx hb hr (fun t ht9 hW => ⟨3, rfl, rfl, ht9⟩) (fun q hq => by cases hq) dX12_atFirst_40
set_option maxHeartbeats 4000000 in
set_option maxRecDepth 100000 in
/-- X12_leastOf -/
theorem c_X12_leastOf_x (l : Launch) (dC : Nat → ClassId) (dI : Nat → Nat → Nat) (a : Int32) : Met l yX12_leastOf (wc yX12_leastOf cX12_leastOf 1 (some .int)) ({ frames := 0, cells := 0, slots := 0, locals := 0 } : Room) (pR (dC, dI) classes [] [] [.int a]) (vp_Si (fun r => (0 ≤ r.toInt ∧ r.toInt ≤ 1) ∧ ((a.toInt ≠ 1 ∨ r.toInt = 1)))) 0 0 (fun _ => False) := by
  refine Met.ofW (cc := cX12_leastOf) (maxL := 1) (ret := (some .int)) (by decide) rfl ?_
  intro p e s m args below meth c s₁ B hml hv
  obtain ⟨rfl, hP, hK⟩ := hv
  have hx := B.exec
  have hb := B.bytes
  have hr := B.returns
  have ht := tb_tl (atoms_spec (ws := wc yX12_leastOf cX12_leastOf 1 (some .int)) B.pre)
  have hown : s.vm.findClass RX12 = some m.cls := findClass_of_methodNamed B.named
  have hlocks := B.notSynchronized
  have hl := lv_entry [.int a] (n := 1) (Nat.le_of_ble_eq_true rfl)
  rw [lg_entry_eq]
  generalize (lg_sl [.int a] ++ List.replicate (1 - (lg_sl [.int a]).length) Slot.unset).toArray = ls at hl ⊢
  have hl : lv_has ls 1 [(0, .int a)] := hl
  refine lv_iload_n hx hb dX12_leastOf_0 rfl (lv_at hl 0 rfl) ?_
  refine lv_iconst (v := 1) hx hb dX12_leastOf_1 (by decide) ?_
  refine lv_icmp_eq (tgt := 10) hx hb dX12_leastOf_2 (by decide) (fun c1 => ?_) (fun c1 => ?_)
  · have fc1 := z_eq (rfl : (a).toInt = _) (by decide : (1 : Int32).toInt = 1) c1
    refine lv_iconst (v := 1) hx hb dX12_leastOf_10 (by decide) ?_
    refine lv_goto (tgt := 15) hx hb dX12_leastOf_11 (by decide) ?_
    have : (1 : Int32).toInt = 1 := (by decide)
    exact W.iret (v := 1) hx hb hr (fun t ht9 hW => ⟨1, rfl, ⟨⟨by decide, by decide⟩, (show ((a).toInt ≠ 1 ∨ (1 : Int32).toInt = 1) from by omega)⟩, ht9⟩) (fun q hq => by cases hq) dX12_leastOf_15
  · have fc1 := z_ne (rfl : (a).toInt = _) (by decide : (1 : Int32).toInt = 1) c1
    refine lv_iload_n hx hb dX12_leastOf_5 rfl (lv_at hl 0 rfl) ?_
    refine lv_iconst (v := 3) hx hb dX12_leastOf_6 (by decide) ?_
    refine lv_icmp_ne (tgt := 14) hx hb dX12_leastOf_7 (by decide) (fun c2 => ?_) (fun c2 => ?_)
    · have fc2 := z_ne (rfl : (a).toInt = _) (by decide : (3 : Int32).toInt = 3) c2
      refine lv_iconst (v := 0) hx hb dX12_leastOf_14 (by decide) ?_
      have : (0 : Int32).toInt = 0 := (by decide)
      exact W.iret (v := 0) hx hb hr (fun t ht9 hW => ⟨0, rfl, ⟨⟨by decide, by decide⟩, (show ((a).toInt ≠ 1 ∨ (0 : Int32).toInt = 1) from by omega)⟩, ht9⟩) (fun q hq => by cases hq) dX12_leastOf_15
    · have fc2 := z_eq (rfl : (a).toInt = _) (by decide : (3 : Int32).toInt = 3) c2
      refine lv_iconst (v := 1) hx hb dX12_leastOf_10 (by decide) ?_
      refine lv_goto (tgt := 15) hx hb dX12_leastOf_11 (by decide) ?_
      have : (1 : Int32).toInt = 1 := (by decide)
      exact W.iret (v := 1) hx hb hr (fun t ht9 hW => ⟨1, rfl, ⟨⟨by decide, by decide⟩, (show ((a).toInt ≠ 1 ∨ (1 : Int32).toInt = 1) from by omega)⟩, ht9⟩) (fun q hq => by cases hq) dX12_leastOf_15
set_option maxHeartbeats 4000000 in
set_option maxRecDepth 100000 in
/-- X12_power -/
theorem c_X12_power_0 (l : Launch) (dC : Nat → ClassId) (dI : Nat → Nat → Nat) (mm : Int32) (h_mm : 1 ≤ mm.toInt ∧ mm.toInt ≤ 3) : Met l yX12_power (wc yX12_power cX12_power 4 (some .int)) ({ frames := 0, cells := 0, slots := 0, locals := 0 } : Room) (pR (dC, dI) classes [] [] [.int mm, .int 0]) (vp_Si (fun r => 1 ≤ r.toInt ∧ r.toInt ≤ 1)) 0 0 (fun _ => False) := by
  refine Met.ofW (cc := cX12_power) (maxL := 4) (ret := (some .int)) (by decide) rfl ?_
  intro p e s m args below meth c s₁ B hml hv
  obtain ⟨rfl, hP, hK⟩ := hv
  have hx := B.exec
  have hb := B.bytes
  have hr := B.returns
  have ht := tb_tl (atoms_spec (ws := wc yX12_power cX12_power 4 (some .int)) B.pre)
  have hown : s.vm.findClass RX12 = some m.cls := findClass_of_methodNamed B.named
  have hlocks := B.notSynchronized
  have hl := lv_entry [.int mm, .int 0] (n := 4) (Nat.le_of_ble_eq_true rfl)
  rw [lg_entry_eq]
  generalize (lg_sl [.int mm, .int 0] ++ List.replicate (4 - (lg_sl [.int mm, .int 0]).length) Slot.unset).toArray = ls at hl ⊢
  have hl : lv_has ls 4 [(0, .int mm), (1, .int 0)] := hl
  refine lv_iconst (v := 1) hx hb dX12_power_0 (by decide) ?_
  refine lv_istore_n (lv' := [(2, .int 1), (0, .int mm), (1, .int 0)]) hx hb dX12_power_1 rfl hl (by decide) rfl (fun ls hl => ?_)
  refine lv_iconst (v := 0) hx hb dX12_power_2 (by decide) ?_
  refine lv_istore_n (lv' := [(3, .int 0), (2, .int 1), (0, .int mm), (1, .int 0)]) hx hb dX12_power_3 rfl hl (by decide) rfl (fun ls hl => ?_)
  refine lv_iload_n hx hb dX12_power_4 rfl (lv_at hl 0 rfl) ?_
  refine lv_iload_n hx hb dX12_power_5 rfl (lv_at hl 3 rfl) ?_
  refine lv_icmp_ge (tgt := 19) hx hb dX12_power_6 (by decide) (fun c1 => ?_) (fun c1 => ?_)
  · skip
    refine lv_iload_n hx hb dX12_power_19 rfl (lv_at hl 1 rfl) ?_
    exact W.iret (v := 1) hx hb hr (fun t ht9 hW => ⟨1, rfl, ⟨by decide, by decide⟩, ht9⟩) (fun q hq => by cases hq) dX12_power_20
  · exact absurd c1 (by decide)
set_option maxHeartbeats 4000000 in
set_option maxRecDepth 100000 in
/-- X12_power -/
theorem c_X12_power_1 (l : Launch) (dC : Nat → ClassId) (dI : Nat → Nat → Nat) (mm : Int32) (h_mm : 1 ≤ mm.toInt ∧ mm.toInt ≤ 3) : Met l yX12_power (wc yX12_power cX12_power 4 (some .int)) ({ frames := 0, cells := 0, slots := 0, locals := 0 } : Room) (pR (dC, dI) classes [] [] [.int mm, .int 1]) (vp_Si (fun r => 1 ≤ r.toInt ∧ r.toInt ≤ 3)) 0 0 (fun _ => False) := by
  refine Met.ofW (cc := cX12_power) (maxL := 4) (ret := (some .int)) (by decide) rfl ?_
  intro p e s m args below meth c s₁ B hml hv
  obtain ⟨rfl, hP, hK⟩ := hv
  have hx := B.exec
  have hb := B.bytes
  have hr := B.returns
  have ht := tb_tl (atoms_spec (ws := wc yX12_power cX12_power 4 (some .int)) B.pre)
  have hown : s.vm.findClass RX12 = some m.cls := findClass_of_methodNamed B.named
  have hlocks := B.notSynchronized
  have hl := lv_entry [.int mm, .int 1] (n := 4) (Nat.le_of_ble_eq_true rfl)
  rw [lg_entry_eq]
  generalize (lg_sl [.int mm, .int 1] ++ List.replicate (4 - (lg_sl [.int mm, .int 1]).length) Slot.unset).toArray = ls at hl ⊢
  have hl : lv_has ls 4 [(0, .int mm), (1, .int 1)] := hl
  refine lv_iconst (v := 1) hx hb dX12_power_0 (by decide) ?_
  refine lv_istore_n (lv' := [(2, .int 1), (0, .int mm), (1, .int 1)]) hx hb dX12_power_1 rfl hl (by decide) rfl (fun ls hl => ?_)
  refine lv_iconst (v := 0) hx hb dX12_power_2 (by decide) ?_
  refine lv_istore_n (lv' := [(3, .int 0), (2, .int 1), (0, .int mm), (1, .int 1)]) hx hb dX12_power_3 rfl hl (by decide) rfl (fun ls hl => ?_)
  refine lv_iload_n hx hb dX12_power_4 rfl (lv_at hl 0 rfl) ?_
  refine lv_iload_n hx hb dX12_power_5 rfl (lv_at hl 3 rfl) ?_
  refine lv_icmp_ge (tgt := 19) hx hb dX12_power_6 (by decide) (fun c1 => ?_) (fun c1 => ?_)
  · exact absurd c1 (by decide)
  · skip
    refine lv_iload_n hx hb dX12_power_9 rfl (lv_at hl 1 rfl) ?_
    refine lv_iload_n hx hb dX12_power_10 rfl (lv_at hl 2 rfl) ?_
    refine lv_imul hx hb dX12_power_11 ?_
    refine lv_topi (fun v2 ev2 => ?_)
    have tv2 := z_mul ev2 (by decide : (1 : Int32).toInt = 1) (rfl : (mm).toInt = _) (by omega) (by omega)
    refine lv_istore_n (lv' := [(2, .int v2), (3, .int 0), (0, .int mm), (1, .int 1)]) hx hb dX12_power_12 rfl hl (by decide) rfl (fun ls hl => ?_)
    refine lv_iinc (v := 1) (lv' := [(3, .int 1), (2, .int v2), (0, .int mm), (1, .int 1)]) hx hb dX12_power_13 hl (k := 1) rfl (by decide) (by decide) rfl (fun ls hl => ?_)
    refine lv_goto (tgt := 4) hx hb dX12_power_16 (by decide) ?_
    refine lv_iload_n hx hb dX12_power_4 rfl (lv_at hl 0 rfl) ?_
    refine lv_iload_n hx hb dX12_power_5 rfl (lv_at hl 3 rfl) ?_
    refine lv_icmp_ge (tgt := 19) hx hb dX12_power_6 (by decide) (fun c3 => ?_) (fun c3 => ?_)
    · skip
      refine lv_iload_n hx hb dX12_power_19 rfl (lv_at hl 1 rfl) ?_
      exact W.iret (v := v2) hx hb hr (fun t ht9 hW => ⟨v2, rfl, ⟨by omega, by omega⟩, ht9⟩) (fun q hq => by cases hq) dX12_power_20
    · exact absurd c3 (by decide)
set_option maxHeartbeats 4000000 in
set_option maxRecDepth 100000 in
/-- X12_power -/
theorem c_X12_power_2 (l : Launch) (dC : Nat → ClassId) (dI : Nat → Nat → Nat) (mm : Int32) (h_mm : 1 ≤ mm.toInt ∧ mm.toInt ≤ 3) : Met l yX12_power (wc yX12_power cX12_power 4 (some .int)) ({ frames := 0, cells := 0, slots := 0, locals := 0 } : Room) (pR (dC, dI) classes [] [] [.int mm, .int 2]) (vp_Si (fun r => 1 ≤ r.toInt ∧ r.toInt ≤ 9)) 0 0 (fun _ => False) := by
  refine Met.ofW (cc := cX12_power) (maxL := 4) (ret := (some .int)) (by decide) rfl ?_
  intro p e s m args below meth c s₁ B hml hv
  obtain ⟨rfl, hP, hK⟩ := hv
  have hx := B.exec
  have hb := B.bytes
  have hr := B.returns
  have ht := tb_tl (atoms_spec (ws := wc yX12_power cX12_power 4 (some .int)) B.pre)
  have hown : s.vm.findClass RX12 = some m.cls := findClass_of_methodNamed B.named
  have hlocks := B.notSynchronized
  have hl := lv_entry [.int mm, .int 2] (n := 4) (Nat.le_of_ble_eq_true rfl)
  rw [lg_entry_eq]
  generalize (lg_sl [.int mm, .int 2] ++ List.replicate (4 - (lg_sl [.int mm, .int 2]).length) Slot.unset).toArray = ls at hl ⊢
  have hl : lv_has ls 4 [(0, .int mm), (1, .int 2)] := hl
  refine lv_iconst (v := 1) hx hb dX12_power_0 (by decide) ?_
  refine lv_istore_n (lv' := [(2, .int 1), (0, .int mm), (1, .int 2)]) hx hb dX12_power_1 rfl hl (by decide) rfl (fun ls hl => ?_)
  refine lv_iconst (v := 0) hx hb dX12_power_2 (by decide) ?_
  refine lv_istore_n (lv' := [(3, .int 0), (2, .int 1), (0, .int mm), (1, .int 2)]) hx hb dX12_power_3 rfl hl (by decide) rfl (fun ls hl => ?_)
  refine lv_iload_n hx hb dX12_power_4 rfl (lv_at hl 0 rfl) ?_
  refine lv_iload_n hx hb dX12_power_5 rfl (lv_at hl 3 rfl) ?_
  refine lv_icmp_ge (tgt := 19) hx hb dX12_power_6 (by decide) (fun c1 => ?_) (fun c1 => ?_)
  · exact absurd c1 (by decide)
  · skip
    refine lv_iload_n hx hb dX12_power_9 rfl (lv_at hl 1 rfl) ?_
    refine lv_iload_n hx hb dX12_power_10 rfl (lv_at hl 2 rfl) ?_
    refine lv_imul hx hb dX12_power_11 ?_
    refine lv_topi (fun v2 ev2 => ?_)
    have tv2 := z_mul ev2 (by decide : (1 : Int32).toInt = 1) (rfl : (mm).toInt = _) (by omega) (by omega)
    refine lv_istore_n (lv' := [(2, .int v2), (3, .int 0), (0, .int mm), (1, .int 2)]) hx hb dX12_power_12 rfl hl (by decide) rfl (fun ls hl => ?_)
    refine lv_iinc (v := 1) (lv' := [(3, .int 1), (2, .int v2), (0, .int mm), (1, .int 2)]) hx hb dX12_power_13 hl (k := 1) rfl (by decide) (by decide) rfl (fun ls hl => ?_)
    refine lv_goto (tgt := 4) hx hb dX12_power_16 (by decide) ?_
    refine lv_iload_n hx hb dX12_power_4 rfl (lv_at hl 0 rfl) ?_
    refine lv_iload_n hx hb dX12_power_5 rfl (lv_at hl 3 rfl) ?_
    refine lv_icmp_ge (tgt := 19) hx hb dX12_power_6 (by decide) (fun c3 => ?_) (fun c3 => ?_)
    · exact absurd c3 (by decide)
    · skip
      refine lv_iload_n hx hb dX12_power_9 rfl (lv_at hl 1 rfl) ?_
      refine lv_iload_n hx hb dX12_power_10 rfl (lv_at hl 2 rfl) ?_
      refine lv_imul hx hb dX12_power_11 ?_
      refine lv_topi (fun v4 ev4 => ?_)
      have tv4 := z_mulb (a1 := 1) (b1 := 3) (a2 := 1) (b2 := 3) ev4 (rfl : (v2 : Int32).toInt = _) (rfl : (mm : Int32).toInt = _) (by omega) (by omega) (by omega) (by omega) (by decide) (by decide) (by decide)
      have : 1 ≤ v4.toInt ∧ v4.toInt ≤ 9 := ⟨by omega, by omega⟩
      refine lv_istore_n (lv' := [(2, .int v4), (3, .int 1), (0, .int mm), (1, .int 2)]) hx hb dX12_power_12 rfl hl (by decide) rfl (fun ls hl => ?_)
      refine lv_iinc (v := 2) (lv' := [(3, .int 2), (2, .int v4), (0, .int mm), (1, .int 2)]) hx hb dX12_power_13 hl (k := 1) rfl (by decide) (by decide) rfl (fun ls hl => ?_)
      refine lv_goto (tgt := 4) hx hb dX12_power_16 (by decide) ?_
      refine lv_iload_n hx hb dX12_power_4 rfl (lv_at hl 0 rfl) ?_
      refine lv_iload_n hx hb dX12_power_5 rfl (lv_at hl 3 rfl) ?_
      refine lv_icmp_ge (tgt := 19) hx hb dX12_power_6 (by decide) (fun c5 => ?_) (fun c5 => ?_)
      · skip
        refine lv_iload_n hx hb dX12_power_19 rfl (lv_at hl 1 rfl) ?_
        exact W.iret (v := v4) hx hb hr (fun t ht9 hW => ⟨v4, rfl, ⟨by omega, by omega⟩, ht9⟩) (fun q hq => by cases hq) dX12_power_20
      · exact absurd c5 (by decide)
set_option maxHeartbeats 4000000 in
set_option maxRecDepth 100000 in
/-- X12_power -/
theorem c_X12_power_3 (l : Launch) (dC : Nat → ClassId) (dI : Nat → Nat → Nat) (mm : Int32) (h_mm : 1 ≤ mm.toInt ∧ mm.toInt ≤ 3) : Met l yX12_power (wc yX12_power cX12_power 4 (some .int)) ({ frames := 0, cells := 0, slots := 0, locals := 0 } : Room) (pR (dC, dI) classes [] [] [.int mm, .int 3]) (vp_Si (fun r => 1 ≤ r.toInt ∧ r.toInt ≤ 27)) 0 0 (fun _ => False) := by
  refine Met.ofW (cc := cX12_power) (maxL := 4) (ret := (some .int)) (by decide) rfl ?_
  intro p e s m args below meth c s₁ B hml hv
  obtain ⟨rfl, hP, hK⟩ := hv
  have hx := B.exec
  have hb := B.bytes
  have hr := B.returns
  have ht := tb_tl (atoms_spec (ws := wc yX12_power cX12_power 4 (some .int)) B.pre)
  have hown : s.vm.findClass RX12 = some m.cls := findClass_of_methodNamed B.named
  have hlocks := B.notSynchronized
  have hl := lv_entry [.int mm, .int 3] (n := 4) (Nat.le_of_ble_eq_true rfl)
  rw [lg_entry_eq]
  generalize (lg_sl [.int mm, .int 3] ++ List.replicate (4 - (lg_sl [.int mm, .int 3]).length) Slot.unset).toArray = ls at hl ⊢
  have hl : lv_has ls 4 [(0, .int mm), (1, .int 3)] := hl
  refine lv_iconst (v := 1) hx hb dX12_power_0 (by decide) ?_
  refine lv_istore_n (lv' := [(2, .int 1), (0, .int mm), (1, .int 3)]) hx hb dX12_power_1 rfl hl (by decide) rfl (fun ls hl => ?_)
  refine lv_iconst (v := 0) hx hb dX12_power_2 (by decide) ?_
  refine lv_istore_n (lv' := [(3, .int 0), (2, .int 1), (0, .int mm), (1, .int 3)]) hx hb dX12_power_3 rfl hl (by decide) rfl (fun ls hl => ?_)
  refine lv_iload_n hx hb dX12_power_4 rfl (lv_at hl 0 rfl) ?_
  refine lv_iload_n hx hb dX12_power_5 rfl (lv_at hl 3 rfl) ?_
  refine lv_icmp_ge (tgt := 19) hx hb dX12_power_6 (by decide) (fun c1 => ?_) (fun c1 => ?_)
  · exact absurd c1 (by decide)
  · skip
    refine lv_iload_n hx hb dX12_power_9 rfl (lv_at hl 1 rfl) ?_
    refine lv_iload_n hx hb dX12_power_10 rfl (lv_at hl 2 rfl) ?_
    refine lv_imul hx hb dX12_power_11 ?_
    refine lv_topi (fun v2 ev2 => ?_)
    have tv2 := z_mul ev2 (by decide : (1 : Int32).toInt = 1) (rfl : (mm).toInt = _) (by omega) (by omega)
    refine lv_istore_n (lv' := [(2, .int v2), (3, .int 0), (0, .int mm), (1, .int 3)]) hx hb dX12_power_12 rfl hl (by decide) rfl (fun ls hl => ?_)
    refine lv_iinc (v := 1) (lv' := [(3, .int 1), (2, .int v2), (0, .int mm), (1, .int 3)]) hx hb dX12_power_13 hl (k := 1) rfl (by decide) (by decide) rfl (fun ls hl => ?_)
    refine lv_goto (tgt := 4) hx hb dX12_power_16 (by decide) ?_
    refine lv_iload_n hx hb dX12_power_4 rfl (lv_at hl 0 rfl) ?_
    refine lv_iload_n hx hb dX12_power_5 rfl (lv_at hl 3 rfl) ?_
    refine lv_icmp_ge (tgt := 19) hx hb dX12_power_6 (by decide) (fun c3 => ?_) (fun c3 => ?_)
    · exact absurd c3 (by decide)
    · skip
      refine lv_iload_n hx hb dX12_power_9 rfl (lv_at hl 1 rfl) ?_
      refine lv_iload_n hx hb dX12_power_10 rfl (lv_at hl 2 rfl) ?_
      refine lv_imul hx hb dX12_power_11 ?_
      refine lv_topi (fun v4 ev4 => ?_)
      have tv4 := z_mulb (a1 := 1) (b1 := 3) (a2 := 1) (b2 := 3) ev4 (rfl : (v2 : Int32).toInt = _) (rfl : (mm : Int32).toInt = _) (by omega) (by omega) (by omega) (by omega) (by decide) (by decide) (by decide)
      have : 1 ≤ v4.toInt ∧ v4.toInt ≤ 9 := ⟨by omega, by omega⟩
      refine lv_istore_n (lv' := [(2, .int v4), (3, .int 1), (0, .int mm), (1, .int 3)]) hx hb dX12_power_12 rfl hl (by decide) rfl (fun ls hl => ?_)
      refine lv_iinc (v := 2) (lv' := [(3, .int 2), (2, .int v4), (0, .int mm), (1, .int 3)]) hx hb dX12_power_13 hl (k := 1) rfl (by decide) (by decide) rfl (fun ls hl => ?_)
      refine lv_goto (tgt := 4) hx hb dX12_power_16 (by decide) ?_
      refine lv_iload_n hx hb dX12_power_4 rfl (lv_at hl 0 rfl) ?_
      refine lv_iload_n hx hb dX12_power_5 rfl (lv_at hl 3 rfl) ?_
      refine lv_icmp_ge (tgt := 19) hx hb dX12_power_6 (by decide) (fun c5 => ?_) (fun c5 => ?_)
      · exact absurd c5 (by decide)
      · skip
        refine lv_iload_n hx hb dX12_power_9 rfl (lv_at hl 1 rfl) ?_
        refine lv_iload_n hx hb dX12_power_10 rfl (lv_at hl 2 rfl) ?_
        refine lv_imul hx hb dX12_power_11 ?_
        refine lv_topi (fun v6 ev6 => ?_)
        have tv6 := z_mulb (a1 := 1) (b1 := 9) (a2 := 1) (b2 := 3) ev6 (rfl : (v4 : Int32).toInt = _) (rfl : (mm : Int32).toInt = _) (by omega) (by omega) (by omega) (by omega) (by decide) (by decide) (by decide)
        have : 1 ≤ v6.toInt ∧ v6.toInt ≤ 27 := ⟨by omega, by omega⟩
        refine lv_istore_n (lv' := [(2, .int v6), (3, .int 2), (0, .int mm), (1, .int 3)]) hx hb dX12_power_12 rfl hl (by decide) rfl (fun ls hl => ?_)
        refine lv_iinc (v := 3) (lv' := [(3, .int 3), (2, .int v6), (0, .int mm), (1, .int 3)]) hx hb dX12_power_13 hl (k := 1) rfl (by decide) (by decide) rfl (fun ls hl => ?_)
        refine lv_goto (tgt := 4) hx hb dX12_power_16 (by decide) ?_
        refine lv_iload_n hx hb dX12_power_4 rfl (lv_at hl 0 rfl) ?_
        refine lv_iload_n hx hb dX12_power_5 rfl (lv_at hl 3 rfl) ?_
        refine lv_icmp_ge (tgt := 19) hx hb dX12_power_6 (by decide) (fun c7 => ?_) (fun c7 => ?_)
        · skip
          refine lv_iload_n hx hb dX12_power_19 rfl (lv_at hl 1 rfl) ?_
          exact W.iret (v := v6) hx hb hr (fun t ht9 hW => ⟨v6, rfl, ⟨by omega, by omega⟩, ht9⟩) (fun q hq => by cases hq) dX12_power_20
        · exact absurd c7 (by decide)
set_option maxHeartbeats 4000000 in
set_option maxRecDepth 100000 in
/-- X12_power -/
theorem c_X12_power_4 (l : Launch) (dC : Nat → ClassId) (dI : Nat → Nat → Nat) (mm : Int32) (h_mm : 1 ≤ mm.toInt ∧ mm.toInt ≤ 3) : Met l yX12_power (wc yX12_power cX12_power 4 (some .int)) ({ frames := 0, cells := 0, slots := 0, locals := 0 } : Room) (pR (dC, dI) classes [] [] [.int mm, .int 4]) (vp_Si (fun r => 1 ≤ r.toInt ∧ r.toInt ≤ 81)) 0 0 (fun _ => False) := by
  refine Met.ofW (cc := cX12_power) (maxL := 4) (ret := (some .int)) (by decide) rfl ?_
  intro p e s m args below meth c s₁ B hml hv
  obtain ⟨rfl, hP, hK⟩ := hv
  have hx := B.exec
  have hb := B.bytes
  have hr := B.returns
  have ht := tb_tl (atoms_spec (ws := wc yX12_power cX12_power 4 (some .int)) B.pre)
  have hown : s.vm.findClass RX12 = some m.cls := findClass_of_methodNamed B.named
  have hlocks := B.notSynchronized
  have hl := lv_entry [.int mm, .int 4] (n := 4) (Nat.le_of_ble_eq_true rfl)
  rw [lg_entry_eq]
  generalize (lg_sl [.int mm, .int 4] ++ List.replicate (4 - (lg_sl [.int mm, .int 4]).length) Slot.unset).toArray = ls at hl ⊢
  have hl : lv_has ls 4 [(0, .int mm), (1, .int 4)] := hl
  refine lv_iconst (v := 1) hx hb dX12_power_0 (by decide) ?_
  refine lv_istore_n (lv' := [(2, .int 1), (0, .int mm), (1, .int 4)]) hx hb dX12_power_1 rfl hl (by decide) rfl (fun ls hl => ?_)
  refine lv_iconst (v := 0) hx hb dX12_power_2 (by decide) ?_
  refine lv_istore_n (lv' := [(3, .int 0), (2, .int 1), (0, .int mm), (1, .int 4)]) hx hb dX12_power_3 rfl hl (by decide) rfl (fun ls hl => ?_)
  refine lv_iload_n hx hb dX12_power_4 rfl (lv_at hl 0 rfl) ?_
  refine lv_iload_n hx hb dX12_power_5 rfl (lv_at hl 3 rfl) ?_
  refine lv_icmp_ge (tgt := 19) hx hb dX12_power_6 (by decide) (fun c1 => ?_) (fun c1 => ?_)
  · exact absurd c1 (by decide)
  · skip
    refine lv_iload_n hx hb dX12_power_9 rfl (lv_at hl 1 rfl) ?_
    refine lv_iload_n hx hb dX12_power_10 rfl (lv_at hl 2 rfl) ?_
    refine lv_imul hx hb dX12_power_11 ?_
    refine lv_topi (fun v2 ev2 => ?_)
    have tv2 := z_mul ev2 (by decide : (1 : Int32).toInt = 1) (rfl : (mm).toInt = _) (by omega) (by omega)
    refine lv_istore_n (lv' := [(2, .int v2), (3, .int 0), (0, .int mm), (1, .int 4)]) hx hb dX12_power_12 rfl hl (by decide) rfl (fun ls hl => ?_)
    refine lv_iinc (v := 1) (lv' := [(3, .int 1), (2, .int v2), (0, .int mm), (1, .int 4)]) hx hb dX12_power_13 hl (k := 1) rfl (by decide) (by decide) rfl (fun ls hl => ?_)
    refine lv_goto (tgt := 4) hx hb dX12_power_16 (by decide) ?_
    refine lv_iload_n hx hb dX12_power_4 rfl (lv_at hl 0 rfl) ?_
    refine lv_iload_n hx hb dX12_power_5 rfl (lv_at hl 3 rfl) ?_
    refine lv_icmp_ge (tgt := 19) hx hb dX12_power_6 (by decide) (fun c3 => ?_) (fun c3 => ?_)
    · exact absurd c3 (by decide)
    · skip
      refine lv_iload_n hx hb dX12_power_9 rfl (lv_at hl 1 rfl) ?_
      refine lv_iload_n hx hb dX12_power_10 rfl (lv_at hl 2 rfl) ?_
      refine lv_imul hx hb dX12_power_11 ?_
      refine lv_topi (fun v4 ev4 => ?_)
      have tv4 := z_mulb (a1 := 1) (b1 := 3) (a2 := 1) (b2 := 3) ev4 (rfl : (v2 : Int32).toInt = _) (rfl : (mm : Int32).toInt = _) (by omega) (by omega) (by omega) (by omega) (by decide) (by decide) (by decide)
      have : 1 ≤ v4.toInt ∧ v4.toInt ≤ 9 := ⟨by omega, by omega⟩
      refine lv_istore_n (lv' := [(2, .int v4), (3, .int 1), (0, .int mm), (1, .int 4)]) hx hb dX12_power_12 rfl hl (by decide) rfl (fun ls hl => ?_)
      refine lv_iinc (v := 2) (lv' := [(3, .int 2), (2, .int v4), (0, .int mm), (1, .int 4)]) hx hb dX12_power_13 hl (k := 1) rfl (by decide) (by decide) rfl (fun ls hl => ?_)
      refine lv_goto (tgt := 4) hx hb dX12_power_16 (by decide) ?_
      refine lv_iload_n hx hb dX12_power_4 rfl (lv_at hl 0 rfl) ?_
      refine lv_iload_n hx hb dX12_power_5 rfl (lv_at hl 3 rfl) ?_
      refine lv_icmp_ge (tgt := 19) hx hb dX12_power_6 (by decide) (fun c5 => ?_) (fun c5 => ?_)
      · exact absurd c5 (by decide)
      · skip
        refine lv_iload_n hx hb dX12_power_9 rfl (lv_at hl 1 rfl) ?_
        refine lv_iload_n hx hb dX12_power_10 rfl (lv_at hl 2 rfl) ?_
        refine lv_imul hx hb dX12_power_11 ?_
        refine lv_topi (fun v6 ev6 => ?_)
        have tv6 := z_mulb (a1 := 1) (b1 := 9) (a2 := 1) (b2 := 3) ev6 (rfl : (v4 : Int32).toInt = _) (rfl : (mm : Int32).toInt = _) (by omega) (by omega) (by omega) (by omega) (by decide) (by decide) (by decide)
        have : 1 ≤ v6.toInt ∧ v6.toInt ≤ 27 := ⟨by omega, by omega⟩
        refine lv_istore_n (lv' := [(2, .int v6), (3, .int 2), (0, .int mm), (1, .int 4)]) hx hb dX12_power_12 rfl hl (by decide) rfl (fun ls hl => ?_)
        refine lv_iinc (v := 3) (lv' := [(3, .int 3), (2, .int v6), (0, .int mm), (1, .int 4)]) hx hb dX12_power_13 hl (k := 1) rfl (by decide) (by decide) rfl (fun ls hl => ?_)
        refine lv_goto (tgt := 4) hx hb dX12_power_16 (by decide) ?_
        refine lv_iload_n hx hb dX12_power_4 rfl (lv_at hl 0 rfl) ?_
        refine lv_iload_n hx hb dX12_power_5 rfl (lv_at hl 3 rfl) ?_
        refine lv_icmp_ge (tgt := 19) hx hb dX12_power_6 (by decide) (fun c7 => ?_) (fun c7 => ?_)
        · exact absurd c7 (by decide)
        · skip
          refine lv_iload_n hx hb dX12_power_9 rfl (lv_at hl 1 rfl) ?_
          refine lv_iload_n hx hb dX12_power_10 rfl (lv_at hl 2 rfl) ?_
          refine lv_imul hx hb dX12_power_11 ?_
          refine lv_topi (fun v8 ev8 => ?_)
          have tv8 := z_mulb (a1 := 1) (b1 := 27) (a2 := 1) (b2 := 3) ev8 (rfl : (v6 : Int32).toInt = _) (rfl : (mm : Int32).toInt = _) (by omega) (by omega) (by omega) (by omega) (by decide) (by decide) (by decide)
          have : 1 ≤ v8.toInt ∧ v8.toInt ≤ 81 := ⟨by omega, by omega⟩
          refine lv_istore_n (lv' := [(2, .int v8), (3, .int 3), (0, .int mm), (1, .int 4)]) hx hb dX12_power_12 rfl hl (by decide) rfl (fun ls hl => ?_)
          refine lv_iinc (v := 4) (lv' := [(3, .int 4), (2, .int v8), (0, .int mm), (1, .int 4)]) hx hb dX12_power_13 hl (k := 1) rfl (by decide) (by decide) rfl (fun ls hl => ?_)
          refine lv_goto (tgt := 4) hx hb dX12_power_16 (by decide) ?_
          refine lv_iload_n hx hb dX12_power_4 rfl (lv_at hl 0 rfl) ?_
          refine lv_iload_n hx hb dX12_power_5 rfl (lv_at hl 3 rfl) ?_
          refine lv_icmp_ge (tgt := 19) hx hb dX12_power_6 (by decide) (fun c9 => ?_) (fun c9 => ?_)
          · skip
            refine lv_iload_n hx hb dX12_power_19 rfl (lv_at hl 1 rfl) ?_
            exact W.iret (v := v8) hx hb hr (fun t ht9 hW => ⟨v8, rfl, ⟨by omega, by omega⟩, ht9⟩) (fun q hq => by cases hq) dX12_power_20
          · exact absurd c9 (by decide)
set_option maxHeartbeats 4000000 in
set_option maxRecDepth 100000 in
/-- X12_power -/
theorem c_X12_power_5 (l : Launch) (dC : Nat → ClassId) (dI : Nat → Nat → Nat) (mm : Int32) (h_mm : 1 ≤ mm.toInt ∧ mm.toInt ≤ 3) : Met l yX12_power (wc yX12_power cX12_power 4 (some .int)) ({ frames := 0, cells := 0, slots := 0, locals := 0 } : Room) (pR (dC, dI) classes [] [] [.int mm, .int 5]) (vp_Si (fun r => 1 ≤ r.toInt ∧ r.toInt ≤ 243)) 0 0 (fun _ => False) := by
  refine Met.ofW (cc := cX12_power) (maxL := 4) (ret := (some .int)) (by decide) rfl ?_
  intro p e s m args below meth c s₁ B hml hv
  obtain ⟨rfl, hP, hK⟩ := hv
  have hx := B.exec
  have hb := B.bytes
  have hr := B.returns
  have ht := tb_tl (atoms_spec (ws := wc yX12_power cX12_power 4 (some .int)) B.pre)
  have hown : s.vm.findClass RX12 = some m.cls := findClass_of_methodNamed B.named
  have hlocks := B.notSynchronized
  have hl := lv_entry [.int mm, .int 5] (n := 4) (Nat.le_of_ble_eq_true rfl)
  rw [lg_entry_eq]
  generalize (lg_sl [.int mm, .int 5] ++ List.replicate (4 - (lg_sl [.int mm, .int 5]).length) Slot.unset).toArray = ls at hl ⊢
  have hl : lv_has ls 4 [(0, .int mm), (1, .int 5)] := hl
  refine lv_iconst (v := 1) hx hb dX12_power_0 (by decide) ?_
  refine lv_istore_n (lv' := [(2, .int 1), (0, .int mm), (1, .int 5)]) hx hb dX12_power_1 rfl hl (by decide) rfl (fun ls hl => ?_)
  refine lv_iconst (v := 0) hx hb dX12_power_2 (by decide) ?_
  refine lv_istore_n (lv' := [(3, .int 0), (2, .int 1), (0, .int mm), (1, .int 5)]) hx hb dX12_power_3 rfl hl (by decide) rfl (fun ls hl => ?_)
  refine lv_iload_n hx hb dX12_power_4 rfl (lv_at hl 0 rfl) ?_
  refine lv_iload_n hx hb dX12_power_5 rfl (lv_at hl 3 rfl) ?_
  refine lv_icmp_ge (tgt := 19) hx hb dX12_power_6 (by decide) (fun c1 => ?_) (fun c1 => ?_)
  · exact absurd c1 (by decide)
  · skip
    refine lv_iload_n hx hb dX12_power_9 rfl (lv_at hl 1 rfl) ?_
    refine lv_iload_n hx hb dX12_power_10 rfl (lv_at hl 2 rfl) ?_
    refine lv_imul hx hb dX12_power_11 ?_
    refine lv_topi (fun v2 ev2 => ?_)
    have tv2 := z_mul ev2 (by decide : (1 : Int32).toInt = 1) (rfl : (mm).toInt = _) (by omega) (by omega)
    refine lv_istore_n (lv' := [(2, .int v2), (3, .int 0), (0, .int mm), (1, .int 5)]) hx hb dX12_power_12 rfl hl (by decide) rfl (fun ls hl => ?_)
    refine lv_iinc (v := 1) (lv' := [(3, .int 1), (2, .int v2), (0, .int mm), (1, .int 5)]) hx hb dX12_power_13 hl (k := 1) rfl (by decide) (by decide) rfl (fun ls hl => ?_)
    refine lv_goto (tgt := 4) hx hb dX12_power_16 (by decide) ?_
    refine lv_iload_n hx hb dX12_power_4 rfl (lv_at hl 0 rfl) ?_
    refine lv_iload_n hx hb dX12_power_5 rfl (lv_at hl 3 rfl) ?_
    refine lv_icmp_ge (tgt := 19) hx hb dX12_power_6 (by decide) (fun c3 => ?_) (fun c3 => ?_)
    · exact absurd c3 (by decide)
    · skip
      refine lv_iload_n hx hb dX12_power_9 rfl (lv_at hl 1 rfl) ?_
      refine lv_iload_n hx hb dX12_power_10 rfl (lv_at hl 2 rfl) ?_
      refine lv_imul hx hb dX12_power_11 ?_
      refine lv_topi (fun v4 ev4 => ?_)
      have tv4 := z_mulb (a1 := 1) (b1 := 3) (a2 := 1) (b2 := 3) ev4 (rfl : (v2 : Int32).toInt = _) (rfl : (mm : Int32).toInt = _) (by omega) (by omega) (by omega) (by omega) (by decide) (by decide) (by decide)
      have : 1 ≤ v4.toInt ∧ v4.toInt ≤ 9 := ⟨by omega, by omega⟩
      refine lv_istore_n (lv' := [(2, .int v4), (3, .int 1), (0, .int mm), (1, .int 5)]) hx hb dX12_power_12 rfl hl (by decide) rfl (fun ls hl => ?_)
      refine lv_iinc (v := 2) (lv' := [(3, .int 2), (2, .int v4), (0, .int mm), (1, .int 5)]) hx hb dX12_power_13 hl (k := 1) rfl (by decide) (by decide) rfl (fun ls hl => ?_)
      refine lv_goto (tgt := 4) hx hb dX12_power_16 (by decide) ?_
      refine lv_iload_n hx hb dX12_power_4 rfl (lv_at hl 0 rfl) ?_
      refine lv_iload_n hx hb dX12_power_5 rfl (lv_at hl 3 rfl) ?_
      refine lv_icmp_ge (tgt := 19) hx hb dX12_power_6 (by decide) (fun c5 => ?_) (fun c5 => ?_)
      · exact absurd c5 (by decide)
      · skip
        refine lv_iload_n hx hb dX12_power_9 rfl (lv_at hl 1 rfl) ?_
        refine lv_iload_n hx hb dX12_power_10 rfl (lv_at hl 2 rfl) ?_
        refine lv_imul hx hb dX12_power_11 ?_
        refine lv_topi (fun v6 ev6 => ?_)
        have tv6 := z_mulb (a1 := 1) (b1 := 9) (a2 := 1) (b2 := 3) ev6 (rfl : (v4 : Int32).toInt = _) (rfl : (mm : Int32).toInt = _) (by omega) (by omega) (by omega) (by omega) (by decide) (by decide) (by decide)
        have : 1 ≤ v6.toInt ∧ v6.toInt ≤ 27 := ⟨by omega, by omega⟩
        refine lv_istore_n (lv' := [(2, .int v6), (3, .int 2), (0, .int mm), (1, .int 5)]) hx hb dX12_power_12 rfl hl (by decide) rfl (fun ls hl => ?_)
        refine lv_iinc (v := 3) (lv' := [(3, .int 3), (2, .int v6), (0, .int mm), (1, .int 5)]) hx hb dX12_power_13 hl (k := 1) rfl (by decide) (by decide) rfl (fun ls hl => ?_)
        refine lv_goto (tgt := 4) hx hb dX12_power_16 (by decide) ?_
        refine lv_iload_n hx hb dX12_power_4 rfl (lv_at hl 0 rfl) ?_
        refine lv_iload_n hx hb dX12_power_5 rfl (lv_at hl 3 rfl) ?_
        refine lv_icmp_ge (tgt := 19) hx hb dX12_power_6 (by decide) (fun c7 => ?_) (fun c7 => ?_)
        · exact absurd c7 (by decide)
        · skip
          refine lv_iload_n hx hb dX12_power_9 rfl (lv_at hl 1 rfl) ?_
          refine lv_iload_n hx hb dX12_power_10 rfl (lv_at hl 2 rfl) ?_
          refine lv_imul hx hb dX12_power_11 ?_
          refine lv_topi (fun v8 ev8 => ?_)
          have tv8 := z_mulb (a1 := 1) (b1 := 27) (a2 := 1) (b2 := 3) ev8 (rfl : (v6 : Int32).toInt = _) (rfl : (mm : Int32).toInt = _) (by omega) (by omega) (by omega) (by omega) (by decide) (by decide) (by decide)
          have : 1 ≤ v8.toInt ∧ v8.toInt ≤ 81 := ⟨by omega, by omega⟩
          refine lv_istore_n (lv' := [(2, .int v8), (3, .int 3), (0, .int mm), (1, .int 5)]) hx hb dX12_power_12 rfl hl (by decide) rfl (fun ls hl => ?_)
          refine lv_iinc (v := 4) (lv' := [(3, .int 4), (2, .int v8), (0, .int mm), (1, .int 5)]) hx hb dX12_power_13 hl (k := 1) rfl (by decide) (by decide) rfl (fun ls hl => ?_)
          refine lv_goto (tgt := 4) hx hb dX12_power_16 (by decide) ?_
          refine lv_iload_n hx hb dX12_power_4 rfl (lv_at hl 0 rfl) ?_
          refine lv_iload_n hx hb dX12_power_5 rfl (lv_at hl 3 rfl) ?_
          refine lv_icmp_ge (tgt := 19) hx hb dX12_power_6 (by decide) (fun c9 => ?_) (fun c9 => ?_)
          · exact absurd c9 (by decide)
          · skip
            refine lv_iload_n hx hb dX12_power_9 rfl (lv_at hl 1 rfl) ?_
            refine lv_iload_n hx hb dX12_power_10 rfl (lv_at hl 2 rfl) ?_
            refine lv_imul hx hb dX12_power_11 ?_
            refine lv_topi (fun v10 ev10 => ?_)
            have tv10 := z_mulb (a1 := 1) (b1 := 81) (a2 := 1) (b2 := 3) ev10 (rfl : (v8 : Int32).toInt = _) (rfl : (mm : Int32).toInt = _) (by omega) (by omega) (by omega) (by omega) (by decide) (by decide) (by decide)
            have : 1 ≤ v10.toInt ∧ v10.toInt ≤ 243 := ⟨by omega, by omega⟩
            refine lv_istore_n (lv' := [(2, .int v10), (3, .int 4), (0, .int mm), (1, .int 5)]) hx hb dX12_power_12 rfl hl (by decide) rfl (fun ls hl => ?_)
            refine lv_iinc (v := 5) (lv' := [(3, .int 5), (2, .int v10), (0, .int mm), (1, .int 5)]) hx hb dX12_power_13 hl (k := 1) rfl (by decide) (by decide) rfl (fun ls hl => ?_)
            refine lv_goto (tgt := 4) hx hb dX12_power_16 (by decide) ?_
            refine lv_iload_n hx hb dX12_power_4 rfl (lv_at hl 0 rfl) ?_
            refine lv_iload_n hx hb dX12_power_5 rfl (lv_at hl 3 rfl) ?_
            refine lv_icmp_ge (tgt := 19) hx hb dX12_power_6 (by decide) (fun c11 => ?_) (fun c11 => ?_)
            · skip
              refine lv_iload_n hx hb dX12_power_19 rfl (lv_at hl 1 rfl) ?_
              exact W.iret (v := v10) hx hb hr (fun t ht9 hW => ⟨v10, rfl, ⟨by omega, by omega⟩, ht9⟩) (fun q hq => by cases hq) dX12_power_20
            · exact absurd c11 (by decide)
set_option maxHeartbeats 4000000 in
set_option maxRecDepth 100000 in
/-- X12_power -/
theorem c_X12_power_6 (l : Launch) (dC : Nat → ClassId) (dI : Nat → Nat → Nat) (mm : Int32) (h_mm : 1 ≤ mm.toInt ∧ mm.toInt ≤ 3) : Met l yX12_power (wc yX12_power cX12_power 4 (some .int)) ({ frames := 0, cells := 0, slots := 0, locals := 0 } : Room) (pR (dC, dI) classes [] [] [.int mm, .int 6]) (vp_Si (fun r => 1 ≤ r.toInt ∧ r.toInt ≤ 729)) 0 0 (fun _ => False) := by
  refine Met.ofW (cc := cX12_power) (maxL := 4) (ret := (some .int)) (by decide) rfl ?_
  intro p e s m args below meth c s₁ B hml hv
  obtain ⟨rfl, hP, hK⟩ := hv
  have hx := B.exec
  have hb := B.bytes
  have hr := B.returns
  have ht := tb_tl (atoms_spec (ws := wc yX12_power cX12_power 4 (some .int)) B.pre)
  have hown : s.vm.findClass RX12 = some m.cls := findClass_of_methodNamed B.named
  have hlocks := B.notSynchronized
  have hl := lv_entry [.int mm, .int 6] (n := 4) (Nat.le_of_ble_eq_true rfl)
  rw [lg_entry_eq]
  generalize (lg_sl [.int mm, .int 6] ++ List.replicate (4 - (lg_sl [.int mm, .int 6]).length) Slot.unset).toArray = ls at hl ⊢
  have hl : lv_has ls 4 [(0, .int mm), (1, .int 6)] := hl
  refine lv_iconst (v := 1) hx hb dX12_power_0 (by decide) ?_
  refine lv_istore_n (lv' := [(2, .int 1), (0, .int mm), (1, .int 6)]) hx hb dX12_power_1 rfl hl (by decide) rfl (fun ls hl => ?_)
  refine lv_iconst (v := 0) hx hb dX12_power_2 (by decide) ?_
  refine lv_istore_n (lv' := [(3, .int 0), (2, .int 1), (0, .int mm), (1, .int 6)]) hx hb dX12_power_3 rfl hl (by decide) rfl (fun ls hl => ?_)
  refine lv_iload_n hx hb dX12_power_4 rfl (lv_at hl 0 rfl) ?_
  refine lv_iload_n hx hb dX12_power_5 rfl (lv_at hl 3 rfl) ?_
  refine lv_icmp_ge (tgt := 19) hx hb dX12_power_6 (by decide) (fun c1 => ?_) (fun c1 => ?_)
  · exact absurd c1 (by decide)
  · skip
    refine lv_iload_n hx hb dX12_power_9 rfl (lv_at hl 1 rfl) ?_
    refine lv_iload_n hx hb dX12_power_10 rfl (lv_at hl 2 rfl) ?_
    refine lv_imul hx hb dX12_power_11 ?_
    refine lv_topi (fun v2 ev2 => ?_)
    have tv2 := z_mul ev2 (by decide : (1 : Int32).toInt = 1) (rfl : (mm).toInt = _) (by omega) (by omega)
    refine lv_istore_n (lv' := [(2, .int v2), (3, .int 0), (0, .int mm), (1, .int 6)]) hx hb dX12_power_12 rfl hl (by decide) rfl (fun ls hl => ?_)
    refine lv_iinc (v := 1) (lv' := [(3, .int 1), (2, .int v2), (0, .int mm), (1, .int 6)]) hx hb dX12_power_13 hl (k := 1) rfl (by decide) (by decide) rfl (fun ls hl => ?_)
    refine lv_goto (tgt := 4) hx hb dX12_power_16 (by decide) ?_
    refine lv_iload_n hx hb dX12_power_4 rfl (lv_at hl 0 rfl) ?_
    refine lv_iload_n hx hb dX12_power_5 rfl (lv_at hl 3 rfl) ?_
    refine lv_icmp_ge (tgt := 19) hx hb dX12_power_6 (by decide) (fun c3 => ?_) (fun c3 => ?_)
    · exact absurd c3 (by decide)
    · skip
      refine lv_iload_n hx hb dX12_power_9 rfl (lv_at hl 1 rfl) ?_
      refine lv_iload_n hx hb dX12_power_10 rfl (lv_at hl 2 rfl) ?_
      refine lv_imul hx hb dX12_power_11 ?_
      refine lv_topi (fun v4 ev4 => ?_)
      have tv4 := z_mulb (a1 := 1) (b1 := 3) (a2 := 1) (b2 := 3) ev4 (rfl : (v2 : Int32).toInt = _) (rfl : (mm : Int32).toInt = _) (by omega) (by omega) (by omega) (by omega) (by decide) (by decide) (by decide)
      have : 1 ≤ v4.toInt ∧ v4.toInt ≤ 9 := ⟨by omega, by omega⟩
      refine lv_istore_n (lv' := [(2, .int v4), (3, .int 1), (0, .int mm), (1, .int 6)]) hx hb dX12_power_12 rfl hl (by decide) rfl (fun ls hl => ?_)
      refine lv_iinc (v := 2) (lv' := [(3, .int 2), (2, .int v4), (0, .int mm), (1, .int 6)]) hx hb dX12_power_13 hl (k := 1) rfl (by decide) (by decide) rfl (fun ls hl => ?_)
      refine lv_goto (tgt := 4) hx hb dX12_power_16 (by decide) ?_
      refine lv_iload_n hx hb dX12_power_4 rfl (lv_at hl 0 rfl) ?_
      refine lv_iload_n hx hb dX12_power_5 rfl (lv_at hl 3 rfl) ?_
      refine lv_icmp_ge (tgt := 19) hx hb dX12_power_6 (by decide) (fun c5 => ?_) (fun c5 => ?_)
      · exact absurd c5 (by decide)
      · skip
        refine lv_iload_n hx hb dX12_power_9 rfl (lv_at hl 1 rfl) ?_
        refine lv_iload_n hx hb dX12_power_10 rfl (lv_at hl 2 rfl) ?_
        refine lv_imul hx hb dX12_power_11 ?_
        refine lv_topi (fun v6 ev6 => ?_)
        have tv6 := z_mulb (a1 := 1) (b1 := 9) (a2 := 1) (b2 := 3) ev6 (rfl : (v4 : Int32).toInt = _) (rfl : (mm : Int32).toInt = _) (by omega) (by omega) (by omega) (by omega) (by decide) (by decide) (by decide)
        have : 1 ≤ v6.toInt ∧ v6.toInt ≤ 27 := ⟨by omega, by omega⟩
        refine lv_istore_n (lv' := [(2, .int v6), (3, .int 2), (0, .int mm), (1, .int 6)]) hx hb dX12_power_12 rfl hl (by decide) rfl (fun ls hl => ?_)
        refine lv_iinc (v := 3) (lv' := [(3, .int 3), (2, .int v6), (0, .int mm), (1, .int 6)]) hx hb dX12_power_13 hl (k := 1) rfl (by decide) (by decide) rfl (fun ls hl => ?_)
        refine lv_goto (tgt := 4) hx hb dX12_power_16 (by decide) ?_
        refine lv_iload_n hx hb dX12_power_4 rfl (lv_at hl 0 rfl) ?_
        refine lv_iload_n hx hb dX12_power_5 rfl (lv_at hl 3 rfl) ?_
        refine lv_icmp_ge (tgt := 19) hx hb dX12_power_6 (by decide) (fun c7 => ?_) (fun c7 => ?_)
        · exact absurd c7 (by decide)
        · skip
          refine lv_iload_n hx hb dX12_power_9 rfl (lv_at hl 1 rfl) ?_
          refine lv_iload_n hx hb dX12_power_10 rfl (lv_at hl 2 rfl) ?_
          refine lv_imul hx hb dX12_power_11 ?_
          refine lv_topi (fun v8 ev8 => ?_)
          have tv8 := z_mulb (a1 := 1) (b1 := 27) (a2 := 1) (b2 := 3) ev8 (rfl : (v6 : Int32).toInt = _) (rfl : (mm : Int32).toInt = _) (by omega) (by omega) (by omega) (by omega) (by decide) (by decide) (by decide)
          have : 1 ≤ v8.toInt ∧ v8.toInt ≤ 81 := ⟨by omega, by omega⟩
          refine lv_istore_n (lv' := [(2, .int v8), (3, .int 3), (0, .int mm), (1, .int 6)]) hx hb dX12_power_12 rfl hl (by decide) rfl (fun ls hl => ?_)
          refine lv_iinc (v := 4) (lv' := [(3, .int 4), (2, .int v8), (0, .int mm), (1, .int 6)]) hx hb dX12_power_13 hl (k := 1) rfl (by decide) (by decide) rfl (fun ls hl => ?_)
          refine lv_goto (tgt := 4) hx hb dX12_power_16 (by decide) ?_
          refine lv_iload_n hx hb dX12_power_4 rfl (lv_at hl 0 rfl) ?_
          refine lv_iload_n hx hb dX12_power_5 rfl (lv_at hl 3 rfl) ?_
          refine lv_icmp_ge (tgt := 19) hx hb dX12_power_6 (by decide) (fun c9 => ?_) (fun c9 => ?_)
          · exact absurd c9 (by decide)
          · skip
            refine lv_iload_n hx hb dX12_power_9 rfl (lv_at hl 1 rfl) ?_
            refine lv_iload_n hx hb dX12_power_10 rfl (lv_at hl 2 rfl) ?_
            refine lv_imul hx hb dX12_power_11 ?_
            refine lv_topi (fun v10 ev10 => ?_)
            have tv10 := z_mulb (a1 := 1) (b1 := 81) (a2 := 1) (b2 := 3) ev10 (rfl : (v8 : Int32).toInt = _) (rfl : (mm : Int32).toInt = _) (by omega) (by omega) (by omega) (by omega) (by decide) (by decide) (by decide)
            have : 1 ≤ v10.toInt ∧ v10.toInt ≤ 243 := ⟨by omega, by omega⟩
            refine lv_istore_n (lv' := [(2, .int v10), (3, .int 4), (0, .int mm), (1, .int 6)]) hx hb dX12_power_12 rfl hl (by decide) rfl (fun ls hl => ?_)
            refine lv_iinc (v := 5) (lv' := [(3, .int 5), (2, .int v10), (0, .int mm), (1, .int 6)]) hx hb dX12_power_13 hl (k := 1) rfl (by decide) (by decide) rfl (fun ls hl => ?_)
            refine lv_goto (tgt := 4) hx hb dX12_power_16 (by decide) ?_
            refine lv_iload_n hx hb dX12_power_4 rfl (lv_at hl 0 rfl) ?_
            refine lv_iload_n hx hb dX12_power_5 rfl (lv_at hl 3 rfl) ?_
            refine lv_icmp_ge (tgt := 19) hx hb dX12_power_6 (by decide) (fun c11 => ?_) (fun c11 => ?_)
            · exact absurd c11 (by decide)
            · skip
              refine lv_iload_n hx hb dX12_power_9 rfl (lv_at hl 1 rfl) ?_
              refine lv_iload_n hx hb dX12_power_10 rfl (lv_at hl 2 rfl) ?_
              refine lv_imul hx hb dX12_power_11 ?_
              refine lv_topi (fun v12 ev12 => ?_)
              have tv12 := z_mulb (a1 := 1) (b1 := 243) (a2 := 1) (b2 := 3) ev12 (rfl : (v10 : Int32).toInt = _) (rfl : (mm : Int32).toInt = _) (by omega) (by omega) (by omega) (by omega) (by decide) (by decide) (by decide)
              have : 1 ≤ v12.toInt ∧ v12.toInt ≤ 729 := ⟨by omega, by omega⟩
              refine lv_istore_n (lv' := [(2, .int v12), (3, .int 5), (0, .int mm), (1, .int 6)]) hx hb dX12_power_12 rfl hl (by decide) rfl (fun ls hl => ?_)
              refine lv_iinc (v := 6) (lv' := [(3, .int 6), (2, .int v12), (0, .int mm), (1, .int 6)]) hx hb dX12_power_13 hl (k := 1) rfl (by decide) (by decide) rfl (fun ls hl => ?_)
              refine lv_goto (tgt := 4) hx hb dX12_power_16 (by decide) ?_
              refine lv_iload_n hx hb dX12_power_4 rfl (lv_at hl 0 rfl) ?_
              refine lv_iload_n hx hb dX12_power_5 rfl (lv_at hl 3 rfl) ?_
              refine lv_icmp_ge (tgt := 19) hx hb dX12_power_6 (by decide) (fun c13 => ?_) (fun c13 => ?_)
              · skip
                refine lv_iload_n hx hb dX12_power_19 rfl (lv_at hl 1 rfl) ?_
                exact W.iret (v := v12) hx hb hr (fun t ht9 hW => ⟨v12, rfl, ⟨by omega, by omega⟩, ht9⟩) (fun q hq => by cases hq) dX12_power_20
              · exact absurd c13 (by decide)
set_option maxHeartbeats 4000000 in
set_option maxRecDepth 100000 in
/-- X12_power -/
theorem c_X12_power_7 (l : Launch) (dC : Nat → ClassId) (dI : Nat → Nat → Nat) (mm : Int32) (h_mm : 1 ≤ mm.toInt ∧ mm.toInt ≤ 3) : Met l yX12_power (wc yX12_power cX12_power 4 (some .int)) ({ frames := 0, cells := 0, slots := 0, locals := 0 } : Room) (pR (dC, dI) classes [] [] [.int mm, .int 7]) (vp_Si (fun r => 1 ≤ r.toInt ∧ r.toInt ≤ 2187)) 0 0 (fun _ => False) := by
  refine Met.ofW (cc := cX12_power) (maxL := 4) (ret := (some .int)) (by decide) rfl ?_
  intro p e s m args below meth c s₁ B hml hv
  obtain ⟨rfl, hP, hK⟩ := hv
  have hx := B.exec
  have hb := B.bytes
  have hr := B.returns
  have ht := tb_tl (atoms_spec (ws := wc yX12_power cX12_power 4 (some .int)) B.pre)
  have hown : s.vm.findClass RX12 = some m.cls := findClass_of_methodNamed B.named
  have hlocks := B.notSynchronized
  have hl := lv_entry [.int mm, .int 7] (n := 4) (Nat.le_of_ble_eq_true rfl)
  rw [lg_entry_eq]
  generalize (lg_sl [.int mm, .int 7] ++ List.replicate (4 - (lg_sl [.int mm, .int 7]).length) Slot.unset).toArray = ls at hl ⊢
  have hl : lv_has ls 4 [(0, .int mm), (1, .int 7)] := hl
  refine lv_iconst (v := 1) hx hb dX12_power_0 (by decide) ?_
  refine lv_istore_n (lv' := [(2, .int 1), (0, .int mm), (1, .int 7)]) hx hb dX12_power_1 rfl hl (by decide) rfl (fun ls hl => ?_)
  refine lv_iconst (v := 0) hx hb dX12_power_2 (by decide) ?_
  refine lv_istore_n (lv' := [(3, .int 0), (2, .int 1), (0, .int mm), (1, .int 7)]) hx hb dX12_power_3 rfl hl (by decide) rfl (fun ls hl => ?_)
  refine lv_iload_n hx hb dX12_power_4 rfl (lv_at hl 0 rfl) ?_
  refine lv_iload_n hx hb dX12_power_5 rfl (lv_at hl 3 rfl) ?_
  refine lv_icmp_ge (tgt := 19) hx hb dX12_power_6 (by decide) (fun c1 => ?_) (fun c1 => ?_)
  · exact absurd c1 (by decide)
  · skip
    refine lv_iload_n hx hb dX12_power_9 rfl (lv_at hl 1 rfl) ?_
    refine lv_iload_n hx hb dX12_power_10 rfl (lv_at hl 2 rfl) ?_
    refine lv_imul hx hb dX12_power_11 ?_
    refine lv_topi (fun v2 ev2 => ?_)
    have tv2 := z_mul ev2 (by decide : (1 : Int32).toInt = 1) (rfl : (mm).toInt = _) (by omega) (by omega)
    refine lv_istore_n (lv' := [(2, .int v2), (3, .int 0), (0, .int mm), (1, .int 7)]) hx hb dX12_power_12 rfl hl (by decide) rfl (fun ls hl => ?_)
    refine lv_iinc (v := 1) (lv' := [(3, .int 1), (2, .int v2), (0, .int mm), (1, .int 7)]) hx hb dX12_power_13 hl (k := 1) rfl (by decide) (by decide) rfl (fun ls hl => ?_)
    refine lv_goto (tgt := 4) hx hb dX12_power_16 (by decide) ?_
    refine lv_iload_n hx hb dX12_power_4 rfl (lv_at hl 0 rfl) ?_
    refine lv_iload_n hx hb dX12_power_5 rfl (lv_at hl 3 rfl) ?_
    refine lv_icmp_ge (tgt := 19) hx hb dX12_power_6 (by decide) (fun c3 => ?_) (fun c3 => ?_)
    · exact absurd c3 (by decide)
    · skip
      refine lv_iload_n hx hb dX12_power_9 rfl (lv_at hl 1 rfl) ?_
      refine lv_iload_n hx hb dX12_power_10 rfl (lv_at hl 2 rfl) ?_
      refine lv_imul hx hb dX12_power_11 ?_
      refine lv_topi (fun v4 ev4 => ?_)
      have tv4 := z_mulb (a1 := 1) (b1 := 3) (a2 := 1) (b2 := 3) ev4 (rfl : (v2 : Int32).toInt = _) (rfl : (mm : Int32).toInt = _) (by omega) (by omega) (by omega) (by omega) (by decide) (by decide) (by decide)
      have : 1 ≤ v4.toInt ∧ v4.toInt ≤ 9 := ⟨by omega, by omega⟩
      refine lv_istore_n (lv' := [(2, .int v4), (3, .int 1), (0, .int mm), (1, .int 7)]) hx hb dX12_power_12 rfl hl (by decide) rfl (fun ls hl => ?_)
      refine lv_iinc (v := 2) (lv' := [(3, .int 2), (2, .int v4), (0, .int mm), (1, .int 7)]) hx hb dX12_power_13 hl (k := 1) rfl (by decide) (by decide) rfl (fun ls hl => ?_)
      refine lv_goto (tgt := 4) hx hb dX12_power_16 (by decide) ?_
      refine lv_iload_n hx hb dX12_power_4 rfl (lv_at hl 0 rfl) ?_
      refine lv_iload_n hx hb dX12_power_5 rfl (lv_at hl 3 rfl) ?_
      refine lv_icmp_ge (tgt := 19) hx hb dX12_power_6 (by decide) (fun c5 => ?_) (fun c5 => ?_)
      · exact absurd c5 (by decide)
      · skip
        refine lv_iload_n hx hb dX12_power_9 rfl (lv_at hl 1 rfl) ?_
        refine lv_iload_n hx hb dX12_power_10 rfl (lv_at hl 2 rfl) ?_
        refine lv_imul hx hb dX12_power_11 ?_
        refine lv_topi (fun v6 ev6 => ?_)
        have tv6 := z_mulb (a1 := 1) (b1 := 9) (a2 := 1) (b2 := 3) ev6 (rfl : (v4 : Int32).toInt = _) (rfl : (mm : Int32).toInt = _) (by omega) (by omega) (by omega) (by omega) (by decide) (by decide) (by decide)
        have : 1 ≤ v6.toInt ∧ v6.toInt ≤ 27 := ⟨by omega, by omega⟩
        refine lv_istore_n (lv' := [(2, .int v6), (3, .int 2), (0, .int mm), (1, .int 7)]) hx hb dX12_power_12 rfl hl (by decide) rfl (fun ls hl => ?_)
        refine lv_iinc (v := 3) (lv' := [(3, .int 3), (2, .int v6), (0, .int mm), (1, .int 7)]) hx hb dX12_power_13 hl (k := 1) rfl (by decide) (by decide) rfl (fun ls hl => ?_)
        refine lv_goto (tgt := 4) hx hb dX12_power_16 (by decide) ?_
        refine lv_iload_n hx hb dX12_power_4 rfl (lv_at hl 0 rfl) ?_
        refine lv_iload_n hx hb dX12_power_5 rfl (lv_at hl 3 rfl) ?_
        refine lv_icmp_ge (tgt := 19) hx hb dX12_power_6 (by decide) (fun c7 => ?_) (fun c7 => ?_)
        · exact absurd c7 (by decide)
        · skip
          refine lv_iload_n hx hb dX12_power_9 rfl (lv_at hl 1 rfl) ?_
          refine lv_iload_n hx hb dX12_power_10 rfl (lv_at hl 2 rfl) ?_
          refine lv_imul hx hb dX12_power_11 ?_
          refine lv_topi (fun v8 ev8 => ?_)
          have tv8 := z_mulb (a1 := 1) (b1 := 27) (a2 := 1) (b2 := 3) ev8 (rfl : (v6 : Int32).toInt = _) (rfl : (mm : Int32).toInt = _) (by omega) (by omega) (by omega) (by omega) (by decide) (by decide) (by decide)
          have : 1 ≤ v8.toInt ∧ v8.toInt ≤ 81 := ⟨by omega, by omega⟩
          refine lv_istore_n (lv' := [(2, .int v8), (3, .int 3), (0, .int mm), (1, .int 7)]) hx hb dX12_power_12 rfl hl (by decide) rfl (fun ls hl => ?_)
          refine lv_iinc (v := 4) (lv' := [(3, .int 4), (2, .int v8), (0, .int mm), (1, .int 7)]) hx hb dX12_power_13 hl (k := 1) rfl (by decide) (by decide) rfl (fun ls hl => ?_)
          refine lv_goto (tgt := 4) hx hb dX12_power_16 (by decide) ?_
          refine lv_iload_n hx hb dX12_power_4 rfl (lv_at hl 0 rfl) ?_
          refine lv_iload_n hx hb dX12_power_5 rfl (lv_at hl 3 rfl) ?_
          refine lv_icmp_ge (tgt := 19) hx hb dX12_power_6 (by decide) (fun c9 => ?_) (fun c9 => ?_)
          · exact absurd c9 (by decide)
          · skip
            refine lv_iload_n hx hb dX12_power_9 rfl (lv_at hl 1 rfl) ?_
            refine lv_iload_n hx hb dX12_power_10 rfl (lv_at hl 2 rfl) ?_
            refine lv_imul hx hb dX12_power_11 ?_
            refine lv_topi (fun v10 ev10 => ?_)
            have tv10 := z_mulb (a1 := 1) (b1 := 81) (a2 := 1) (b2 := 3) ev10 (rfl : (v8 : Int32).toInt = _) (rfl : (mm : Int32).toInt = _) (by omega) (by omega) (by omega) (by omega) (by decide) (by decide) (by decide)
            have : 1 ≤ v10.toInt ∧ v10.toInt ≤ 243 := ⟨by omega, by omega⟩
            refine lv_istore_n (lv' := [(2, .int v10), (3, .int 4), (0, .int mm), (1, .int 7)]) hx hb dX12_power_12 rfl hl (by decide) rfl (fun ls hl => ?_)
            refine lv_iinc (v := 5) (lv' := [(3, .int 5), (2, .int v10), (0, .int mm), (1, .int 7)]) hx hb dX12_power_13 hl (k := 1) rfl (by decide) (by decide) rfl (fun ls hl => ?_)
            refine lv_goto (tgt := 4) hx hb dX12_power_16 (by decide) ?_
            refine lv_iload_n hx hb dX12_power_4 rfl (lv_at hl 0 rfl) ?_
            refine lv_iload_n hx hb dX12_power_5 rfl (lv_at hl 3 rfl) ?_
            refine lv_icmp_ge (tgt := 19) hx hb dX12_power_6 (by decide) (fun c11 => ?_) (fun c11 => ?_)
            · exact absurd c11 (by decide)
            · skip
              refine lv_iload_n hx hb dX12_power_9 rfl (lv_at hl 1 rfl) ?_
              refine lv_iload_n hx hb dX12_power_10 rfl (lv_at hl 2 rfl) ?_
              refine lv_imul hx hb dX12_power_11 ?_
              refine lv_topi (fun v12 ev12 => ?_)
              have tv12 := z_mulb (a1 := 1) (b1 := 243) (a2 := 1) (b2 := 3) ev12 (rfl : (v10 : Int32).toInt = _) (rfl : (mm : Int32).toInt = _) (by omega) (by omega) (by omega) (by omega) (by decide) (by decide) (by decide)
              have : 1 ≤ v12.toInt ∧ v12.toInt ≤ 729 := ⟨by omega, by omega⟩
              refine lv_istore_n (lv' := [(2, .int v12), (3, .int 5), (0, .int mm), (1, .int 7)]) hx hb dX12_power_12 rfl hl (by decide) rfl (fun ls hl => ?_)
              refine lv_iinc (v := 6) (lv' := [(3, .int 6), (2, .int v12), (0, .int mm), (1, .int 7)]) hx hb dX12_power_13 hl (k := 1) rfl (by decide) (by decide) rfl (fun ls hl => ?_)
              refine lv_goto (tgt := 4) hx hb dX12_power_16 (by decide) ?_
              refine lv_iload_n hx hb dX12_power_4 rfl (lv_at hl 0 rfl) ?_
              refine lv_iload_n hx hb dX12_power_5 rfl (lv_at hl 3 rfl) ?_
              refine lv_icmp_ge (tgt := 19) hx hb dX12_power_6 (by decide) (fun c13 => ?_) (fun c13 => ?_)
              · exact absurd c13 (by decide)
              · skip
                refine lv_iload_n hx hb dX12_power_9 rfl (lv_at hl 1 rfl) ?_
                refine lv_iload_n hx hb dX12_power_10 rfl (lv_at hl 2 rfl) ?_
                refine lv_imul hx hb dX12_power_11 ?_
                refine lv_topi (fun v14 ev14 => ?_)
                have tv14 := z_mulb (a1 := 1) (b1 := 729) (a2 := 1) (b2 := 3) ev14 (rfl : (v12 : Int32).toInt = _) (rfl : (mm : Int32).toInt = _) (by omega) (by omega) (by omega) (by omega) (by decide) (by decide) (by decide)
                have : 1 ≤ v14.toInt ∧ v14.toInt ≤ 2187 := ⟨by omega, by omega⟩
                refine lv_istore_n (lv' := [(2, .int v14), (3, .int 6), (0, .int mm), (1, .int 7)]) hx hb dX12_power_12 rfl hl (by decide) rfl (fun ls hl => ?_)
                refine lv_iinc (v := 7) (lv' := [(3, .int 7), (2, .int v14), (0, .int mm), (1, .int 7)]) hx hb dX12_power_13 hl (k := 1) rfl (by decide) (by decide) rfl (fun ls hl => ?_)
                refine lv_goto (tgt := 4) hx hb dX12_power_16 (by decide) ?_
                refine lv_iload_n hx hb dX12_power_4 rfl (lv_at hl 0 rfl) ?_
                refine lv_iload_n hx hb dX12_power_5 rfl (lv_at hl 3 rfl) ?_
                refine lv_icmp_ge (tgt := 19) hx hb dX12_power_6 (by decide) (fun c15 => ?_) (fun c15 => ?_)
                · skip
                  refine lv_iload_n hx hb dX12_power_19 rfl (lv_at hl 1 rfl) ?_
                  exact W.iret (v := v14) hx hb hr (fun t ht9 hW => ⟨v14, rfl, ⟨by omega, by omega⟩, ht9⟩) (fun q hq => by cases hq) dX12_power_20
                · exact absurd c15 (by decide)
set_option maxHeartbeats 4000000 in
set_option maxRecDepth 100000 in
/-- X12_power -/
theorem c_X12_power_8 (l : Launch) (dC : Nat → ClassId) (dI : Nat → Nat → Nat) (mm : Int32) (h_mm : 1 ≤ mm.toInt ∧ mm.toInt ≤ 3) : Met l yX12_power (wc yX12_power cX12_power 4 (some .int)) ({ frames := 0, cells := 0, slots := 0, locals := 0 } : Room) (pR (dC, dI) classes [] [] [.int mm, .int 8]) (vp_Si (fun r => 1 ≤ r.toInt ∧ r.toInt ≤ 6561)) 0 0 (fun _ => False) := by
  refine Met.ofW (cc := cX12_power) (maxL := 4) (ret := (some .int)) (by decide) rfl ?_
  intro p e s m args below meth c s₁ B hml hv
  obtain ⟨rfl, hP, hK⟩ := hv
  have hx := B.exec
  have hb := B.bytes
  have hr := B.returns
  have ht := tb_tl (atoms_spec (ws := wc yX12_power cX12_power 4 (some .int)) B.pre)
  have hown : s.vm.findClass RX12 = some m.cls := findClass_of_methodNamed B.named
  have hlocks := B.notSynchronized
  have hl := lv_entry [.int mm, .int 8] (n := 4) (Nat.le_of_ble_eq_true rfl)
  rw [lg_entry_eq]
  generalize (lg_sl [.int mm, .int 8] ++ List.replicate (4 - (lg_sl [.int mm, .int 8]).length) Slot.unset).toArray = ls at hl ⊢
  have hl : lv_has ls 4 [(0, .int mm), (1, .int 8)] := hl
  refine lv_iconst (v := 1) hx hb dX12_power_0 (by decide) ?_
  refine lv_istore_n (lv' := [(2, .int 1), (0, .int mm), (1, .int 8)]) hx hb dX12_power_1 rfl hl (by decide) rfl (fun ls hl => ?_)
  refine lv_iconst (v := 0) hx hb dX12_power_2 (by decide) ?_
  refine lv_istore_n (lv' := [(3, .int 0), (2, .int 1), (0, .int mm), (1, .int 8)]) hx hb dX12_power_3 rfl hl (by decide) rfl (fun ls hl => ?_)
  refine lv_iload_n hx hb dX12_power_4 rfl (lv_at hl 0 rfl) ?_
  refine lv_iload_n hx hb dX12_power_5 rfl (lv_at hl 3 rfl) ?_
  refine lv_icmp_ge (tgt := 19) hx hb dX12_power_6 (by decide) (fun c1 => ?_) (fun c1 => ?_)
  · exact absurd c1 (by decide)
  · skip
    refine lv_iload_n hx hb dX12_power_9 rfl (lv_at hl 1 rfl) ?_
    refine lv_iload_n hx hb dX12_power_10 rfl (lv_at hl 2 rfl) ?_
    refine lv_imul hx hb dX12_power_11 ?_
    refine lv_topi (fun v2 ev2 => ?_)
    have tv2 := z_mul ev2 (by decide : (1 : Int32).toInt = 1) (rfl : (mm).toInt = _) (by omega) (by omega)
    refine lv_istore_n (lv' := [(2, .int v2), (3, .int 0), (0, .int mm), (1, .int 8)]) hx hb dX12_power_12 rfl hl (by decide) rfl (fun ls hl => ?_)
    refine lv_iinc (v := 1) (lv' := [(3, .int 1), (2, .int v2), (0, .int mm), (1, .int 8)]) hx hb dX12_power_13 hl (k := 1) rfl (by decide) (by decide) rfl (fun ls hl => ?_)
    refine lv_goto (tgt := 4) hx hb dX12_power_16 (by decide) ?_
    refine lv_iload_n hx hb dX12_power_4 rfl (lv_at hl 0 rfl) ?_
    refine lv_iload_n hx hb dX12_power_5 rfl (lv_at hl 3 rfl) ?_
    refine lv_icmp_ge (tgt := 19) hx hb dX12_power_6 (by decide) (fun c3 => ?_) (fun c3 => ?_)
    · exact absurd c3 (by decide)
    · skip
      refine lv_iload_n hx hb dX12_power_9 rfl (lv_at hl 1 rfl) ?_
      refine lv_iload_n hx hb dX12_power_10 rfl (lv_at hl 2 rfl) ?_
      refine lv_imul hx hb dX12_power_11 ?_
      refine lv_topi (fun v4 ev4 => ?_)
      have tv4 := z_mulb (a1 := 1) (b1 := 3) (a2 := 1) (b2 := 3) ev4 (rfl : (v2 : Int32).toInt = _) (rfl : (mm : Int32).toInt = _) (by omega) (by omega) (by omega) (by omega) (by decide) (by decide) (by decide)
      have : 1 ≤ v4.toInt ∧ v4.toInt ≤ 9 := ⟨by omega, by omega⟩
      refine lv_istore_n (lv' := [(2, .int v4), (3, .int 1), (0, .int mm), (1, .int 8)]) hx hb dX12_power_12 rfl hl (by decide) rfl (fun ls hl => ?_)
      refine lv_iinc (v := 2) (lv' := [(3, .int 2), (2, .int v4), (0, .int mm), (1, .int 8)]) hx hb dX12_power_13 hl (k := 1) rfl (by decide) (by decide) rfl (fun ls hl => ?_)
      refine lv_goto (tgt := 4) hx hb dX12_power_16 (by decide) ?_
      refine lv_iload_n hx hb dX12_power_4 rfl (lv_at hl 0 rfl) ?_
      refine lv_iload_n hx hb dX12_power_5 rfl (lv_at hl 3 rfl) ?_
      refine lv_icmp_ge (tgt := 19) hx hb dX12_power_6 (by decide) (fun c5 => ?_) (fun c5 => ?_)
      · exact absurd c5 (by decide)
      · skip
        refine lv_iload_n hx hb dX12_power_9 rfl (lv_at hl 1 rfl) ?_
        refine lv_iload_n hx hb dX12_power_10 rfl (lv_at hl 2 rfl) ?_
        refine lv_imul hx hb dX12_power_11 ?_
        refine lv_topi (fun v6 ev6 => ?_)
        have tv6 := z_mulb (a1 := 1) (b1 := 9) (a2 := 1) (b2 := 3) ev6 (rfl : (v4 : Int32).toInt = _) (rfl : (mm : Int32).toInt = _) (by omega) (by omega) (by omega) (by omega) (by decide) (by decide) (by decide)
        have : 1 ≤ v6.toInt ∧ v6.toInt ≤ 27 := ⟨by omega, by omega⟩
        refine lv_istore_n (lv' := [(2, .int v6), (3, .int 2), (0, .int mm), (1, .int 8)]) hx hb dX12_power_12 rfl hl (by decide) rfl (fun ls hl => ?_)
        refine lv_iinc (v := 3) (lv' := [(3, .int 3), (2, .int v6), (0, .int mm), (1, .int 8)]) hx hb dX12_power_13 hl (k := 1) rfl (by decide) (by decide) rfl (fun ls hl => ?_)
        refine lv_goto (tgt := 4) hx hb dX12_power_16 (by decide) ?_
        refine lv_iload_n hx hb dX12_power_4 rfl (lv_at hl 0 rfl) ?_
        refine lv_iload_n hx hb dX12_power_5 rfl (lv_at hl 3 rfl) ?_
        refine lv_icmp_ge (tgt := 19) hx hb dX12_power_6 (by decide) (fun c7 => ?_) (fun c7 => ?_)
        · exact absurd c7 (by decide)
        · skip
          refine lv_iload_n hx hb dX12_power_9 rfl (lv_at hl 1 rfl) ?_
          refine lv_iload_n hx hb dX12_power_10 rfl (lv_at hl 2 rfl) ?_
          refine lv_imul hx hb dX12_power_11 ?_
          refine lv_topi (fun v8 ev8 => ?_)
          have tv8 := z_mulb (a1 := 1) (b1 := 27) (a2 := 1) (b2 := 3) ev8 (rfl : (v6 : Int32).toInt = _) (rfl : (mm : Int32).toInt = _) (by omega) (by omega) (by omega) (by omega) (by decide) (by decide) (by decide)
          have : 1 ≤ v8.toInt ∧ v8.toInt ≤ 81 := ⟨by omega, by omega⟩
          refine lv_istore_n (lv' := [(2, .int v8), (3, .int 3), (0, .int mm), (1, .int 8)]) hx hb dX12_power_12 rfl hl (by decide) rfl (fun ls hl => ?_)
          refine lv_iinc (v := 4) (lv' := [(3, .int 4), (2, .int v8), (0, .int mm), (1, .int 8)]) hx hb dX12_power_13 hl (k := 1) rfl (by decide) (by decide) rfl (fun ls hl => ?_)
          refine lv_goto (tgt := 4) hx hb dX12_power_16 (by decide) ?_
          refine lv_iload_n hx hb dX12_power_4 rfl (lv_at hl 0 rfl) ?_
          refine lv_iload_n hx hb dX12_power_5 rfl (lv_at hl 3 rfl) ?_
          refine lv_icmp_ge (tgt := 19) hx hb dX12_power_6 (by decide) (fun c9 => ?_) (fun c9 => ?_)
          · exact absurd c9 (by decide)
          · skip
            refine lv_iload_n hx hb dX12_power_9 rfl (lv_at hl 1 rfl) ?_
            refine lv_iload_n hx hb dX12_power_10 rfl (lv_at hl 2 rfl) ?_
            refine lv_imul hx hb dX12_power_11 ?_
            refine lv_topi (fun v10 ev10 => ?_)
            have tv10 := z_mulb (a1 := 1) (b1 := 81) (a2 := 1) (b2 := 3) ev10 (rfl : (v8 : Int32).toInt = _) (rfl : (mm : Int32).toInt = _) (by omega) (by omega) (by omega) (by omega) (by decide) (by decide) (by decide)
            have : 1 ≤ v10.toInt ∧ v10.toInt ≤ 243 := ⟨by omega, by omega⟩
            refine lv_istore_n (lv' := [(2, .int v10), (3, .int 4), (0, .int mm), (1, .int 8)]) hx hb dX12_power_12 rfl hl (by decide) rfl (fun ls hl => ?_)
            refine lv_iinc (v := 5) (lv' := [(3, .int 5), (2, .int v10), (0, .int mm), (1, .int 8)]) hx hb dX12_power_13 hl (k := 1) rfl (by decide) (by decide) rfl (fun ls hl => ?_)
            refine lv_goto (tgt := 4) hx hb dX12_power_16 (by decide) ?_
            refine lv_iload_n hx hb dX12_power_4 rfl (lv_at hl 0 rfl) ?_
            refine lv_iload_n hx hb dX12_power_5 rfl (lv_at hl 3 rfl) ?_
            refine lv_icmp_ge (tgt := 19) hx hb dX12_power_6 (by decide) (fun c11 => ?_) (fun c11 => ?_)
            · exact absurd c11 (by decide)
            · skip
              refine lv_iload_n hx hb dX12_power_9 rfl (lv_at hl 1 rfl) ?_
              refine lv_iload_n hx hb dX12_power_10 rfl (lv_at hl 2 rfl) ?_
              refine lv_imul hx hb dX12_power_11 ?_
              refine lv_topi (fun v12 ev12 => ?_)
              have tv12 := z_mulb (a1 := 1) (b1 := 243) (a2 := 1) (b2 := 3) ev12 (rfl : (v10 : Int32).toInt = _) (rfl : (mm : Int32).toInt = _) (by omega) (by omega) (by omega) (by omega) (by decide) (by decide) (by decide)
              have : 1 ≤ v12.toInt ∧ v12.toInt ≤ 729 := ⟨by omega, by omega⟩
              refine lv_istore_n (lv' := [(2, .int v12), (3, .int 5), (0, .int mm), (1, .int 8)]) hx hb dX12_power_12 rfl hl (by decide) rfl (fun ls hl => ?_)
              refine lv_iinc (v := 6) (lv' := [(3, .int 6), (2, .int v12), (0, .int mm), (1, .int 8)]) hx hb dX12_power_13 hl (k := 1) rfl (by decide) (by decide) rfl (fun ls hl => ?_)
              refine lv_goto (tgt := 4) hx hb dX12_power_16 (by decide) ?_
              refine lv_iload_n hx hb dX12_power_4 rfl (lv_at hl 0 rfl) ?_
              refine lv_iload_n hx hb dX12_power_5 rfl (lv_at hl 3 rfl) ?_
              refine lv_icmp_ge (tgt := 19) hx hb dX12_power_6 (by decide) (fun c13 => ?_) (fun c13 => ?_)
              · exact absurd c13 (by decide)
              · skip
                refine lv_iload_n hx hb dX12_power_9 rfl (lv_at hl 1 rfl) ?_
                refine lv_iload_n hx hb dX12_power_10 rfl (lv_at hl 2 rfl) ?_
                refine lv_imul hx hb dX12_power_11 ?_
                refine lv_topi (fun v14 ev14 => ?_)
                have tv14 := z_mulb (a1 := 1) (b1 := 729) (a2 := 1) (b2 := 3) ev14 (rfl : (v12 : Int32).toInt = _) (rfl : (mm : Int32).toInt = _) (by omega) (by omega) (by omega) (by omega) (by decide) (by decide) (by decide)
                have : 1 ≤ v14.toInt ∧ v14.toInt ≤ 2187 := ⟨by omega, by omega⟩
                refine lv_istore_n (lv' := [(2, .int v14), (3, .int 6), (0, .int mm), (1, .int 8)]) hx hb dX12_power_12 rfl hl (by decide) rfl (fun ls hl => ?_)
                refine lv_iinc (v := 7) (lv' := [(3, .int 7), (2, .int v14), (0, .int mm), (1, .int 8)]) hx hb dX12_power_13 hl (k := 1) rfl (by decide) (by decide) rfl (fun ls hl => ?_)
                refine lv_goto (tgt := 4) hx hb dX12_power_16 (by decide) ?_
                refine lv_iload_n hx hb dX12_power_4 rfl (lv_at hl 0 rfl) ?_
                refine lv_iload_n hx hb dX12_power_5 rfl (lv_at hl 3 rfl) ?_
                refine lv_icmp_ge (tgt := 19) hx hb dX12_power_6 (by decide) (fun c15 => ?_) (fun c15 => ?_)
                · exact absurd c15 (by decide)
                · skip
                  refine lv_iload_n hx hb dX12_power_9 rfl (lv_at hl 1 rfl) ?_
                  refine lv_iload_n hx hb dX12_power_10 rfl (lv_at hl 2 rfl) ?_
                  refine lv_imul hx hb dX12_power_11 ?_
                  refine lv_topi (fun v16 ev16 => ?_)
                  have tv16 := z_mulb (a1 := 1) (b1 := 2187) (a2 := 1) (b2 := 3) ev16 (rfl : (v14 : Int32).toInt = _) (rfl : (mm : Int32).toInt = _) (by omega) (by omega) (by omega) (by omega) (by decide) (by decide) (by decide)
                  have : 1 ≤ v16.toInt ∧ v16.toInt ≤ 6561 := ⟨by omega, by omega⟩
                  refine lv_istore_n (lv' := [(2, .int v16), (3, .int 7), (0, .int mm), (1, .int 8)]) hx hb dX12_power_12 rfl hl (by decide) rfl (fun ls hl => ?_)
                  refine lv_iinc (v := 8) (lv' := [(3, .int 8), (2, .int v16), (0, .int mm), (1, .int 8)]) hx hb dX12_power_13 hl (k := 1) rfl (by decide) (by decide) rfl (fun ls hl => ?_)
                  refine lv_goto (tgt := 4) hx hb dX12_power_16 (by decide) ?_
                  refine lv_iload_n hx hb dX12_power_4 rfl (lv_at hl 0 rfl) ?_
                  refine lv_iload_n hx hb dX12_power_5 rfl (lv_at hl 3 rfl) ?_
                  refine lv_icmp_ge (tgt := 19) hx hb dX12_power_6 (by decide) (fun c17 => ?_) (fun c17 => ?_)
                  · skip
                    refine lv_iload_n hx hb dX12_power_19 rfl (lv_at hl 1 rfl) ?_
                    exact W.iret (v := v16) hx hb hr (fun t ht9 hW => ⟨v16, rfl, ⟨by omega, by omega⟩, ht9⟩) (fun q hq => by cases hq) dX12_power_20
                  · exact absurd c17 (by decide)
set_option maxHeartbeats 4000000 in
set_option maxRecDepth 100000 in
/-- X12_isThere -/
theorem c_X12_isThere_x (l : Launch) (dC : Nat → ClassId) (dI : Nat → Nat → Nat) (h : Nat) (g : Nat → Nat → Nat) (ca : Nat → Nat → ClassId) (iv : Nat → Nat → Int32) (lv : Nat → Nat → Int64) (fa : Nat → Nat → Nat → Int32) (la : Nat → Nat → Nat → Int64) (hI : IX iv fa) (a : Int32) (b : Int32) (h_a : 0 ≤ a.toInt ∧ a.toInt ≤ 59) : Met l yX12_isThere (wc yX12_isThere cX12_isThere 3 (some .boolean)) ({ frames := 0, cells := 0, slots := 0, locals := 0 } : Room) (pR (dC, dI) classes (WM h g ca iv lv fa la) (TM ca) [.ref h, .int a, .int b]) (vp_Si (fun r => (0 ≤ r.toInt ∧ r.toInt ≤ 1) ∧ (((r.toInt = 1 ∧ ((fa 12 11) a.toNatClampNeg).toInt ≤ b.toInt ∧ (((fa 12 12) a.toNatClampNeg).toInt < 0 ∨ b.toInt < ((fa 12 12) a.toNatClampNeg).toInt)) ∨ (r.toInt = 0 ∧ ¬ (((fa 12 11) a.toNatClampNeg).toInt ≤ b.toInt ∧ (((fa 12 12) a.toNatClampNeg).toInt < 0 ∨ b.toInt < ((fa 12 12) a.toNatClampNeg).toInt))))))) 0 0 (fun _ => False) := by
  refine Met.ofW (cc := cX12_isThere) (maxL := 3) (ret := (some .boolean)) (by decide) rfl ?_
  intro p e s m args below meth c s₁ B hml hv
  obtain ⟨rfl, hP, hK⟩ := hv
  have hx := B.exec
  have hb := B.bytes
  have hr := B.returns
  have ht := tb_tl (atoms_spec (ws := wc yX12_isThere cX12_isThere 3 (some .boolean)) B.pre)
  have hown : s.vm.findClass RX12 = some m.cls := findClass_of_methodNamed B.named
  have hlocks := B.notSynchronized
  have hl := lv_entry [.ref h, .int a, .int b] (n := 3) (Nat.le_of_ble_eq_true rfl)
  rw [lg_entry_eq]
  generalize (lg_sl [.ref h, .int a, .int b] ++ List.replicate (3 - (lg_sl [.ref h, .int a, .int b]).length) Slot.unset).toArray = ls at hl ⊢
  have hl : lv_has ls 3 [(0, .ref h), (1, .int a), (2, .int b)] := hl
  refine lv_aload_n hx hb dX12_isThere_0 rfl (lv_at hl 0 rfl) ?_
  refine gM_12_11 hx hb ht hown hK hP m_1150 dX12_isThere_1 ?_
  refine lv_iload_n hx hb dX12_isThere_4 rfl (lv_at hl 1 rfl) ?_
  refine lM_12_11 hx hb hK hP (f := (fa 12 11)) rfl (vp_in_iff.mpr ⟨by omega, by omega⟩) dX12_isThere_5 ?_
  refine lv_topi (fun v1 ev1 => ?_)
  refine lv_iload_n hx hb dX12_isThere_6 rfl (lv_at hl 2 rfl) ?_
  refine lv_icmp_gt (tgt := 33) hx hb dX12_isThere_7 (by decide) (fun c2 => ?_) (fun c2 => ?_)
  · have fc2 := z_lt (rfl : (b).toInt = _) (rfl : (v1).toInt = _) c2
    refine lv_iconst (v := 0) hx hb dX12_isThere_33 (by decide) ?_
    have : (0 : Int32).toInt = 0 := (by decide)
    exact W.zret (v := 0) hx hb hr rfl (fun t ht9 hW => ⟨0, rfl, ⟨⟨by decide, by decide⟩, (show (((0 : Int32).toInt = 1 ∧ ((fa 12 11) a.toNatClampNeg).toInt ≤ (b).toInt ∧ (((fa 12 12) a.toNatClampNeg).toInt < 0 ∨ (b).toInt < ((fa 12 12) a.toNatClampNeg).toInt)) ∨ ((0 : Int32).toInt = 0 ∧ ¬ (((fa 12 11) a.toNatClampNeg).toInt ≤ (b).toInt ∧ (((fa 12 12) a.toNatClampNeg).toInt < 0 ∨ (b).toInt < ((fa 12 12) a.toNatClampNeg).toInt)))) from by have := congrArg Int32.toInt ev1; omega)⟩, ht9⟩) (fun q hq => by cases hq) dX12_isThere_34
  · have fc2 := z_nlt (rfl : (b).toInt = _) (rfl : (v1).toInt = _) c2
    refine lv_aload_n hx hb dX12_isThere_10 rfl (lv_at hl 0 rfl) ?_
    refine gM_12_12 hx hb ht hown hK hP m_1151 dX12_isThere_11 ?_
    refine lv_iload_n hx hb dX12_isThere_14 rfl (lv_at hl 1 rfl) ?_
    refine lM_12_12 hx hb hK hP (f := (fa 12 12)) rfl (vp_in_iff.mpr ⟨by omega, by omega⟩) dX12_isThere_15 ?_
    refine lv_topi (fun v3 ev3 => ?_)
    refine lv_if_lt (tgt := 29) hx hb dX12_isThere_16 (by decide) (fun c4 => ?_) (fun c4 => ?_)
    · have fc4 := z_lt (rfl : (v3).toInt = _) (by decide : (0 : Int32).toInt = 0) c4
      refine lv_iconst (v := 1) hx hb dX12_isThere_29 (by decide) ?_
      refine lv_goto (tgt := 34) hx hb dX12_isThere_30 (by decide) ?_
      have : (1 : Int32).toInt = 1 := (by decide)
      exact W.zret (v := 1) hx hb hr rfl (fun t ht9 hW => ⟨1, rfl, ⟨⟨by decide, by decide⟩, (show (((1 : Int32).toInt = 1 ∧ ((fa 12 11) a.toNatClampNeg).toInt ≤ (b).toInt ∧ (((fa 12 12) a.toNatClampNeg).toInt < 0 ∨ (b).toInt < ((fa 12 12) a.toNatClampNeg).toInt)) ∨ ((1 : Int32).toInt = 0 ∧ ¬ (((fa 12 11) a.toNatClampNeg).toInt ≤ (b).toInt ∧ (((fa 12 12) a.toNatClampNeg).toInt < 0 ∨ (b).toInt < ((fa 12 12) a.toNatClampNeg).toInt)))) from by have := congrArg Int32.toInt ev1; have := congrArg Int32.toInt ev3; omega)⟩, ht9⟩) (fun q hq => by cases hq) dX12_isThere_34
    · have fc4 := z_nlt (rfl : (v3).toInt = _) (by decide : (0 : Int32).toInt = 0) c4
      refine lv_aload_n hx hb dX12_isThere_19 rfl (lv_at hl 0 rfl) ?_
      refine gM_12_12 hx hb ht hown hK hP m_1151 dX12_isThere_20 ?_
      refine lv_iload_n hx hb dX12_isThere_23 rfl (lv_at hl 1 rfl) ?_
      refine lM_12_12 hx hb hK hP (f := (fa 12 12)) rfl (vp_in_iff.mpr ⟨by omega, by omega⟩) dX12_isThere_24 ?_
      refine lv_topi (fun v5 ev5 => ?_)
      obtain rfl : v3 = v5 := ev3.trans ev5.symm
      refine lv_iload_n hx hb dX12_isThere_25 rfl (lv_at hl 2 rfl) ?_
      refine lv_icmp_le (tgt := 33) hx hb dX12_isThere_26 (by decide) (fun c6 => ?_) (fun c6 => ?_)
      · have fc6 := z_le (rfl : (v3).toInt = _) (rfl : (b).toInt = _) c6
        refine lv_iconst (v := 0) hx hb dX12_isThere_33 (by decide) ?_
        have : (0 : Int32).toInt = 0 := (by decide)
        exact W.zret (v := 0) hx hb hr rfl (fun t ht9 hW => ⟨0, rfl, ⟨⟨by decide, by decide⟩, (show (((0 : Int32).toInt = 1 ∧ ((fa 12 11) a.toNatClampNeg).toInt ≤ (b).toInt ∧ (((fa 12 12) a.toNatClampNeg).toInt < 0 ∨ (b).toInt < ((fa 12 12) a.toNatClampNeg).toInt)) ∨ ((0 : Int32).toInt = 0 ∧ ¬ (((fa 12 11) a.toNatClampNeg).toInt ≤ (b).toInt ∧ (((fa 12 12) a.toNatClampNeg).toInt < 0 ∨ (b).toInt < ((fa 12 12) a.toNatClampNeg).toInt)))) from by have := congrArg Int32.toInt ev1; have := congrArg Int32.toInt ev3; omega)⟩, ht9⟩) (fun q hq => by cases hq) dX12_isThere_34
      · have fc6 := z_nle (rfl : (v3).toInt = _) (rfl : (b).toInt = _) c6
        refine lv_iconst (v := 1) hx hb dX12_isThere_29 (by decide) ?_
        refine lv_goto (tgt := 34) hx hb dX12_isThere_30 (by decide) ?_
        have : (1 : Int32).toInt = 1 := (by decide)
        exact W.zret (v := 1) hx hb hr rfl (fun t ht9 hW => ⟨1, rfl, ⟨⟨by decide, by decide⟩, (show (((1 : Int32).toInt = 1 ∧ ((fa 12 11) a.toNatClampNeg).toInt ≤ (b).toInt ∧ (((fa 12 12) a.toNatClampNeg).toInt < 0 ∨ (b).toInt < ((fa 12 12) a.toNatClampNeg).toInt)) ∨ ((1 : Int32).toInt = 0 ∧ ¬ (((fa 12 11) a.toNatClampNeg).toInt ≤ (b).toInt ∧ (((fa 12 12) a.toNatClampNeg).toInt < 0 ∨ (b).toInt < ((fa 12 12) a.toNatClampNeg).toInt)))) from by have := congrArg Int32.toInt ev1; have := congrArg Int32.toInt ev3; omega)⟩, ht9⟩) (fun q hq => by cases hq) dX12_isThere_34
