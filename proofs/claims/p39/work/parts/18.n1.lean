/-! ===== n1 ===== -/
set_option maxRecDepth 100000 in
theorem dvX12_gcd_0 : ([(0, .lload_n 0, 1), (1, .invokestatic 160, 3), (4, .lstore 4, 2), (6, .lload_n 2, 1), (7, .invokestatic 160, 3), (10, .lstore 6, 2), (12, .lload 6, 2), (14, .lconst 0, 1), (15, .lcmp, 1), (16, .ifCond .eq 21, 3), (19, .lload 4, 2), (21, .lload 6, 2), (23, .lrem, 1), (24, .lstore 8, 2), (26, .lload 6, 2), (28, .lstore 4, 2), (30, .lload 8, 2), (32, .lstore 6, 2), (34, .goto (-22), 3), (37, .lload 4, 2), (39, .lreturn, 1)] : List (Nat × Instr × Nat)).all (fun q => decide (decode cX12_gcd q.1 = .ok (q.2.1, q.2.2))) = true := by decide +kernel
theorem dX12_gcd_0 : decode cX12_gcd 0 = .ok (.lload_n 0, 1) := all_at dvX12_gcd_0 0 rfl
theorem dX12_gcd_1 : decode cX12_gcd 1 = .ok (.invokestatic 160, 3) := all_at dvX12_gcd_0 1 rfl
theorem dX12_gcd_4 : decode cX12_gcd 4 = .ok (.lstore 4, 2) := all_at dvX12_gcd_0 2 rfl
theorem dX12_gcd_6 : decode cX12_gcd 6 = .ok (.lload_n 2, 1) := all_at dvX12_gcd_0 3 rfl
theorem dX12_gcd_7 : decode cX12_gcd 7 = .ok (.invokestatic 160, 3) := all_at dvX12_gcd_0 4 rfl
theorem dX12_gcd_10 : decode cX12_gcd 10 = .ok (.lstore 6, 2) := all_at dvX12_gcd_0 5 rfl
theorem dX12_gcd_12 : decode cX12_gcd 12 = .ok (.lload 6, 2) := all_at dvX12_gcd_0 6 rfl
theorem dX12_gcd_14 : decode cX12_gcd 14 = .ok (.lconst 0, 1) := all_at dvX12_gcd_0 7 rfl
theorem dX12_gcd_15 : decode cX12_gcd 15 = .ok (.lcmp, 1) := all_at dvX12_gcd_0 8 rfl
theorem dX12_gcd_16 : decode cX12_gcd 16 = .ok (.ifCond .eq 21, 3) := all_at dvX12_gcd_0 9 rfl
theorem dX12_gcd_19 : decode cX12_gcd 19 = .ok (.lload 4, 2) := all_at dvX12_gcd_0 10 rfl
theorem dX12_gcd_21 : decode cX12_gcd 21 = .ok (.lload 6, 2) := all_at dvX12_gcd_0 11 rfl
theorem dX12_gcd_23 : decode cX12_gcd 23 = .ok (.lrem, 1) := all_at dvX12_gcd_0 12 rfl
theorem dX12_gcd_24 : decode cX12_gcd 24 = .ok (.lstore 8, 2) := all_at dvX12_gcd_0 13 rfl
theorem dX12_gcd_26 : decode cX12_gcd 26 = .ok (.lload 6, 2) := all_at dvX12_gcd_0 14 rfl
theorem dX12_gcd_28 : decode cX12_gcd 28 = .ok (.lstore 4, 2) := all_at dvX12_gcd_0 15 rfl
theorem dX12_gcd_30 : decode cX12_gcd 30 = .ok (.lload 8, 2) := all_at dvX12_gcd_0 16 rfl
theorem dX12_gcd_32 : decode cX12_gcd 32 = .ok (.lstore 6, 2) := all_at dvX12_gcd_0 17 rfl
theorem dX12_gcd_34 : decode cX12_gcd 34 = .ok (.goto (-22), 3) := all_at dvX12_gcd_0 18 rfl
theorem dX12_gcd_37 : decode cX12_gcd 37 = .ok (.lload 4, 2) := all_at dvX12_gcd_0 19 rfl
theorem dX12_gcd_39 : decode cX12_gcd 39 = .ok (.lreturn, 1) := all_at dvX12_gcd_0 20 rfl

theorem upd_ne {f : Nat → Int32} {i j : Nat} {x : Int32} (h : j ≠ i) : upd f i x j = f j := by
  unfold upd; split
  · next e => exact absurd e h
  · rfl
theorem upd_eq {f : Nat → Int32} {i : Nat} {x : Int32} : upd f i x i = x := by
  unfold upd; split
  · rfl
  · next e => exact absurd rfl e
theorem updL_ne {f : Nat → Int64} {i j : Nat} {x : Int64} (h : j ≠ i) : vp_updL f i x j = f j := by
  unfold vp_updL; split
  · next e => exact absurd e h
  · rfl
theorem updL_eq {f : Nat → Int64} {i : Nat} {x : Int64} : vp_updL f i x i = x := by
  unfold vp_updL; split
  · rfl
  · next e => exact absurd rfl e
/-- a clause is good: a strike names a place of a rule; what a let says of skeins is at least 1 -/
def gd3 (kd nm fi : Int32) : Prop := (kd.toInt = 3 → 0 ≤ fi.toInt ∧ fi.toInt ≤ 7) ∧ (kd.toInt = 0 → nm.toInt = 1 → 1 ≤ fi.toInt)
/-- the clauses of all rules are good -/
def JCf (n : Int) (cl kd nm fi : Nat → Int32) : Prop := ∀ k c : Int32, 0 ≤ k.toInt → k.toInt < n → 12 * k.toInt ≤ c.toInt → c.toInt < 12 * k.toInt + (cl k.toNatClampNeg).toInt → gd3 (kd c.toNatClampNeg) (nm c.toNatClampNeg) (fi c.toNatClampNeg)
theorem JC_keep {n0 : Int} {cl kd nm fi kd' nm' fi' : Nat → Int32} (hJ : JCf n0 cl kd nm fi) (hcl : ∀ j, inb (bA 12 25 j) (cl j)) (A : ∀ j : Nat, (j : Int) < 12 * n0 → kd' j = kd j ∧ nm' j = nm j ∧ fi' j = fi j) : JCf n0 cl kd' nm' fi' := by
  intro k c h1 h2 h3 h4
  have q := hcl k.toNatClampNeg
  have q1 : 0 ≤ (cl k.toNatClampNeg).toInt ∧ (cl k.toNatClampNeg).toInt ≤ 12 := q
  have e : ((c.toNatClampNeg : Nat) : Int) < 12 * n0 := by show ((c.toInt.toNat : Nat) : Int) < _; omega
  obtain ⟨a, b, d⟩ := A c.toNatClampNeg e
  rw [a, b, d]; exact hJ k c h1 h2 h3 h4
theorem JC_add {n0 n : Int32} {cl kd nm fi kd' nm' fi' : Nat → Int32} (hJ : JCf n0.toInt cl kd nm fi) (hcl : ∀ j, inb (bA 12 25 j) (cl j)) (hn0 : 0 ≤ n0.toInt ∧ n0.toInt ≤ 7) (A : ∀ j : Nat, (j : Int) < 12 * n0.toInt → kd' j = kd j ∧ nm' j = nm j ∧ fi' j = fi j)
    (B : ∀ j : Nat, 12 * n0.toInt ≤ (j : Int) → (j : Int) < 12 * n0.toInt + n.toInt → gd3 (kd' j) (nm' j) (fi' j)) : JCf (n0.toInt + 1) (upd cl n0.toNatClampNeg n) kd' nm' fi' := by
  intro k c h1 h2 h3 h4
  by_cases e : k.toInt = n0.toInt
  · have e2 : k = n0 := Int32.toInt_inj.mp e
    rw [e2, upd_eq] at h4
    refine B _ ?_ ?_
    · show _ ≤ ((c.toInt.toNat : Nat) : Int); omega
    · show ((c.toInt.toNat : Nat) : Int) < _; omega
  · have e2 : k.toNatClampNeg ≠ n0.toNatClampNeg := by show k.toInt.toNat ≠ n0.toInt.toNat; omega
    rw [upd_ne e2] at h4
    exact JC_keep hJ hcl A k c h1 (by omega) h3 h4
def JRf (n : Int) (raw : Nat → Int32) : Prop := ∀ j : Nat, (j : Int) < n → 100 ≤ (raw j).toInt
theorem JR_add {n0 x : Int32} {raw : Nat → Int32} (h : JRf n0.toInt raw) (h0 : 0 ≤ n0.toInt) (hx : 100 ≤ x.toInt) : JRf (n0.toInt + 1) (upd raw n0.toNatClampNeg x) := by
  intro j hj
  by_cases e : j = n0.toNatClampNeg
  · rw [e, upd_eq]; exact hx
  · have e2 : j ≠ n0.toInt.toNat := e
    rw [upd_ne e]; exact h j (by omega)
/-- how many of the first n skeins are of a bale and a look -/
def cn0 (ob ol : Nat → Int32) (b l : Int32) : Nat → Nat
  | 0 => 0
  | n + 1 => cn0 ob ol b l n + (if (ob n).toInt = b.toInt ∧ (ol n).toInt = l.toInt then 1 else 0)
def JNf (n : Int) (ob ol : Nat → Int32) : Prop := ∀ b l : Int32, cn0 ob ol b l n.toNat ≤ 12
theorem cn0_congr {ob ol ob' ol' : Nat → Int32} {b l : Int32} : ∀ n : Nat, (∀ j, j < n → ob' j = ob j ∧ ol' j = ol j) → cn0 ob' ol' b l n = cn0 ob ol b l n
  | 0, _ => rfl
  | n + 1, h => by
    show cn0 ob' ol' b l n + _ = cn0 ob ol b l n + _
    rw [cn0_congr n (fun j hj => h j (Nat.lt_succ_of_lt hj)), (h n (Nat.lt_succ_self n)).1, (h n (Nat.lt_succ_self n)).2]
theorem cn0_mono {ob ol : Nat → Int32} {b l : Int32} {m : Nat} : ∀ n : Nat, m ≤ n → cn0 ob ol b l m ≤ cn0 ob ol b l n
  | 0, h => by rw [Nat.le_zero.mp h]; exact Nat.le_refl _
  | n + 1, h => by
    by_cases e : m = n + 1
    · rw [e]; exact Nat.le_refl _
    · exact Nat.le_trans (cn0_mono n (by omega)) (Nat.le_add_right _ _)
theorem JN_add {n0 b l : Int32} {ob ol : Nat → Int32} (h : JNf n0.toInt ob ol) (h0 : 0 ≤ n0.toInt) (h1 : cn0 ob ol b l n0.toInt.toNat ≤ 11) : JNf (n0.toInt + 1) (upd ob n0.toNatClampNeg b) (upd ol n0.toNatClampNeg l) := by
  intro b' l'
  have e : (n0.toInt + 1).toNat = n0.toInt.toNat + 1 := by omega
  have c := cn0_congr (ob := ob) (ol := ol) (ob' := upd ob n0.toNatClampNeg b) (ol' := upd ol n0.toNatClampNeg l) (b := b') (l := l') n0.toInt.toNat (fun j hj => ⟨upd_ne (by show j ≠ n0.toInt.toNat; omega), upd_ne (by show j ≠ n0.toInt.toNat; omega)⟩)
  have e3 : upd ob n0.toNatClampNeg b n0.toInt.toNat = b := upd_eq
  have e4 : upd ol n0.toNatClampNeg l n0.toInt.toNat = l := upd_eq
  rw [e]
  show cn0 _ _ b' l' n0.toInt.toNat + (if (upd ob n0.toNatClampNeg b n0.toInt.toNat).toInt = b'.toInt ∧ (upd ol n0.toNatClampNeg l n0.toInt.toNat).toInt = l'.toInt then 1 else 0) ≤ 12
  rw [c, e3, e4]
  split
  · next q =>
    have q1 : b = b' := Int32.toInt_inj.mp q.1
    have q2 : l = l' := Int32.toInt_inj.mp q.2
    rw [← q1, ← q2]; omega
  · have := h b' l'; omega
theorem cn0_step {ob ol : Nat → Int32} {b l s s' x y : Int32} (hs : s'.toInt = s.toInt + 1) (h0 : 0 ≤ s.toInt) (hx : x = ob s.toNatClampNeg) (hy : y = ol s.toNatClampNeg) : cn0 ob ol b l s'.toInt.toNat = cn0 ob ol b l s.toInt.toNat + (if x.toInt = b.toInt ∧ y.toInt = l.toInt then 1 else 0) := by
  have e : s'.toInt.toNat = s.toInt.toNat + 1 := by omega
  rw [e, hx, hy]; rfl
theorem cn0_le {ob ol : Nat → Int32} {b l s s' : Int32} (hs : s'.toInt = s.toInt + 1) (h0 : 0 ≤ s.toInt) : cn0 ob ol b l s.toInt.toNat ≤ cn0 ob ol b l s'.toInt.toNat := cn0_mono _ (by omega)
/-- how many of the first n skeins are of a bale and a look and are there on a day -/
def cn1 (ob ol dy lo : Nat → Int32) (b l d : Int32) : Nat → Nat
  | 0 => 0
  | n + 1 => cn1 ob ol dy lo b l d n + (if (ob n).toInt = b.toInt ∧ (ol n).toInt = l.toInt ∧ (dy n).toInt ≤ d.toInt ∧ ((lo n).toInt < 0 ∨ d.toInt < (lo n).toInt) then 1 else 0)
theorem cn1_same {ob ol dy lo : Nat → Int32} {b l d s s' : Int32} (hs : s'.toInt = s.toInt + 1) (h0 : 0 ≤ s.toInt) (h : ¬ ((ob s.toNatClampNeg).toInt = b.toInt ∧ (ol s.toNatClampNeg).toInt = l.toInt ∧ (dy s.toNatClampNeg).toInt ≤ d.toInt ∧ ((lo s.toNatClampNeg).toInt < 0 ∨ d.toInt < (lo s.toNatClampNeg).toInt))) : cn1 ob ol dy lo b l d s'.toInt.toNat = cn1 ob ol dy lo b l d s.toInt.toNat := by
  have e : s'.toInt.toNat = s.toInt.toNat + 1 := by omega
  rw [e]
  show _ + (if _ then 1 else 0) = _
  split
  · next q => exact absurd q h
  · rfl
theorem cn1_up {ob ol dy lo : Nat → Int32} {b l d s s' : Int32} (hs : s'.toInt = s.toInt + 1) (h0 : 0 ≤ s.toInt) : cn1 ob ol dy lo b l d s.toInt.toNat ≤ cn1 ob ol dy lo b l d s'.toInt.toNat ∧ cn1 ob ol dy lo b l d s'.toInt.toNat ≤ cn1 ob ol dy lo b l d s.toInt.toNat + 1 := by
  have e : s'.toInt.toNat = s.toInt.toNat + 1 := by omega
  rw [e]
  show _ ≤ _ + (if _ then 1 else 0) ∧ _ + (if _ then 1 else 0) ≤ _
  split <;> omega
theorem cn1_next {ob ol dy lo : Nat → Int32} {b l d s s' : Int32} (hs : s'.toInt = s.toInt + 1) (h0 : 0 ≤ s.toInt) (h : (ob s.toNatClampNeg).toInt = b.toInt ∧ (ol s.toNatClampNeg).toInt = l.toInt ∧ (dy s.toNatClampNeg).toInt ≤ d.toInt ∧ ((lo s.toNatClampNeg).toInt < 0 ∨ d.toInt < (lo s.toNatClampNeg).toInt)) : cn1 ob ol dy lo b l d s'.toInt.toNat = cn1 ob ol dy lo b l d s.toInt.toNat + 1 := by
  have e : s'.toInt.toNat = s.toInt.toNat + 1 := by omega
  rw [e]
  show _ + (if _ then 1 else 0) = _
  split
  · rfl
  · next q => exact absurd h q
set_option maxHeartbeats 4000000 in
set_option maxRecDepth 100000 in
/-- X12_plain -/
theorem c_X12_plain_x (l : Launch) (dC : Nat → ClassId) (dI : Nat → Nat → Nat) (a : Int64) : Met l yX12_plain (wc yX12_plain cX12_plain 2 (some .long)) ({ frames := 0, cells := 0, slots := 0, locals := 0 } : Room) (pR (dC, dI) classes [] [] [.long a]) (vp_Sl (fun r => (True) ∧ ((r.toInt).natAbs = (a.toInt).natAbs))) 0 0 (fun _ => False) := by
  refine Met.ofW (cc := cX12_plain) (maxL := 2) (ret := (some .long)) (by decide) rfl ?_
  intro p e s m args below meth c s₁ B hml hv
  obtain ⟨rfl, hP, hK⟩ := hv
  have hx := B.exec
  have hb := B.bytes
  have hr := B.returns
  have ht := tb_tl (atoms_spec (ws := wc yX12_plain cX12_plain 2 (some .long)) B.pre)
  have hown : s.vm.findClass RX12 = some m.cls := findClass_of_methodNamed B.named
  have hlocks := B.notSynchronized
  have hl := lv_entry [.long a] (n := 2) (Nat.le_of_ble_eq_true rfl)
  rw [lg_entry_eq]
  generalize (lg_sl [.long a] ++ List.replicate (2 - (lg_sl [.long a]).length) Slot.unset).toArray = ls at hl ⊢
  have hl : lv_has ls 2 [(0, .long a)] := hl
  refine lv_lload_n hx hb dX12_plain_0 rfl (lv_at hl 0 rfl) ?_
  refine lv_lconst (v := 0) hx hb dX12_plain_1 (by decide) ?_
  refine W.lcmp hx hb dX12_plain_2 ?_
  refine lv_topi (fun v1 ev1 => ?_)
  refine lv_if_ge (tgt := 12) hx hb dX12_plain_3 (by decide) (fun c2 => ?_) (fun c2 => ?_)
  · have fc2 := zc_nlt ev1 (rfl : (a).toInt = _) (by decide : (0 : Int64).toInt = 0) (Int32.not_lt.mpr c2)
    refine lv_lload_n hx hb dX12_plain_12 rfl (lv_at hl 0 rfl) ?_
    exact W.lret (v := a) hx hb hr (fun t ht9 hW => ⟨a, rfl, ⟨trivial, (show ((a : Int64).toInt).natAbs = ((a).toInt).natAbs from by first | omega | exact l_neg0 (by assumption))⟩, ht9⟩) (fun q hq => by cases hq) dX12_plain_13
  · have fc2 := zc_lt ev1 (rfl : (a).toInt = _) (by decide : (0 : Int64).toInt = 0) (Int32.not_le.mp c2)
    refine lv_lconst (v := 0) hx hb dX12_plain_6 (by decide) ?_
    refine lv_lload_n hx hb dX12_plain_7 rfl (lv_at hl 0 rfl) ?_
    refine lv_lsub hx hb dX12_plain_8 ?_
    refine lv_topl (fun w3 ew3 => ?_)
    refine lv_goto (tgt := 13) hx hb dX12_plain_9 (by decide) ?_
    exact W.lret (v := w3) hx hb hr (fun t ht9 hW => ⟨w3, rfl, ⟨trivial, (show ((w3 : Int64).toInt).natAbs = ((a).toInt).natAbs from by first | omega | exact l_neg0 (by assumption))⟩, ht9⟩) (fun q hq => by cases hq) dX12_plain_13
set_option maxHeartbeats 4000000 in
set_option maxRecDepth 100000 in
/-- X12_gcd -/
theorem c_X12_gcd (l : Launch) (dC : Nat → ClassId) (dI : Nat → Nat → Nat) (a : Int64) (b : Int64) (p_0 : b.toInt ≠ 0) : Met l yX12_gcd (wc yX12_gcd cX12_gcd 10 (some .long)) ({ frames := 1, cells := 0, slots := 0, locals := 21 } : Room) (pR (dC, dI) classes [] [] [.long a, .long b]) (vp_Sl (fun r => (True) ∧ (r.toInt ≠ 0) ∧ ((r.toInt).natAbs ≤ (b.toInt).natAbs))) 0 0 (fun _ => False) := by
  refine Met.ofW (cc := cX12_gcd) (maxL := 10) (ret := (some .long)) (by decide) rfl ?_
  intro p e s m args below meth c s₁ B hml hv
  obtain ⟨rfl, hP, hK⟩ := hv
  have hx := B.exec
  have hb := B.bytes
  have hr := B.returns
  have ht := tb_tl (atoms_spec (ws := wc yX12_gcd cX12_gcd 10 (some .long)) B.pre)
  have hown : s.vm.findClass RX12 = some m.cls := findClass_of_methodNamed B.named
  have hlocks := B.notSynchronized
  have hl := lv_entry [.long a, .long b] (n := 10) (Nat.le_of_ble_eq_true rfl)
  rw [lg_entry_eq]
  generalize (lg_sl [.long a, .long b] ++ List.replicate (10 - (lg_sl [.long a, .long b]).length) Slot.unset).toArray = ls at hl ⊢
  have hl : lv_has ls 10 [(0, .long a), (2, .long b)] := hl
  refine lv_lload_n hx hb dX12_gcd_0 rfl (lv_at hl 0 rfl) ?_
  refine vp_callSl (W.runS (As := [.long a]) (rest := []) ⟨hx, hb, hml, hown, ht⟩ (c_X12_plain_x l dC dI a) (kS 1 ht m_1445 m_1446 m_89 m_1447 rfl rfl hd_X12_plain_v ⟨Nat.le_of_ble_eq_true rfl, Nat.le_of_ble_eq_true rfl⟩) (sR noP (hK.sub (tys' := []) [] rfl)) rfl rfl hl.1 rfl (lv_room (Nat.le_of_ble_eq_true rfl)) dX12_gcd_1 ⟨Nat.le_of_ble_eq_true rfl, Nat.le_of_ble_eq_true rfl⟩) (fun r1 hr1 => ?_)
  obtain ⟨hr1, xr1_0⟩ := hr1
  have xr1_0 : ((r1 : Int64).toInt).natAbs = ((a : Int64).toInt).natAbs := xr1_0
  refine lv_lstore (lv' := [(4, .long r1), (0, .long a), (2, .long b)]) hx hb dX12_gcd_4 hl (by decide) rfl (fun ls hl => ?_)
  refine lv_lload_n hx hb dX12_gcd_6 rfl (lv_at hl 2 rfl) ?_
  refine vp_callSl (W.runS (As := [.long b]) (rest := []) ⟨hx, hb, hml, hown, ht⟩ (c_X12_plain_x l dC dI b) (kS 1 ht m_1445 m_1446 m_89 m_1447 rfl rfl hd_X12_plain_v ⟨Nat.le_of_ble_eq_true rfl, Nat.le_of_ble_eq_true rfl⟩) (sR noP (hK.sub (tys' := []) [] rfl)) rfl rfl hl.1 rfl (lv_room (Nat.le_of_ble_eq_true rfl)) dX12_gcd_7 ⟨Nat.le_of_ble_eq_true rfl, Nat.le_of_ble_eq_true rfl⟩) (fun r2 hr2 => ?_)
  obtain ⟨hr2, xr2_0⟩ := hr2
  have xr2_0 : ((r2 : Int64).toInt).natAbs = ((b : Int64).toInt).natAbs := xr2_0
  refine lv_lstore (lv' := [(6, .long r2), (4, .long r1), (0, .long a), (2, .long b)]) hx hb dX12_gcd_10 hl (by decide) rfl (fun ls hl => ?_)
  have lp8 : ∀ (nn8 : Nat) (x7_6 : Int64) (x7_4 : Int64), ((x7_6 : Int64).toInt).natAbs ≤ ((b).toInt).natAbs → ((x7_6 : Int64).toInt ≠ 0 ∨ ((x7_4 : Int64).toInt ≠ 0 ∧ ((x7_4 : Int64).toInt).natAbs ≤ ((b).toInt).natAbs)) → (((x7_6 : Int64).toInt).natAbs : Int) < (nn8 : Int) → ∀ (ls : Array Slot), lv_has ls 10 [(6, .long x7_6), (4, .long x7_4), (0, .long a), (2, .long b)] → W p l e ({ frames := 1, cells := 0, slots := 0, locals := 21 } : Room) s m ([.long a, .long b] : List Value).toArray below meth c s.heap [] 0 0 (MQ below (vp_Sl (fun r => (True) ∧ (r.toInt ≠ 0) ∧ ((r.toInt).natAbs ≤ (b.toInt).natAbs))) ([.long a, .long b] : List Value).toArray s 0 0 (fun _ => False)) (F0 m 12 ls []) := by
    intro nn8
    induction nn8 with
    | zero => intro x7_6 x7_4 hq8_0 hq8_1 hm8; exfalso; omega
    | succ nn8 ih8 =>
      intro x7_6 x7_4 hq8_0 hq8_1 hm8 ls hl
      refine lv_lload hx hb dX12_gcd_12 (lv_at hl 0 rfl) ?_
      refine lv_lconst (v := 0) hx hb dX12_gcd_14 (by decide) ?_
      refine W.lcmp hx hb dX12_gcd_15 ?_
      refine lv_topi (fun v9 ev9 => ?_)
      refine lv_if_eq (tgt := 37) hx hb dX12_gcd_16 (by decide) (fun c10 => ?_) (fun c10 => ?_)
      · have fc10 := zc_eq ev9 (rfl : (x7_6).toInt = _) (by decide : (0 : Int64).toInt = 0) c10
        refine lv_lload hx hb dX12_gcd_37 (lv_at hl 1 rfl) ?_
        exact W.lret (v := x7_4) hx hb hr (fun t ht9 hW => ⟨x7_4, rfl, ⟨trivial, (show (x7_4 : Int64).toInt ≠ 0 from by omega), (show ((x7_4 : Int64).toInt).natAbs ≤ ((b).toInt).natAbs from by omega)⟩, ht9⟩) (fun q hq => by cases hq) dX12_gcd_39
      · have fc10 := zc_ne ev9 (rfl : (x7_6).toInt = _) (by decide : (0 : Int64).toInt = 0) c10
        refine lv_lload hx hb dX12_gcd_19 (lv_at hl 1 rfl) ?_
        refine lv_lload hx hb dX12_gcd_21 (lv_at hl 0 rfl) ?_
        have zw11 : (x7_6 : Int64).toInt ≠ 0 := by omega
        refine lv_lrem hx hb dX12_gcd_23 (l_nz rfl zw11) ?_
        refine lv_topl (fun w11 ew11 => ?_)
        have tw11 := l_rem ew11 (rfl : (x7_4 : Int64).toInt = _) (rfl : (x7_6 : Int64).toInt = _) zw11
        refine lv_lstore (lv' := [(8, .long w11), (6, .long x7_6), (4, .long x7_4), (0, .long a), (2, .long b)]) hx hb dX12_gcd_24 hl (by decide) rfl (fun ls hl => ?_)
        refine lv_lload hx hb dX12_gcd_26 (lv_at hl 1 rfl) ?_
        refine lv_lstore (lv' := [(4, .long x7_6), (8, .long w11), (6, .long x7_6), (0, .long a), (2, .long b)]) hx hb dX12_gcd_28 hl (by decide) rfl (fun ls hl => ?_)
        refine lv_lload hx hb dX12_gcd_30 (lv_at hl 1 rfl) ?_
        refine lv_lstore (lv' := [(6, .long w11), (4, .long x7_6), (8, .long w11), (0, .long a), (2, .long b)]) hx hb dX12_gcd_32 hl (by decide) rfl (fun ls hl => ?_)
        refine lv_goto (tgt := 12) hx hb dX12_gcd_34 (by decide) ?_
        exact ih8 w11 x7_6 (show ((w11 : Int64).toInt).natAbs ≤ ((b).toInt).natAbs from by omega) (show ((w11 : Int64).toInt ≠ 0 ∨ ((x7_6 : Int64).toInt ≠ 0 ∧ ((x7_6 : Int64).toInt).natAbs ≤ ((b).toInt).natAbs)) from by omega) (by omega) ls (lv_sub hl [0, 1, 3, 4] rfl)
  exact lp8 ((r2 : Int64).toInt.natAbs + 1) r2 r1 (show ((r2 : Int64).toInt).natAbs ≤ ((b).toInt).natAbs from by omega) (show ((r2 : Int64).toInt ≠ 0 ∨ ((r1 : Int64).toInt ≠ 0 ∧ ((r1 : Int64).toInt).natAbs ≤ ((b).toInt).natAbs)) from by omega) (show (((r2 : Int64).toInt).natAbs : Int) < _ from by omega) ls (lv_sub hl [0, 1, 2, 3] rfl)
set_option maxHeartbeats 4000000 in
set_option maxRecDepth 100000 in
/-- X12_bit -/
theorem c_X12_bit_0 (l : Launch) (dC : Nat → ClassId) (dI : Nat → Nat → Nat) : Met l yX12_bit (wc yX12_bit cX12_bit 1 (some .int)) ({ frames := 0, cells := 0, slots := 0, locals := 0 } : Room) (pR (dC, dI) classes [] [] [.int 0]) (vp_Si (fun r => r = 0)) 0 0 (fun _ => False) := by
  refine Met.ofW (cc := cX12_bit) (maxL := 1) (ret := (some .int)) (by decide) rfl ?_
  intro p e s m args below meth c s₁ B hml hv
  obtain ⟨rfl, hP, hK⟩ := hv
  have hx := B.exec
  have hb := B.bytes
  have hr := B.returns
  have ht := tb_tl (atoms_spec (ws := wc yX12_bit cX12_bit 1 (some .int)) B.pre)
  have hown : s.vm.findClass RX12 = some m.cls := findClass_of_methodNamed B.named
  have hlocks := B.notSynchronized
  have hl := lv_entry [.int 0] (n := 1) (Nat.le_of_ble_eq_true rfl)
  rw [lg_entry_eq]
  generalize (lg_sl [.int 0] ++ List.replicate (1 - (lg_sl [.int 0]).length) Slot.unset).toArray = ls at hl ⊢
  have hl : lv_has ls 1 [(0, .int 0)] := hl
  refine lv_iload_n hx hb dX12_bit_0 rfl (lv_at hl 0 rfl) ?_
  refine lv_if_eq (tgt := 8) hx hb dX12_bit_1 (by decide) (fun c1 => ?_) (fun c1 => ?_)
  · skip
    refine lv_iconst (v := 0) hx hb dX12_bit_8 (by decide) ?_
    exact W.iret (v := 0) hx hb hr (fun t ht9 hW => ⟨0, rfl, rfl, ht9⟩) (fun q hq => by cases hq) dX12_bit_9
  · exact absurd rfl c1
set_option maxHeartbeats 4000000 in
set_option maxRecDepth 100000 in
/-- X12_bit -/
theorem c_X12_bit_1 (l : Launch) (dC : Nat → ClassId) (dI : Nat → Nat → Nat) : Met l yX12_bit (wc yX12_bit cX12_bit 1 (some .int)) ({ frames := 0, cells := 0, slots := 0, locals := 0 } : Room) (pR (dC, dI) classes [] [] [.int 1]) (vp_Si (fun r => r = 1)) 0 0 (fun _ => False) := by
  refine Met.ofW (cc := cX12_bit) (maxL := 1) (ret := (some .int)) (by decide) rfl ?_
  intro p e s m args below meth c s₁ B hml hv
  obtain ⟨rfl, hP, hK⟩ := hv
  have hx := B.exec
  have hb := B.bytes
  have hr := B.returns
  have ht := tb_tl (atoms_spec (ws := wc yX12_bit cX12_bit 1 (some .int)) B.pre)
  have hown : s.vm.findClass RX12 = some m.cls := findClass_of_methodNamed B.named
  have hlocks := B.notSynchronized
  have hl := lv_entry [.int 1] (n := 1) (Nat.le_of_ble_eq_true rfl)
  rw [lg_entry_eq]
  generalize (lg_sl [.int 1] ++ List.replicate (1 - (lg_sl [.int 1]).length) Slot.unset).toArray = ls at hl ⊢
  have hl : lv_has ls 1 [(0, .int 1)] := hl
  refine lv_iload_n hx hb dX12_bit_0 rfl (lv_at hl 0 rfl) ?_
  refine lv_if_eq (tgt := 8) hx hb dX12_bit_1 (by decide) (fun c1 => ?_) (fun c1 => ?_)
  · exact absurd c1 (by decide)
  · skip
    refine lv_iconst (v := 1) hx hb dX12_bit_4 (by decide) ?_
    refine lv_goto (tgt := 9) hx hb dX12_bit_5 (by decide) ?_
    exact W.iret (v := 1) hx hb hr (fun t ht9 hW => ⟨1, rfl, rfl, ht9⟩) (fun q hq => by cases hq) dX12_bit_9
set_option maxHeartbeats 4000000 in
set_option maxRecDepth 100000 in
/-- X12_atFirst -/
theorem c_X12_atFirst_1 (l : Launch) (dC : Nat → ClassId) (dI : Nat → Nat → Nat) : Met l yX12_atFirst (wc yX12_atFirst cX12_atFirst 1 (some .int)) ({ frames := 0, cells := 0, slots := 0, locals := 0 } : Room) (pR (dC, dI) classes [] [] [.int 1]) (vp_Si (fun r => r = 3)) 0 0 (fun _ => False) := by
  refine Met.ofW (cc := cX12_atFirst) (maxL := 1) (ret := (some .int)) (by decide) rfl ?_
  intro p e s m args below meth c s₁ B hml hv
  obtain ⟨rfl, hP, hK⟩ := hv
  have hx := B.exec
  have hb := B.bytes
  have hr := B.returns
  have ht := tb_tl (atoms_spec (ws := wc yX12_atFirst cX12_atFirst 1 (some .int)) B.pre)
  have hown : s.vm.findClass RX12 = some m.cls := findClass_of_methodNamed B.named
  have hlocks := B.notSynchronized
  have hl := lv_entry [.int 1] (n := 1) (Nat.le_of_ble_eq_true rfl)
  rw [lg_entry_eq]
  generalize (lg_sl [.int 1] ++ List.replicate (1 - (lg_sl [.int 1]).length) Slot.unset).toArray = ls at hl ⊢
  have hl : lv_has ls 1 [(0, .int 1)] := hl
  refine lv_iload_n hx hb dX12_atFirst_0 rfl (lv_at hl 0 rfl) ?_
  refine lv_tableIn (tgt := 39) (off := 38) hx hb dX12_atFirst_1 (by decide) (by decide) rfl (by decide) ?_
  refine lv_iconst (v := 3) hx hb dX12_atFirst_39 (by decide) ?_
  exact W.iret (v := 3) hx hb hr (fun t ht9 hW => ⟨3, rfl, rfl, ht9⟩) (fun q hq => by cases hq) dX12_atFirst_40
set_option maxHeartbeats 4000000 in
set_option maxRecDepth 100000 in
/-- X12_power -/
theorem c_X12_power_0 (l : Launch) (dC : Nat → ClassId) (dI : Nat → Nat → Nat) (mm : Int32) (h_mm : 1 ≤ mm.toInt ∧ mm.toInt ≤ 3) : Met l yX12_power (wc yX12_power cX12_power 4 (some .int)) ({ frames := 0, cells := 0, slots := 0, locals := 0 } : Room) (pR (dC, dI) classes [] [] [.int mm, .int 0]) (vp_Si (fun r => 1 ≤ r.toInt ∧ r.toInt ≤ 1)) 0 0 (fun _ => False) := by
  refine Met.ofW (cc := cX12_power) (maxL := 4) (ret := (some .int)) (by decide) rfl ?_
  intro p e s m args below meth c s₁ B hml hv
  obtain ⟨rfl, hP, hK⟩ := hv
  have hx := B.exec
  have hb := B.bytes
  have hr := B.returns
  have ht := tb_tl (atoms_spec (ws := wc yX12_power cX12_power 4 (some .int)) B.pre)
  have hown : s.vm.findClass RX12 = some m.cls := findClass_of_methodNamed B.named
  have hlocks := B.notSynchronized
  have hl := lv_entry [.int mm, .int 0] (n := 4) (Nat.le_of_ble_eq_true rfl)
  rw [lg_entry_eq]
  generalize (lg_sl [.int mm, .int 0] ++ List.replicate (4 - (lg_sl [.int mm, .int 0]).length) Slot.unset).toArray = ls at hl ⊢
  have hl : lv_has ls 4 [(0, .int mm), (1, .int 0)] := hl
  refine lv_iconst (v := 1) hx hb dX12_power_0 (by decide) ?_
  refine lv_istore_n (lv' := [(2, .int 1), (0, .int mm), (1, .int 0)]) hx hb dX12_power_1 rfl hl (by decide) rfl (fun ls hl => ?_)
  refine lv_iconst (v := 0) hx hb dX12_power_2 (by decide) ?_
  refine lv_istore_n (lv' := [(3, .int 0), (2, .int 1), (0, .int mm), (1, .int 0)]) hx hb dX12_power_3 rfl hl (by decide) rfl (fun ls hl => ?_)
  refine lv_iload_n hx hb dX12_power_4 rfl (lv_at hl 0 rfl) ?_
  refine lv_iload_n hx hb dX12_power_5 rfl (lv_at hl 3 rfl) ?_
  refine lv_icmp_ge (tgt := 19) hx hb dX12_power_6 (by decide) (fun c1 => ?_) (fun c1 => ?_)
  · skip
    refine lv_iload_n hx hb dX12_power_19 rfl (lv_at hl 1 rfl) ?_
    exact W.iret (v := 1) hx hb hr (fun t ht9 hW => ⟨1, rfl, ⟨by decide, by decide⟩, ht9⟩) (fun q hq => by cases hq) dX12_power_20
  · exact absurd c1 (by decide)
set_option maxHeartbeats 4000000 in
set_option maxRecDepth 100000 in
/-- X12_power -/
theorem c_X12_power_1 (l : Launch) (dC : Nat → ClassId) (dI : Nat → Nat → Nat) (mm : Int32) (h_mm : 1 ≤ mm.toInt ∧ mm.toInt ≤ 3) : Met l yX12_power (wc yX12_power cX12_power 4 (some .int)) ({ frames := 0, cells := 0, slots := 0, locals := 0 } : Room) (pR (dC, dI) classes [] [] [.int mm, .int 1]) (vp_Si (fun r => 1 ≤ r.toInt ∧ r.toInt ≤ 3)) 0 0 (fun _ => False) := by
  refine Met.ofW (cc := cX12_power) (maxL := 4) (ret := (some .int)) (by decide) rfl ?_
  intro p e s m args below meth c s₁ B hml hv
  obtain ⟨rfl, hP, hK⟩ := hv
  have hx := B.exec
  have hb := B.bytes
  have hr := B.returns
  have ht := tb_tl (atoms_spec (ws := wc yX12_power cX12_power 4 (some .int)) B.pre)
  have hown : s.vm.findClass RX12 = some m.cls := findClass_of_methodNamed B.named
  have hlocks := B.notSynchronized
  have hl := lv_entry [.int mm, .int 1] (n := 4) (Nat.le_of_ble_eq_true rfl)
  rw [lg_entry_eq]
  generalize (lg_sl [.int mm, .int 1] ++ List.replicate (4 - (lg_sl [.int mm, .int 1]).length) Slot.unset).toArray = ls at hl ⊢
  have hl : lv_has ls 4 [(0, .int mm), (1, .int 1)] := hl
  refine lv_iconst (v := 1) hx hb dX12_power_0 (by decide) ?_
  refine lv_istore_n (lv' := [(2, .int 1), (0, .int mm), (1, .int 1)]) hx hb dX12_power_1 rfl hl (by decide) rfl (fun ls hl => ?_)
  refine lv_iconst (v := 0) hx hb dX12_power_2 (by decide) ?_
  refine lv_istore_n (lv' := [(3, .int 0), (2, .int 1), (0, .int mm), (1, .int 1)]) hx hb dX12_power_3 rfl hl (by decide) rfl (fun ls hl => ?_)
  refine lv_iload_n hx hb dX12_power_4 rfl (lv_at hl 0 rfl) ?_
  refine lv_iload_n hx hb dX12_power_5 rfl (lv_at hl 3 rfl) ?_
  refine lv_icmp_ge (tgt := 19) hx hb dX12_power_6 (by decide) (fun c1 => ?_) (fun c1 => ?_)
  · exact absurd c1 (by decide)
  · skip
    refine lv_iload_n hx hb dX12_power_9 rfl (lv_at hl 1 rfl) ?_
    refine lv_iload_n hx hb dX12_power_10 rfl (lv_at hl 2 rfl) ?_
    refine lv_imul hx hb dX12_power_11 ?_
    refine lv_topi (fun v2 ev2 => ?_)
    have tv2 := z_mul ev2 (by decide : (1 : Int32).toInt = 1) (rfl : (mm).toInt = _) (by omega) (by omega)
    refine lv_istore_n (lv' := [(2, .int v2), (3, .int 0), (0, .int mm), (1, .int 1)]) hx hb dX12_power_12 rfl hl (by decide) rfl (fun ls hl => ?_)
    refine lv_iinc (v := 1) (lv' := [(3, .int 1), (2, .int v2), (0, .int mm), (1, .int 1)]) hx hb dX12_power_13 hl (k := 1) rfl (by decide) (by decide) rfl (fun ls hl => ?_)
    refine lv_goto (tgt := 4) hx hb dX12_power_16 (by decide) ?_
    refine lv_iload_n hx hb dX12_power_4 rfl (lv_at hl 0 rfl) ?_
    refine lv_iload_n hx hb dX12_power_5 rfl (lv_at hl 3 rfl) ?_
    refine lv_icmp_ge (tgt := 19) hx hb dX12_power_6 (by decide) (fun c3 => ?_) (fun c3 => ?_)
    · skip
      refine lv_iload_n hx hb dX12_power_19 rfl (lv_at hl 1 rfl) ?_
      exact W.iret (v := v2) hx hb hr (fun t ht9 hW => ⟨v2, rfl, ⟨by omega, by omega⟩, ht9⟩) (fun q hq => by cases hq) dX12_power_20
    · exact absurd c3 (by decide)
set_option maxHeartbeats 4000000 in
set_option maxRecDepth 100000 in
/-- X12_power -/
theorem c_X12_power_2 (l : Launch) (dC : Nat → ClassId) (dI : Nat → Nat → Nat) (mm : Int32) (h_mm : 1 ≤ mm.toInt ∧ mm.toInt ≤ 3) : Met l yX12_power (wc yX12_power cX12_power 4 (some .int)) ({ frames := 0, cells := 0, slots := 0, locals := 0 } : Room) (pR (dC, dI) classes [] [] [.int mm, .int 2]) (vp_Si (fun r => 1 ≤ r.toInt ∧ r.toInt ≤ 9)) 0 0 (fun _ => False) := by
  refine Met.ofW (cc := cX12_power) (maxL := 4) (ret := (some .int)) (by decide) rfl ?_
  intro p e s m args below meth c s₁ B hml hv
  obtain ⟨rfl, hP, hK⟩ := hv
  have hx := B.exec
  have hb := B.bytes
  have hr := B.returns
  have ht := tb_tl (atoms_spec (ws := wc yX12_power cX12_power 4 (some .int)) B.pre)
  have hown : s.vm.findClass RX12 = some m.cls := findClass_of_methodNamed B.named
  have hlocks := B.notSynchronized
  have hl := lv_entry [.int mm, .int 2] (n := 4) (Nat.le_of_ble_eq_true rfl)
  rw [lg_entry_eq]
  generalize (lg_sl [.int mm, .int 2] ++ List.replicate (4 - (lg_sl [.int mm, .int 2]).length) Slot.unset).toArray = ls at hl ⊢
  have hl : lv_has ls 4 [(0, .int mm), (1, .int 2)] := hl
  refine lv_iconst (v := 1) hx hb dX12_power_0 (by decide) ?_
  refine lv_istore_n (lv' := [(2, .int 1), (0, .int mm), (1, .int 2)]) hx hb dX12_power_1 rfl hl (by decide) rfl (fun ls hl => ?_)
  refine lv_iconst (v := 0) hx hb dX12_power_2 (by decide) ?_
  refine lv_istore_n (lv' := [(3, .int 0), (2, .int 1), (0, .int mm), (1, .int 2)]) hx hb dX12_power_3 rfl hl (by decide) rfl (fun ls hl => ?_)
  refine lv_iload_n hx hb dX12_power_4 rfl (lv_at hl 0 rfl) ?_
  refine lv_iload_n hx hb dX12_power_5 rfl (lv_at hl 3 rfl) ?_
  refine lv_icmp_ge (tgt := 19) hx hb dX12_power_6 (by decide) (fun c1 => ?_) (fun c1 => ?_)
  · exact absurd c1 (by decide)
  · skip
    refine lv_iload_n hx hb dX12_power_9 rfl (lv_at hl 1 rfl) ?_
    refine lv_iload_n hx hb dX12_power_10 rfl (lv_at hl 2 rfl) ?_
    refine lv_imul hx hb dX12_power_11 ?_
    refine lv_topi (fun v2 ev2 => ?_)
    have tv2 := z_mul ev2 (by decide : (1 : Int32).toInt = 1) (rfl : (mm).toInt = _) (by omega) (by omega)
    refine lv_istore_n (lv' := [(2, .int v2), (3, .int 0), (0, .int mm), (1, .int 2)]) hx hb dX12_power_12 rfl hl (by decide) rfl (fun ls hl => ?_)
    refine lv_iinc (v := 1) (lv' := [(3, .int 1), (2, .int v2), (0, .int mm), (1, .int 2)]) hx hb dX12_power_13 hl (k := 1) rfl (by decide) (by decide) rfl (fun ls hl => ?_)
    refine lv_goto (tgt := 4) hx hb dX12_power_16 (by decide) ?_
    refine lv_iload_n hx hb dX12_power_4 rfl (lv_at hl 0 rfl) ?_
    refine lv_iload_n hx hb dX12_power_5 rfl (lv_at hl 3 rfl) ?_
    refine lv_icmp_ge (tgt := 19) hx hb dX12_power_6 (by decide) (fun c3 => ?_) (fun c3 => ?_)
    · exact absurd c3 (by decide)
    · skip
      refine lv_iload_n hx hb dX12_power_9 rfl (lv_at hl 1 rfl) ?_
      refine lv_iload_n hx hb dX12_power_10 rfl (lv_at hl 2 rfl) ?_
      refine lv_imul hx hb dX12_power_11 ?_
      refine lv_topi (fun v4 ev4 => ?_)
      have tv4 := z_mulb (a1 := 1) (b1 := 3) (a2 := 1) (b2 := 3) ev4 (rfl : (v2 : Int32).toInt = _) (rfl : (mm : Int32).toInt = _) (by omega) (by omega) (by omega) (by omega) (by decide) (by decide) (by decide)
      have : 1 ≤ v4.toInt ∧ v4.toInt ≤ 9 := ⟨by omega, by omega⟩
      refine lv_istore_n (lv' := [(2, .int v4), (3, .int 1), (0, .int mm), (1, .int 2)]) hx hb dX12_power_12 rfl hl (by decide) rfl (fun ls hl => ?_)
      refine lv_iinc (v := 2) (lv' := [(3, .int 2), (2, .int v4), (0, .int mm), (1, .int 2)]) hx hb dX12_power_13 hl (k := 1) rfl (by decide) (by decide) rfl (fun ls hl => ?_)
      refine lv_goto (tgt := 4) hx hb dX12_power_16 (by decide) ?_
      refine lv_iload_n hx hb dX12_power_4 rfl (lv_at hl 0 rfl) ?_
      refine lv_iload_n hx hb dX12_power_5 rfl (lv_at hl 3 rfl) ?_
      refine lv_icmp_ge (tgt := 19) hx hb dX12_power_6 (by decide) (fun c5 => ?_) (fun c5 => ?_)
      · skip
        refine lv_iload_n hx hb dX12_power_19 rfl (lv_at hl 1 rfl) ?_
        exact W.iret (v := v4) hx hb hr (fun t ht9 hW => ⟨v4, rfl, ⟨by omega, by omega⟩, ht9⟩) (fun q hq => by cases hq) dX12_power_20
      · exact absurd c5 (by decide)
set_option maxHeartbeats 4000000 in
set_option maxRecDepth 100000 in
/-- X12_power -/
theorem c_X12_power_3 (l : Launch) (dC : Nat → ClassId) (dI : Nat → Nat → Nat) (mm : Int32) (h_mm : 1 ≤ mm.toInt ∧ mm.toInt ≤ 3) : Met l yX12_power (wc yX12_power cX12_power 4 (some .int)) ({ frames := 0, cells := 0, slots := 0, locals := 0 } : Room) (pR (dC, dI) classes [] [] [.int mm, .int 3]) (vp_Si (fun r => 1 ≤ r.toInt ∧ r.toInt ≤ 27)) 0 0 (fun _ => False) := by
  refine Met.ofW (cc := cX12_power) (maxL := 4) (ret := (some .int)) (by decide) rfl ?_
  intro p e s m args below meth c s₁ B hml hv
  obtain ⟨rfl, hP, hK⟩ := hv
  have hx := B.exec
  have hb := B.bytes
  have hr := B.returns
  have ht := tb_tl (atoms_spec (ws := wc yX12_power cX12_power 4 (some .int)) B.pre)
  have hown : s.vm.findClass RX12 = some m.cls := findClass_of_methodNamed B.named
  have hlocks := B.notSynchronized
  have hl := lv_entry [.int mm, .int 3] (n := 4) (Nat.le_of_ble_eq_true rfl)
  rw [lg_entry_eq]
  generalize (lg_sl [.int mm, .int 3] ++ List.replicate (4 - (lg_sl [.int mm, .int 3]).length) Slot.unset).toArray = ls at hl ⊢
  have hl : lv_has ls 4 [(0, .int mm), (1, .int 3)] := hl
  refine lv_iconst (v := 1) hx hb dX12_power_0 (by decide) ?_
  refine lv_istore_n (lv' := [(2, .int 1), (0, .int mm), (1, .int 3)]) hx hb dX12_power_1 rfl hl (by decide) rfl (fun ls hl => ?_)
  refine lv_iconst (v := 0) hx hb dX12_power_2 (by decide) ?_
  refine lv_istore_n (lv' := [(3, .int 0), (2, .int 1), (0, .int mm), (1, .int 3)]) hx hb dX12_power_3 rfl hl (by decide) rfl (fun ls hl => ?_)
  refine lv_iload_n hx hb dX12_power_4 rfl (lv_at hl 0 rfl) ?_
  refine lv_iload_n hx hb dX12_power_5 rfl (lv_at hl 3 rfl) ?_
  refine lv_icmp_ge (tgt := 19) hx hb dX12_power_6 (by decide) (fun c1 => ?_) (fun c1 => ?_)
  · exact absurd c1 (by decide)
  · skip
    refine lv_iload_n hx hb dX12_power_9 rfl (lv_at hl 1 rfl) ?_
    refine lv_iload_n hx hb dX12_power_10 rfl (lv_at hl 2 rfl) ?_
    refine lv_imul hx hb dX12_power_11 ?_
    refine lv_topi (fun v2 ev2 => ?_)
    have tv2 := z_mul ev2 (by decide : (1 : Int32).toInt = 1) (rfl : (mm).toInt = _) (by omega) (by omega)
    refine lv_istore_n (lv' := [(2, .int v2), (3, .int 0), (0, .int mm), (1, .int 3)]) hx hb dX12_power_12 rfl hl (by decide) rfl (fun ls hl => ?_)
    refine lv_iinc (v := 1) (lv' := [(3, .int 1), (2, .int v2), (0, .int mm), (1, .int 3)]) hx hb dX12_power_13 hl (k := 1) rfl (by decide) (by decide) rfl (fun ls hl => ?_)
    refine lv_goto (tgt := 4) hx hb dX12_power_16 (by decide) ?_
    refine lv_iload_n hx hb dX12_power_4 rfl (lv_at hl 0 rfl) ?_
    refine lv_iload_n hx hb dX12_power_5 rfl (lv_at hl 3 rfl) ?_
    refine lv_icmp_ge (tgt := 19) hx hb dX12_power_6 (by decide) (fun c3 => ?_) (fun c3 => ?_)
    · exact absurd c3 (by decide)
    · skip
      refine lv_iload_n hx hb dX12_power_9 rfl (lv_at hl 1 rfl) ?_
      refine lv_iload_n hx hb dX12_power_10 rfl (lv_at hl 2 rfl) ?_
      refine lv_imul hx hb dX12_power_11 ?_
      refine lv_topi (fun v4 ev4 => ?_)
      have tv4 := z_mulb (a1 := 1) (b1 := 3) (a2 := 1) (b2 := 3) ev4 (rfl : (v2 : Int32).toInt = _) (rfl : (mm : Int32).toInt = _) (by omega) (by omega) (by omega) (by omega) (by decide) (by decide) (by decide)
      have : 1 ≤ v4.toInt ∧ v4.toInt ≤ 9 := ⟨by omega, by omega⟩
      refine lv_istore_n (lv' := [(2, .int v4), (3, .int 1), (0, .int mm), (1, .int 3)]) hx hb dX12_power_12 rfl hl (by decide) rfl (fun ls hl => ?_)
      refine lv_iinc (v := 2) (lv' := [(3, .int 2), (2, .int v4), (0, .int mm), (1, .int 3)]) hx hb dX12_power_13 hl (k := 1) rfl (by decide) (by decide) rfl (fun ls hl => ?_)
      refine lv_goto (tgt := 4) hx hb dX12_power_16 (by decide) ?_
      refine lv_iload_n hx hb dX12_power_4 rfl (lv_at hl 0 rfl) ?_
      refine lv_iload_n hx hb dX12_power_5 rfl (lv_at hl 3 rfl) ?_
      refine lv_icmp_ge (tgt := 19) hx hb dX12_power_6 (by decide) (fun c5 => ?_) (fun c5 => ?_)
      · exact absurd c5 (by decide)
      · skip
        refine lv_iload_n hx hb dX12_power_9 rfl (lv_at hl 1 rfl) ?_
        refine lv_iload_n hx hb dX12_power_10 rfl (lv_at hl 2 rfl) ?_
        refine lv_imul hx hb dX12_power_11 ?_
        refine lv_topi (fun v6 ev6 => ?_)
        have tv6 := z_mulb (a1 := 1) (b1 := 9) (a2 := 1) (b2 := 3) ev6 (rfl : (v4 : Int32).toInt = _) (rfl : (mm : Int32).toInt = _) (by omega) (by omega) (by omega) (by omega) (by decide) (by decide) (by decide)
        have : 1 ≤ v6.toInt ∧ v6.toInt ≤ 27 := ⟨by omega, by omega⟩
        refine lv_istore_n (lv' := [(2, .int v6), (3, .int 2), (0, .int mm), (1, .int 3)]) hx hb dX12_power_12 rfl hl (by decide) rfl (fun ls hl => ?_)
        refine lv_iinc (v := 3) (lv' := [(3, .int 3), (2, .int v6), (0, .int mm), (1, .int 3)]) hx hb dX12_power_13 hl (k := 1) rfl (by decide) (by decide) rfl (fun ls hl => ?_)
        refine lv_goto (tgt := 4) hx hb dX12_power_16 (by decide) ?_
        refine lv_iload_n hx hb dX12_power_4 rfl (lv_at hl 0 rfl) ?_
        refine lv_iload_n hx hb dX12_power_5 rfl (lv_at hl 3 rfl) ?_
        refine lv_icmp_ge (tgt := 19) hx hb dX12_power_6 (by decide) (fun c7 => ?_) (fun c7 => ?_)
        · skip
          refine lv_iload_n hx hb dX12_power_19 rfl (lv_at hl 1 rfl) ?_
          exact W.iret (v := v6) hx hb hr (fun t ht9 hW => ⟨v6, rfl, ⟨by omega, by omega⟩, ht9⟩) (fun q hq => by cases hq) dX12_power_20
        · exact absurd c7 (by decide)
set_option maxHeartbeats 4000000 in
set_option maxRecDepth 100000 in
/-- X12_power -/
theorem c_X12_power_4 (l : Launch) (dC : Nat → ClassId) (dI : Nat → Nat → Nat) (mm : Int32) (h_mm : 1 ≤ mm.toInt ∧ mm.toInt ≤ 3) : Met l yX12_power (wc yX12_power cX12_power 4 (some .int)) ({ frames := 0, cells := 0, slots := 0, locals := 0 } : Room) (pR (dC, dI) classes [] [] [.int mm, .int 4]) (vp_Si (fun r => 1 ≤ r.toInt ∧ r.toInt ≤ 81)) 0 0 (fun _ => False) := by
  refine Met.ofW (cc := cX12_power) (maxL := 4) (ret := (some .int)) (by decide) rfl ?_
  intro p e s m args below meth c s₁ B hml hv
  obtain ⟨rfl, hP, hK⟩ := hv
  have hx := B.exec
  have hb := B.bytes
  have hr := B.returns
  have ht := tb_tl (atoms_spec (ws := wc yX12_power cX12_power 4 (some .int)) B.pre)
  have hown : s.vm.findClass RX12 = some m.cls := findClass_of_methodNamed B.named
  have hlocks := B.notSynchronized
  have hl := lv_entry [.int mm, .int 4] (n := 4) (Nat.le_of_ble_eq_true rfl)
  rw [lg_entry_eq]
  generalize (lg_sl [.int mm, .int 4] ++ List.replicate (4 - (lg_sl [.int mm, .int 4]).length) Slot.unset).toArray = ls at hl ⊢
  have hl : lv_has ls 4 [(0, .int mm), (1, .int 4)] := hl
  refine lv_iconst (v := 1) hx hb dX12_power_0 (by decide) ?_
  refine lv_istore_n (lv' := [(2, .int 1), (0, .int mm), (1, .int 4)]) hx hb dX12_power_1 rfl hl (by decide) rfl (fun ls hl => ?_)
  refine lv_iconst (v := 0) hx hb dX12_power_2 (by decide) ?_
  refine lv_istore_n (lv' := [(3, .int 0), (2, .int 1), (0, .int mm), (1, .int 4)]) hx hb dX12_power_3 rfl hl (by decide) rfl (fun ls hl => ?_)
  refine lv_iload_n hx hb dX12_power_4 rfl (lv_at hl 0 rfl) ?_
  refine lv_iload_n hx hb dX12_power_5 rfl (lv_at hl 3 rfl) ?_
  refine lv_icmp_ge (tgt := 19) hx hb dX12_power_6 (by decide) (fun c1 => ?_) (fun c1 => ?_)
  · exact absurd c1 (by decide)
  · skip
    refine lv_iload_n hx hb dX12_power_9 rfl (lv_at hl 1 rfl) ?_
    refine lv_iload_n hx hb dX12_power_10 rfl (lv_at hl 2 rfl) ?_
    refine lv_imul hx hb dX12_power_11 ?_
    refine lv_topi (fun v2 ev2 => ?_)
    have tv2 := z_mul ev2 (by decide : (1 : Int32).toInt = 1) (rfl : (mm).toInt = _) (by omega) (by omega)
    refine lv_istore_n (lv' := [(2, .int v2), (3, .int 0), (0, .int mm), (1, .int 4)]) hx hb dX12_power_12 rfl hl (by decide) rfl (fun ls hl => ?_)
    refine lv_iinc (v := 1) (lv' := [(3, .int 1), (2, .int v2), (0, .int mm), (1, .int 4)]) hx hb dX12_power_13 hl (k := 1) rfl (by decide) (by decide) rfl (fun ls hl => ?_)
    refine lv_goto (tgt := 4) hx hb dX12_power_16 (by decide) ?_
    refine lv_iload_n hx hb dX12_power_4 rfl (lv_at hl 0 rfl) ?_
    refine lv_iload_n hx hb dX12_power_5 rfl (lv_at hl 3 rfl) ?_
    refine lv_icmp_ge (tgt := 19) hx hb dX12_power_6 (by decide) (fun c3 => ?_) (fun c3 => ?_)
    · exact absurd c3 (by decide)
    · skip
      refine lv_iload_n hx hb dX12_power_9 rfl (lv_at hl 1 rfl) ?_
      refine lv_iload_n hx hb dX12_power_10 rfl (lv_at hl 2 rfl) ?_
      refine lv_imul hx hb dX12_power_11 ?_
      refine lv_topi (fun v4 ev4 => ?_)
      have tv4 := z_mulb (a1 := 1) (b1 := 3) (a2 := 1) (b2 := 3) ev4 (rfl : (v2 : Int32).toInt = _) (rfl : (mm : Int32).toInt = _) (by omega) (by omega) (by omega) (by omega) (by decide) (by decide) (by decide)
      have : 1 ≤ v4.toInt ∧ v4.toInt ≤ 9 := ⟨by omega, by omega⟩
      refine lv_istore_n (lv' := [(2, .int v4), (3, .int 1), (0, .int mm), (1, .int 4)]) hx hb dX12_power_12 rfl hl (by decide) rfl (fun ls hl => ?_)
      refine lv_iinc (v := 2) (lv' := [(3, .int 2), (2, .int v4), (0, .int mm), (1, .int 4)]) hx hb dX12_power_13 hl (k := 1) rfl (by decide) (by decide) rfl (fun ls hl => ?_)
      refine lv_goto (tgt := 4) hx hb dX12_power_16 (by decide) ?_
      refine lv_iload_n hx hb dX12_power_4 rfl (lv_at hl 0 rfl) ?_
      refine lv_iload_n hx hb dX12_power_5 rfl (lv_at hl 3 rfl) ?_
      refine lv_icmp_ge (tgt := 19) hx hb dX12_power_6 (by decide) (fun c5 => ?_) (fun c5 => ?_)
      · exact absurd c5 (by decide)
      · skip
        refine lv_iload_n hx hb dX12_power_9 rfl (lv_at hl 1 rfl) ?_
        refine lv_iload_n hx hb dX12_power_10 rfl (lv_at hl 2 rfl) ?_
        refine lv_imul hx hb dX12_power_11 ?_
        refine lv_topi (fun v6 ev6 => ?_)
        have tv6 := z_mulb (a1 := 1) (b1 := 9) (a2 := 1) (b2 := 3) ev6 (rfl : (v4 : Int32).toInt = _) (rfl : (mm : Int32).toInt = _) (by omega) (by omega) (by omega) (by omega) (by decide) (by decide) (by decide)
        have : 1 ≤ v6.toInt ∧ v6.toInt ≤ 27 := ⟨by omega, by omega⟩
        refine lv_istore_n (lv' := [(2, .int v6), (3, .int 2), (0, .int mm), (1, .int 4)]) hx hb dX12_power_12 rfl hl (by decide) rfl (fun ls hl => ?_)
        refine lv_iinc (v := 3) (lv' := [(3, .int 3), (2, .int v6), (0, .int mm), (1, .int 4)]) hx hb dX12_power_13 hl (k := 1) rfl (by decide) (by decide) rfl (fun ls hl => ?_)
        refine lv_goto (tgt := 4) hx hb dX12_power_16 (by decide) ?_
        refine lv_iload_n hx hb dX12_power_4 rfl (lv_at hl 0 rfl) ?_
        refine lv_iload_n hx hb dX12_power_5 rfl (lv_at hl 3 rfl) ?_
        refine lv_icmp_ge (tgt := 19) hx hb dX12_power_6 (by decide) (fun c7 => ?_) (fun c7 => ?_)
        · exact absurd c7 (by decide)
        · skip
          refine lv_iload_n hx hb dX12_power_9 rfl (lv_at hl 1 rfl) ?_
          refine lv_iload_n hx hb dX12_power_10 rfl (lv_at hl 2 rfl) ?_
          refine lv_imul hx hb dX12_power_11 ?_
          refine lv_topi (fun v8 ev8 => ?_)
          have tv8 := z_mulb (a1 := 1) (b1 := 27) (a2 := 1) (b2 := 3) ev8 (rfl : (v6 : Int32).toInt = _) (rfl : (mm : Int32).toInt = _) (by omega) (by omega) (by omega) (by omega) (by decide) (by decide) (by decide)
          have : 1 ≤ v8.toInt ∧ v8.toInt ≤ 81 := ⟨by omega, by omega⟩
          refine lv_istore_n (lv' := [(2, .int v8), (3, .int 3), (0, .int mm), (1, .int 4)]) hx hb dX12_power_12 rfl hl (by decide) rfl (fun ls hl => ?_)
          refine lv_iinc (v := 4) (lv' := [(3, .int 4), (2, .int v8), (0, .int mm), (1, .int 4)]) hx hb dX12_power_13 hl (k := 1) rfl (by decide) (by decide) rfl (fun ls hl => ?_)
          refine lv_goto (tgt := 4) hx hb dX12_power_16 (by decide) ?_
          refine lv_iload_n hx hb dX12_power_4 rfl (lv_at hl 0 rfl) ?_
          refine lv_iload_n hx hb dX12_power_5 rfl (lv_at hl 3 rfl) ?_
          refine lv_icmp_ge (tgt := 19) hx hb dX12_power_6 (by decide) (fun c9 => ?_) (fun c9 => ?_)
          · skip
            refine lv_iload_n hx hb dX12_power_19 rfl (lv_at hl 1 rfl) ?_
            exact W.iret (v := v8) hx hb hr (fun t ht9 hW => ⟨v8, rfl, ⟨by omega, by omega⟩, ht9⟩) (fun q hq => by cases hq) dX12_power_20
          · exact absurd c9 (by decide)
set_option maxHeartbeats 4000000 in
set_option maxRecDepth 100000 in
/-- X12_power -/
theorem c_X12_power_5 (l : Launch) (dC : Nat → ClassId) (dI : Nat → Nat → Nat) (mm : Int32) (h_mm : 1 ≤ mm.toInt ∧ mm.toInt ≤ 3) : Met l yX12_power (wc yX12_power cX12_power 4 (some .int)) ({ frames := 0, cells := 0, slots := 0, locals := 0 } : Room) (pR (dC, dI) classes [] [] [.int mm, .int 5]) (vp_Si (fun r => 1 ≤ r.toInt ∧ r.toInt ≤ 243)) 0 0 (fun _ => False) := by
  refine Met.ofW (cc := cX12_power) (maxL := 4) (ret := (some .int)) (by decide) rfl ?_
  intro p e s m args below meth c s₁ B hml hv
  obtain ⟨rfl, hP, hK⟩ := hv
  have hx := B.exec
  have hb := B.bytes
  have hr := B.returns
  have ht := tb_tl (atoms_spec (ws := wc yX12_power cX12_power 4 (some .int)) B.pre)
  have hown : s.vm.findClass RX12 = some m.cls := findClass_of_methodNamed B.named
  have hlocks := B.notSynchronized
  have hl := lv_entry [.int mm, .int 5] (n := 4) (Nat.le_of_ble_eq_true rfl)
  rw [lg_entry_eq]
  generalize (lg_sl [.int mm, .int 5] ++ List.replicate (4 - (lg_sl [.int mm, .int 5]).length) Slot.unset).toArray = ls at hl ⊢
  have hl : lv_has ls 4 [(0, .int mm), (1, .int 5)] := hl
  refine lv_iconst (v := 1) hx hb dX12_power_0 (by decide) ?_
  refine lv_istore_n (lv' := [(2, .int 1), (0, .int mm), (1, .int 5)]) hx hb dX12_power_1 rfl hl (by decide) rfl (fun ls hl => ?_)
  refine lv_iconst (v := 0) hx hb dX12_power_2 (by decide) ?_
  refine lv_istore_n (lv' := [(3, .int 0), (2, .int 1), (0, .int mm), (1, .int 5)]) hx hb dX12_power_3 rfl hl (by decide) rfl (fun ls hl => ?_)
  refine lv_iload_n hx hb dX12_power_4 rfl (lv_at hl 0 rfl) ?_
  refine lv_iload_n hx hb dX12_power_5 rfl (lv_at hl 3 rfl) ?_
  refine lv_icmp_ge (tgt := 19) hx hb dX12_power_6 (by decide) (fun c1 => ?_) (fun c1 => ?_)
  · exact absurd c1 (by decide)
  · skip
    refine lv_iload_n hx hb dX12_power_9 rfl (lv_at hl 1 rfl) ?_
    refine lv_iload_n hx hb dX12_power_10 rfl (lv_at hl 2 rfl) ?_
    refine lv_imul hx hb dX12_power_11 ?_
    refine lv_topi (fun v2 ev2 => ?_)
    have tv2 := z_mul ev2 (by decide : (1 : Int32).toInt = 1) (rfl : (mm).toInt = _) (by omega) (by omega)
    refine lv_istore_n (lv' := [(2, .int v2), (3, .int 0), (0, .int mm), (1, .int 5)]) hx hb dX12_power_12 rfl hl (by decide) rfl (fun ls hl => ?_)
    refine lv_iinc (v := 1) (lv' := [(3, .int 1), (2, .int v2), (0, .int mm), (1, .int 5)]) hx hb dX12_power_13 hl (k := 1) rfl (by decide) (by decide) rfl (fun ls hl => ?_)
    refine lv_goto (tgt := 4) hx hb dX12_power_16 (by decide) ?_
    refine lv_iload_n hx hb dX12_power_4 rfl (lv_at hl 0 rfl) ?_
    refine lv_iload_n hx hb dX12_power_5 rfl (lv_at hl 3 rfl) ?_
    refine lv_icmp_ge (tgt := 19) hx hb dX12_power_6 (by decide) (fun c3 => ?_) (fun c3 => ?_)
    · exact absurd c3 (by decide)
    · skip
      refine lv_iload_n hx hb dX12_power_9 rfl (lv_at hl 1 rfl) ?_
      refine lv_iload_n hx hb dX12_power_10 rfl (lv_at hl 2 rfl) ?_
      refine lv_imul hx hb dX12_power_11 ?_
      refine lv_topi (fun v4 ev4 => ?_)
      have tv4 := z_mulb (a1 := 1) (b1 := 3) (a2 := 1) (b2 := 3) ev4 (rfl : (v2 : Int32).toInt = _) (rfl : (mm : Int32).toInt = _) (by omega) (by omega) (by omega) (by omega) (by decide) (by decide) (by decide)
      have : 1 ≤ v4.toInt ∧ v4.toInt ≤ 9 := ⟨by omega, by omega⟩
      refine lv_istore_n (lv' := [(2, .int v4), (3, .int 1), (0, .int mm), (1, .int 5)]) hx hb dX12_power_12 rfl hl (by decide) rfl (fun ls hl => ?_)
      refine lv_iinc (v := 2) (lv' := [(3, .int 2), (2, .int v4), (0, .int mm), (1, .int 5)]) hx hb dX12_power_13 hl (k := 1) rfl (by decide) (by decide) rfl (fun ls hl => ?_)
      refine lv_goto (tgt := 4) hx hb dX12_power_16 (by decide) ?_
      refine lv_iload_n hx hb dX12_power_4 rfl (lv_at hl 0 rfl) ?_
      refine lv_iload_n hx hb dX12_power_5 rfl (lv_at hl 3 rfl) ?_
      refine lv_icmp_ge (tgt := 19) hx hb dX12_power_6 (by decide) (fun c5 => ?_) (fun c5 => ?_)
      · exact absurd c5 (by decide)
      · skip
        refine lv_iload_n hx hb dX12_power_9 rfl (lv_at hl 1 rfl) ?_
        refine lv_iload_n hx hb dX12_power_10 rfl (lv_at hl 2 rfl) ?_
        refine lv_imul hx hb dX12_power_11 ?_
        refine lv_topi (fun v6 ev6 => ?_)
        have tv6 := z_mulb (a1 := 1) (b1 := 9) (a2 := 1) (b2 := 3) ev6 (rfl : (v4 : Int32).toInt = _) (rfl : (mm : Int32).toInt = _) (by omega) (by omega) (by omega) (by omega) (by decide) (by decide) (by decide)
        have : 1 ≤ v6.toInt ∧ v6.toInt ≤ 27 := ⟨by omega, by omega⟩
        refine lv_istore_n (lv' := [(2, .int v6), (3, .int 2), (0, .int mm), (1, .int 5)]) hx hb dX12_power_12 rfl hl (by decide) rfl (fun ls hl => ?_)
        refine lv_iinc (v := 3) (lv' := [(3, .int 3), (2, .int v6), (0, .int mm), (1, .int 5)]) hx hb dX12_power_13 hl (k := 1) rfl (by decide) (by decide) rfl (fun ls hl => ?_)
        refine lv_goto (tgt := 4) hx hb dX12_power_16 (by decide) ?_
        refine lv_iload_n hx hb dX12_power_4 rfl (lv_at hl 0 rfl) ?_
        refine lv_iload_n hx hb dX12_power_5 rfl (lv_at hl 3 rfl) ?_
        refine lv_icmp_ge (tgt := 19) hx hb dX12_power_6 (by decide) (fun c7 => ?_) (fun c7 => ?_)
        · exact absurd c7 (by decide)
        · skip
          refine lv_iload_n hx hb dX12_power_9 rfl (lv_at hl 1 rfl) ?_
          refine lv_iload_n hx hb dX12_power_10 rfl (lv_at hl 2 rfl) ?_
          refine lv_imul hx hb dX12_power_11 ?_
          refine lv_topi (fun v8 ev8 => ?_)
          have tv8 := z_mulb (a1 := 1) (b1 := 27) (a2 := 1) (b2 := 3) ev8 (rfl : (v6 : Int32).toInt = _) (rfl : (mm : Int32).toInt = _) (by omega) (by omega) (by omega) (by omega) (by decide) (by decide) (by decide)
          have : 1 ≤ v8.toInt ∧ v8.toInt ≤ 81 := ⟨by omega, by omega⟩
          refine lv_istore_n (lv' := [(2, .int v8), (3, .int 3), (0, .int mm), (1, .int 5)]) hx hb dX12_power_12 rfl hl (by decide) rfl (fun ls hl => ?_)
          refine lv_iinc (v := 4) (lv' := [(3, .int 4), (2, .int v8), (0, .int mm), (1, .int 5)]) hx hb dX12_power_13 hl (k := 1) rfl (by decide) (by decide) rfl (fun ls hl => ?_)
          refine lv_goto (tgt := 4) hx hb dX12_power_16 (by decide) ?_
          refine lv_iload_n hx hb dX12_power_4 rfl (lv_at hl 0 rfl) ?_
          refine lv_iload_n hx hb dX12_power_5 rfl (lv_at hl 3 rfl) ?_
          refine lv_icmp_ge (tgt := 19) hx hb dX12_power_6 (by decide) (fun c9 => ?_) (fun c9 => ?_)
          · exact absurd c9 (by decide)
          · skip
            refine lv_iload_n hx hb dX12_power_9 rfl (lv_at hl 1 rfl) ?_
            refine lv_iload_n hx hb dX12_power_10 rfl (lv_at hl 2 rfl) ?_
            refine lv_imul hx hb dX12_power_11 ?_
            refine lv_topi (fun v10 ev10 => ?_)
            have tv10 := z_mulb (a1 := 1) (b1 := 81) (a2 := 1) (b2 := 3) ev10 (rfl : (v8 : Int32).toInt = _) (rfl : (mm : Int32).toInt = _) (by omega) (by omega) (by omega) (by omega) (by decide) (by decide) (by decide)
            have : 1 ≤ v10.toInt ∧ v10.toInt ≤ 243 := ⟨by omega, by omega⟩
            refine lv_istore_n (lv' := [(2, .int v10), (3, .int 4), (0, .int mm), (1, .int 5)]) hx hb dX12_power_12 rfl hl (by decide) rfl (fun ls hl => ?_)
            refine lv_iinc (v := 5) (lv' := [(3, .int 5), (2, .int v10), (0, .int mm), (1, .int 5)]) hx hb dX12_power_13 hl (k := 1) rfl (by decide) (by decide) rfl (fun ls hl => ?_)
            refine lv_goto (tgt := 4) hx hb dX12_power_16 (by decide) ?_
            refine lv_iload_n hx hb dX12_power_4 rfl (lv_at hl 0 rfl) ?_
            refine lv_iload_n hx hb dX12_power_5 rfl (lv_at hl 3 rfl) ?_
            refine lv_icmp_ge (tgt := 19) hx hb dX12_power_6 (by decide) (fun c11 => ?_) (fun c11 => ?_)
            · skip
              refine lv_iload_n hx hb dX12_power_19 rfl (lv_at hl 1 rfl) ?_
              exact W.iret (v := v10) hx hb hr (fun t ht9 hW => ⟨v10, rfl, ⟨by omega, by omega⟩, ht9⟩) (fun q hq => by cases hq) dX12_power_20
            · exact absurd c11 (by decide)
set_option maxHeartbeats 4000000 in
set_option maxRecDepth 100000 in
/-- X12_power -/
theorem c_X12_power_6 (l : Launch) (dC : Nat → ClassId) (dI : Nat → Nat → Nat) (mm : Int32) (h_mm : 1 ≤ mm.toInt ∧ mm.toInt ≤ 3) : Met l yX12_power (wc yX12_power cX12_power 4 (some .int)) ({ frames := 0, cells := 0, slots := 0, locals := 0 } : Room) (pR (dC, dI) classes [] [] [.int mm, .int 6]) (vp_Si (fun r => 1 ≤ r.toInt ∧ r.toInt ≤ 729)) 0 0 (fun _ => False) := by
  refine Met.ofW (cc := cX12_power) (maxL := 4) (ret := (some .int)) (by decide) rfl ?_
  intro p e s m args below meth c s₁ B hml hv
  obtain ⟨rfl, hP, hK⟩ := hv
  have hx := B.exec
  have hb := B.bytes
  have hr := B.returns
  have ht := tb_tl (atoms_spec (ws := wc yX12_power cX12_power 4 (some .int)) B.pre)
  have hown : s.vm.findClass RX12 = some m.cls := findClass_of_methodNamed B.named
  have hlocks := B.notSynchronized
  have hl := lv_entry [.int mm, .int 6] (n := 4) (Nat.le_of_ble_eq_true rfl)
  rw [lg_entry_eq]
  generalize (lg_sl [.int mm, .int 6] ++ List.replicate (4 - (lg_sl [.int mm, .int 6]).length) Slot.unset).toArray = ls at hl ⊢
  have hl : lv_has ls 4 [(0, .int mm), (1, .int 6)] := hl
  refine lv_iconst (v := 1) hx hb dX12_power_0 (by decide) ?_
  refine lv_istore_n (lv' := [(2, .int 1), (0, .int mm), (1, .int 6)]) hx hb dX12_power_1 rfl hl (by decide) rfl (fun ls hl => ?_)
  refine lv_iconst (v := 0) hx hb dX12_power_2 (by decide) ?_
  refine lv_istore_n (lv' := [(3, .int 0), (2, .int 1), (0, .int mm), (1, .int 6)]) hx hb dX12_power_3 rfl hl (by decide) rfl (fun ls hl => ?_)
  refine lv_iload_n hx hb dX12_power_4 rfl (lv_at hl 0 rfl) ?_
  refine lv_iload_n hx hb dX12_power_5 rfl (lv_at hl 3 rfl) ?_
  refine lv_icmp_ge (tgt := 19) hx hb dX12_power_6 (by decide) (fun c1 => ?_) (fun c1 => ?_)
  · exact absurd c1 (by decide)
  · skip
    refine lv_iload_n hx hb dX12_power_9 rfl (lv_at hl 1 rfl) ?_
    refine lv_iload_n hx hb dX12_power_10 rfl (lv_at hl 2 rfl) ?_
    refine lv_imul hx hb dX12_power_11 ?_
    refine lv_topi (fun v2 ev2 => ?_)
    have tv2 := z_mul ev2 (by decide : (1 : Int32).toInt = 1) (rfl : (mm).toInt = _) (by omega) (by omega)
    refine lv_istore_n (lv' := [(2, .int v2), (3, .int 0), (0, .int mm), (1, .int 6)]) hx hb dX12_power_12 rfl hl (by decide) rfl (fun ls hl => ?_)
    refine lv_iinc (v := 1) (lv' := [(3, .int 1), (2, .int v2), (0, .int mm), (1, .int 6)]) hx hb dX12_power_13 hl (k := 1) rfl (by decide) (by decide) rfl (fun ls hl => ?_)
    refine lv_goto (tgt := 4) hx hb dX12_power_16 (by decide) ?_
    refine lv_iload_n hx hb dX12_power_4 rfl (lv_at hl 0 rfl) ?_
    refine lv_iload_n hx hb dX12_power_5 rfl (lv_at hl 3 rfl) ?_
    refine lv_icmp_ge (tgt := 19) hx hb dX12_power_6 (by decide) (fun c3 => ?_) (fun c3 => ?_)
    · exact absurd c3 (by decide)
    · skip
      refine lv_iload_n hx hb dX12_power_9 rfl (lv_at hl 1 rfl) ?_
      refine lv_iload_n hx hb dX12_power_10 rfl (lv_at hl 2 rfl) ?_
      refine lv_imul hx hb dX12_power_11 ?_
      refine lv_topi (fun v4 ev4 => ?_)
      have tv4 := z_mulb (a1 := 1) (b1 := 3) (a2 := 1) (b2 := 3) ev4 (rfl : (v2 : Int32).toInt = _) (rfl : (mm : Int32).toInt = _) (by omega) (by omega) (by omega) (by omega) (by decide) (by decide) (by decide)
      have : 1 ≤ v4.toInt ∧ v4.toInt ≤ 9 := ⟨by omega, by omega⟩
      refine lv_istore_n (lv' := [(2, .int v4), (3, .int 1), (0, .int mm), (1, .int 6)]) hx hb dX12_power_12 rfl hl (by decide) rfl (fun ls hl => ?_)
      refine lv_iinc (v := 2) (lv' := [(3, .int 2), (2, .int v4), (0, .int mm), (1, .int 6)]) hx hb dX12_power_13 hl (k := 1) rfl (by decide) (by decide) rfl (fun ls hl => ?_)
      refine lv_goto (tgt := 4) hx hb dX12_power_16 (by decide) ?_
      refine lv_iload_n hx hb dX12_power_4 rfl (lv_at hl 0 rfl) ?_
      refine lv_iload_n hx hb dX12_power_5 rfl (lv_at hl 3 rfl) ?_
      refine lv_icmp_ge (tgt := 19) hx hb dX12_power_6 (by decide) (fun c5 => ?_) (fun c5 => ?_)
      · exact absurd c5 (by decide)
      · skip
        refine lv_iload_n hx hb dX12_power_9 rfl (lv_at hl 1 rfl) ?_
        refine lv_iload_n hx hb dX12_power_10 rfl (lv_at hl 2 rfl) ?_
        refine lv_imul hx hb dX12_power_11 ?_
        refine lv_topi (fun v6 ev6 => ?_)
        have tv6 := z_mulb (a1 := 1) (b1 := 9) (a2 := 1) (b2 := 3) ev6 (rfl : (v4 : Int32).toInt = _) (rfl : (mm : Int32).toInt = _) (by omega) (by omega) (by omega) (by omega) (by decide) (by decide) (by decide)
        have : 1 ≤ v6.toInt ∧ v6.toInt ≤ 27 := ⟨by omega, by omega⟩
        refine lv_istore_n (lv' := [(2, .int v6), (3, .int 2), (0, .int mm), (1, .int 6)]) hx hb dX12_power_12 rfl hl (by decide) rfl (fun ls hl => ?_)
        refine lv_iinc (v := 3) (lv' := [(3, .int 3), (2, .int v6), (0, .int mm), (1, .int 6)]) hx hb dX12_power_13 hl (k := 1) rfl (by decide) (by decide) rfl (fun ls hl => ?_)
        refine lv_goto (tgt := 4) hx hb dX12_power_16 (by decide) ?_
        refine lv_iload_n hx hb dX12_power_4 rfl (lv_at hl 0 rfl) ?_
        refine lv_iload_n hx hb dX12_power_5 rfl (lv_at hl 3 rfl) ?_
        refine lv_icmp_ge (tgt := 19) hx hb dX12_power_6 (by decide) (fun c7 => ?_) (fun c7 => ?_)
        · exact absurd c7 (by decide)
        · skip
          refine lv_iload_n hx hb dX12_power_9 rfl (lv_at hl 1 rfl) ?_
          refine lv_iload_n hx hb dX12_power_10 rfl (lv_at hl 2 rfl) ?_
          refine lv_imul hx hb dX12_power_11 ?_
          refine lv_topi (fun v8 ev8 => ?_)
          have tv8 := z_mulb (a1 := 1) (b1 := 27) (a2 := 1) (b2 := 3) ev8 (rfl : (v6 : Int32).toInt = _) (rfl : (mm : Int32).toInt = _) (by omega) (by omega) (by omega) (by omega) (by decide) (by decide) (by decide)
          have : 1 ≤ v8.toInt ∧ v8.toInt ≤ 81 := ⟨by omega, by omega⟩
          refine lv_istore_n (lv' := [(2, .int v8), (3, .int 3), (0, .int mm), (1, .int 6)]) hx hb dX12_power_12 rfl hl (by decide) rfl (fun ls hl => ?_)
          refine lv_iinc (v := 4) (lv' := [(3, .int 4), (2, .int v8), (0, .int mm), (1, .int 6)]) hx hb dX12_power_13 hl (k := 1) rfl (by decide) (by decide) rfl (fun ls hl => ?_)
          refine lv_goto (tgt := 4) hx hb dX12_power_16 (by decide) ?_
          refine lv_iload_n hx hb dX12_power_4 rfl (lv_at hl 0 rfl) ?_
          refine lv_iload_n hx hb dX12_power_5 rfl (lv_at hl 3 rfl) ?_
          refine lv_icmp_ge (tgt := 19) hx hb dX12_power_6 (by decide) (fun c9 => ?_) (fun c9 => ?_)
          · exact absurd c9 (by decide)
          · skip
            refine lv_iload_n hx hb dX12_power_9 rfl (lv_at hl 1 rfl) ?_
            refine lv_iload_n hx hb dX12_power_10 rfl (lv_at hl 2 rfl) ?_
            refine lv_imul hx hb dX12_power_11 ?_
            refine lv_topi (fun v10 ev10 => ?_)
            have tv10 := z_mulb (a1 := 1) (b1 := 81) (a2 := 1) (b2 := 3) ev10 (rfl : (v8 : Int32).toInt = _) (rfl : (mm : Int32).toInt = _) (by omega) (by omega) (by omega) (by omega) (by decide) (by decide) (by decide)
            have : 1 ≤ v10.toInt ∧ v10.toInt ≤ 243 := ⟨by omega, by omega⟩
            refine lv_istore_n (lv' := [(2, .int v10), (3, .int 4), (0, .int mm), (1, .int 6)]) hx hb dX12_power_12 rfl hl (by decide) rfl (fun ls hl => ?_)
            refine lv_iinc (v := 5) (lv' := [(3, .int 5), (2, .int v10), (0, .int mm), (1, .int 6)]) hx hb dX12_power_13 hl (k := 1) rfl (by decide) (by decide) rfl (fun ls hl => ?_)
            refine lv_goto (tgt := 4) hx hb dX12_power_16 (by decide) ?_
            refine lv_iload_n hx hb dX12_power_4 rfl (lv_at hl 0 rfl) ?_
            refine lv_iload_n hx hb dX12_power_5 rfl (lv_at hl 3 rfl) ?_
            refine lv_icmp_ge (tgt := 19) hx hb dX12_power_6 (by decide) (fun c11 => ?_) (fun c11 => ?_)
            · exact absurd c11 (by decide)
            · skip
              refine lv_iload_n hx hb dX12_power_9 rfl (lv_at hl 1 rfl) ?_
              refine lv_iload_n hx hb dX12_power_10 rfl (lv_at hl 2 rfl) ?_
              refine lv_imul hx hb dX12_power_11 ?_
              refine lv_topi (fun v12 ev12 => ?_)
              have tv12 := z_mulb (a1 := 1) (b1 := 243) (a2 := 1) (b2 := 3) ev12 (rfl : (v10 : Int32).toInt = _) (rfl : (mm : Int32).toInt = _) (by omega) (by omega) (by omega) (by omega) (by decide) (by decide) (by decide)
              have : 1 ≤ v12.toInt ∧ v12.toInt ≤ 729 := ⟨by omega, by omega⟩
              refine lv_istore_n (lv' := [(2, .int v12), (3, .int 5), (0, .int mm), (1, .int 6)]) hx hb dX12_power_12 rfl hl (by decide) rfl (fun ls hl => ?_)
              refine lv_iinc (v := 6) (lv' := [(3, .int 6), (2, .int v12), (0, .int mm), (1, .int 6)]) hx hb dX12_power_13 hl (k := 1) rfl (by decide) (by decide) rfl (fun ls hl => ?_)
              refine lv_goto (tgt := 4) hx hb dX12_power_16 (by decide) ?_
              refine lv_iload_n hx hb dX12_power_4 rfl (lv_at hl 0 rfl) ?_
              refine lv_iload_n hx hb dX12_power_5 rfl (lv_at hl 3 rfl) ?_
              refine lv_icmp_ge (tgt := 19) hx hb dX12_power_6 (by decide) (fun c13 => ?_) (fun c13 => ?_)
              · skip
                refine lv_iload_n hx hb dX12_power_19 rfl (lv_at hl 1 rfl) ?_
                exact W.iret (v := v12) hx hb hr (fun t ht9 hW => ⟨v12, rfl, ⟨by omega, by omega⟩, ht9⟩) (fun q hq => by cases hq) dX12_power_20
              · exact absurd c13 (by decide)
set_option maxHeartbeats 4000000 in
set_option maxRecDepth 100000 in
/-- X12_power -/
theorem c_X12_power_7 (l : Launch) (dC : Nat → ClassId) (dI : Nat → Nat → Nat) (mm : Int32) (h_mm : 1 ≤ mm.toInt ∧ mm.toInt ≤ 3) : Met l yX12_power (wc yX12_power cX12_power 4 (some .int)) ({ frames := 0, cells := 0, slots := 0, locals := 0 } : Room) (pR (dC, dI) classes [] [] [.int mm, .int 7]) (vp_Si (fun r => 1 ≤ r.toInt ∧ r.toInt ≤ 2187)) 0 0 (fun _ => False) := by
  refine Met.ofW (cc := cX12_power) (maxL := 4) (ret := (some .int)) (by decide) rfl ?_
  intro p e s m args below meth c s₁ B hml hv
  obtain ⟨rfl, hP, hK⟩ := hv
  have hx := B.exec
  have hb := B.bytes
  have hr := B.returns
  have ht := tb_tl (atoms_spec (ws := wc yX12_power cX12_power 4 (some .int)) B.pre)
  have hown : s.vm.findClass RX12 = some m.cls := findClass_of_methodNamed B.named
  have hlocks := B.notSynchronized
  have hl := lv_entry [.int mm, .int 7] (n := 4) (Nat.le_of_ble_eq_true rfl)
  rw [lg_entry_eq]
  generalize (lg_sl [.int mm, .int 7] ++ List.replicate (4 - (lg_sl [.int mm, .int 7]).length) Slot.unset).toArray = ls at hl ⊢
  have hl : lv_has ls 4 [(0, .int mm), (1, .int 7)] := hl
  refine lv_iconst (v := 1) hx hb dX12_power_0 (by decide) ?_
  refine lv_istore_n (lv' := [(2, .int 1), (0, .int mm), (1, .int 7)]) hx hb dX12_power_1 rfl hl (by decide) rfl (fun ls hl => ?_)
  refine lv_iconst (v := 0) hx hb dX12_power_2 (by decide) ?_
  refine lv_istore_n (lv' := [(3, .int 0), (2, .int 1), (0, .int mm), (1, .int 7)]) hx hb dX12_power_3 rfl hl (by decide) rfl (fun ls hl => ?_)
  refine lv_iload_n hx hb dX12_power_4 rfl (lv_at hl 0 rfl) ?_
  refine lv_iload_n hx hb dX12_power_5 rfl (lv_at hl 3 rfl) ?_
  refine lv_icmp_ge (tgt := 19) hx hb dX12_power_6 (by decide) (fun c1 => ?_) (fun c1 => ?_)
  · exact absurd c1 (by decide)
  · skip
    refine lv_iload_n hx hb dX12_power_9 rfl (lv_at hl 1 rfl) ?_
    refine lv_iload_n hx hb dX12_power_10 rfl (lv_at hl 2 rfl) ?_
    refine lv_imul hx hb dX12_power_11 ?_
    refine lv_topi (fun v2 ev2 => ?_)
    have tv2 := z_mul ev2 (by decide : (1 : Int32).toInt = 1) (rfl : (mm).toInt = _) (by omega) (by omega)
    refine lv_istore_n (lv' := [(2, .int v2), (3, .int 0), (0, .int mm), (1, .int 7)]) hx hb dX12_power_12 rfl hl (by decide) rfl (fun ls hl => ?_)
    refine lv_iinc (v := 1) (lv' := [(3, .int 1), (2, .int v2), (0, .int mm), (1, .int 7)]) hx hb dX12_power_13 hl (k := 1) rfl (by decide) (by decide) rfl (fun ls hl => ?_)
    refine lv_goto (tgt := 4) hx hb dX12_power_16 (by decide) ?_
    refine lv_iload_n hx hb dX12_power_4 rfl (lv_at hl 0 rfl) ?_
    refine lv_iload_n hx hb dX12_power_5 rfl (lv_at hl 3 rfl) ?_
    refine lv_icmp_ge (tgt := 19) hx hb dX12_power_6 (by decide) (fun c3 => ?_) (fun c3 => ?_)
    · exact absurd c3 (by decide)
    · skip
      refine lv_iload_n hx hb dX12_power_9 rfl (lv_at hl 1 rfl) ?_
      refine lv_iload_n hx hb dX12_power_10 rfl (lv_at hl 2 rfl) ?_
      refine lv_imul hx hb dX12_power_11 ?_
      refine lv_topi (fun v4 ev4 => ?_)
      have tv4 := z_mulb (a1 := 1) (b1 := 3) (a2 := 1) (b2 := 3) ev4 (rfl : (v2 : Int32).toInt = _) (rfl : (mm : Int32).toInt = _) (by omega) (by omega) (by omega) (by omega) (by decide) (by decide) (by decide)
      have : 1 ≤ v4.toInt ∧ v4.toInt ≤ 9 := ⟨by omega, by omega⟩
      refine lv_istore_n (lv' := [(2, .int v4), (3, .int 1), (0, .int mm), (1, .int 7)]) hx hb dX12_power_12 rfl hl (by decide) rfl (fun ls hl => ?_)
      refine lv_iinc (v := 2) (lv' := [(3, .int 2), (2, .int v4), (0, .int mm), (1, .int 7)]) hx hb dX12_power_13 hl (k := 1) rfl (by decide) (by decide) rfl (fun ls hl => ?_)
      refine lv_goto (tgt := 4) hx hb dX12_power_16 (by decide) ?_
      refine lv_iload_n hx hb dX12_power_4 rfl (lv_at hl 0 rfl) ?_
      refine lv_iload_n hx hb dX12_power_5 rfl (lv_at hl 3 rfl) ?_
      refine lv_icmp_ge (tgt := 19) hx hb dX12_power_6 (by decide) (fun c5 => ?_) (fun c5 => ?_)
      · exact absurd c5 (by decide)
      · skip
        refine lv_iload_n hx hb dX12_power_9 rfl (lv_at hl 1 rfl) ?_
        refine lv_iload_n hx hb dX12_power_10 rfl (lv_at hl 2 rfl) ?_
        refine lv_imul hx hb dX12_power_11 ?_
        refine lv_topi (fun v6 ev6 => ?_)
        have tv6 := z_mulb (a1 := 1) (b1 := 9) (a2 := 1) (b2 := 3) ev6 (rfl : (v4 : Int32).toInt = _) (rfl : (mm : Int32).toInt = _) (by omega) (by omega) (by omega) (by omega) (by decide) (by decide) (by decide)
        have : 1 ≤ v6.toInt ∧ v6.toInt ≤ 27 := ⟨by omega, by omega⟩
        refine lv_istore_n (lv' := [(2, .int v6), (3, .int 2), (0, .int mm), (1, .int 7)]) hx hb dX12_power_12 rfl hl (by decide) rfl (fun ls hl => ?_)
        refine lv_iinc (v := 3) (lv' := [(3, .int 3), (2, .int v6), (0, .int mm), (1, .int 7)]) hx hb dX12_power_13 hl (k := 1) rfl (by decide) (by decide) rfl (fun ls hl => ?_)
        refine lv_goto (tgt := 4) hx hb dX12_power_16 (by decide) ?_
        refine lv_iload_n hx hb dX12_power_4 rfl (lv_at hl 0 rfl) ?_
        refine lv_iload_n hx hb dX12_power_5 rfl (lv_at hl 3 rfl) ?_
        refine lv_icmp_ge (tgt := 19) hx hb dX12_power_6 (by decide) (fun c7 => ?_) (fun c7 => ?_)
        · exact absurd c7 (by decide)
        · skip
          refine lv_iload_n hx hb dX12_power_9 rfl (lv_at hl 1 rfl) ?_
          refine lv_iload_n hx hb dX12_power_10 rfl (lv_at hl 2 rfl) ?_
          refine lv_imul hx hb dX12_power_11 ?_
          refine lv_topi (fun v8 ev8 => ?_)
          have tv8 := z_mulb (a1 := 1) (b1 := 27) (a2 := 1) (b2 := 3) ev8 (rfl : (v6 : Int32).toInt = _) (rfl : (mm : Int32).toInt = _) (by omega) (by omega) (by omega) (by omega) (by decide) (by decide) (by decide)
          have : 1 ≤ v8.toInt ∧ v8.toInt ≤ 81 := ⟨by omega, by omega⟩
          refine lv_istore_n (lv' := [(2, .int v8), (3, .int 3), (0, .int mm), (1, .int 7)]) hx hb dX12_power_12 rfl hl (by decide) rfl (fun ls hl => ?_)
          refine lv_iinc (v := 4) (lv' := [(3, .int 4), (2, .int v8), (0, .int mm), (1, .int 7)]) hx hb dX12_power_13 hl (k := 1) rfl (by decide) (by decide) rfl (fun ls hl => ?_)
          refine lv_goto (tgt := 4) hx hb dX12_power_16 (by decide) ?_
          refine lv_iload_n hx hb dX12_power_4 rfl (lv_at hl 0 rfl) ?_
          refine lv_iload_n hx hb dX12_power_5 rfl (lv_at hl 3 rfl) ?_
          refine lv_icmp_ge (tgt := 19) hx hb dX12_power_6 (by decide) (fun c9 => ?_) (fun c9 => ?_)
          · exact absurd c9 (by decide)
          · skip
            refine lv_iload_n hx hb dX12_power_9 rfl (lv_at hl 1 rfl) ?_
            refine lv_iload_n hx hb dX12_power_10 rfl (lv_at hl 2 rfl) ?_
            refine lv_imul hx hb dX12_power_11 ?_
            refine lv_topi (fun v10 ev10 => ?_)
            have tv10 := z_mulb (a1 := 1) (b1 := 81) (a2 := 1) (b2 := 3) ev10 (rfl : (v8 : Int32).toInt = _) (rfl : (mm : Int32).toInt = _) (by omega) (by omega) (by omega) (by omega) (by decide) (by decide) (by decide)
            have : 1 ≤ v10.toInt ∧ v10.toInt ≤ 243 := ⟨by omega, by omega⟩
            refine lv_istore_n (lv' := [(2, .int v10), (3, .int 4), (0, .int mm), (1, .int 7)]) hx hb dX12_power_12 rfl hl (by decide) rfl (fun ls hl => ?_)
            refine lv_iinc (v := 5) (lv' := [(3, .int 5), (2, .int v10), (0, .int mm), (1, .int 7)]) hx hb dX12_power_13 hl (k := 1) rfl (by decide) (by decide) rfl (fun ls hl => ?_)
            refine lv_goto (tgt := 4) hx hb dX12_power_16 (by decide) ?_
            refine lv_iload_n hx hb dX12_power_4 rfl (lv_at hl 0 rfl) ?_
            refine lv_iload_n hx hb dX12_power_5 rfl (lv_at hl 3 rfl) ?_
            refine lv_icmp_ge (tgt := 19) hx hb dX12_power_6 (by decide) (fun c11 => ?_) (fun c11 => ?_)
            · exact absurd c11 (by decide)
            · skip
              refine lv_iload_n hx hb dX12_power_9 rfl (lv_at hl 1 rfl) ?_
              refine lv_iload_n hx hb dX12_power_10 rfl (lv_at hl 2 rfl) ?_
              refine lv_imul hx hb dX12_power_11 ?_
              refine lv_topi (fun v12 ev12 => ?_)
              have tv12 := z_mulb (a1 := 1) (b1 := 243) (a2 := 1) (b2 := 3) ev12 (rfl : (v10 : Int32).toInt = _) (rfl : (mm : Int32).toInt = _) (by omega) (by omega) (by omega) (by omega) (by decide) (by decide) (by decide)
              have : 1 ≤ v12.toInt ∧ v12.toInt ≤ 729 := ⟨by omega, by omega⟩
              refine lv_istore_n (lv' := [(2, .int v12), (3, .int 5), (0, .int mm), (1, .int 7)]) hx hb dX12_power_12 rfl hl (by decide) rfl (fun ls hl => ?_)
              refine lv_iinc (v := 6) (lv' := [(3, .int 6), (2, .int v12), (0, .int mm), (1, .int 7)]) hx hb dX12_power_13 hl (k := 1) rfl (by decide) (by decide) rfl (fun ls hl => ?_)
              refine lv_goto (tgt := 4) hx hb dX12_power_16 (by decide) ?_
              refine lv_iload_n hx hb dX12_power_4 rfl (lv_at hl 0 rfl) ?_
              refine lv_iload_n hx hb dX12_power_5 rfl (lv_at hl 3 rfl) ?_
              refine lv_icmp_ge (tgt := 19) hx hb dX12_power_6 (by decide) (fun c13 => ?_) (fun c13 => ?_)
              · exact absurd c13 (by decide)
              · skip
                refine lv_iload_n hx hb dX12_power_9 rfl (lv_at hl 1 rfl) ?_
                refine lv_iload_n hx hb dX12_power_10 rfl (lv_at hl 2 rfl) ?_
                refine lv_imul hx hb dX12_power_11 ?_
                refine lv_topi (fun v14 ev14 => ?_)
                have tv14 := z_mulb (a1 := 1) (b1 := 729) (a2 := 1) (b2 := 3) ev14 (rfl : (v12 : Int32).toInt = _) (rfl : (mm : Int32).toInt = _) (by omega) (by omega) (by omega) (by omega) (by decide) (by decide) (by decide)
                have : 1 ≤ v14.toInt ∧ v14.toInt ≤ 2187 := ⟨by omega, by omega⟩
                refine lv_istore_n (lv' := [(2, .int v14), (3, .int 6), (0, .int mm), (1, .int 7)]) hx hb dX12_power_12 rfl hl (by decide) rfl (fun ls hl => ?_)
                refine lv_iinc (v := 7) (lv' := [(3, .int 7), (2, .int v14), (0, .int mm), (1, .int 7)]) hx hb dX12_power_13 hl (k := 1) rfl (by decide) (by decide) rfl (fun ls hl => ?_)
                refine lv_goto (tgt := 4) hx hb dX12_power_16 (by decide) ?_
                refine lv_iload_n hx hb dX12_power_4 rfl (lv_at hl 0 rfl) ?_
                refine lv_iload_n hx hb dX12_power_5 rfl (lv_at hl 3 rfl) ?_
                refine lv_icmp_ge (tgt := 19) hx hb dX12_power_6 (by decide) (fun c15 => ?_) (fun c15 => ?_)
                · skip
                  refine lv_iload_n hx hb dX12_power_19 rfl (lv_at hl 1 rfl) ?_
                  exact W.iret (v := v14) hx hb hr (fun t ht9 hW => ⟨v14, rfl, ⟨by omega, by omega⟩, ht9⟩) (fun q hq => by cases hq) dX12_power_20
                · exact absurd c15 (by decide)
set_option maxHeartbeats 4000000 in
set_option maxRecDepth 100000 in
/-- X12_power -/
theorem c_X12_power_8 (l : Launch) (dC : Nat → ClassId) (dI : Nat → Nat → Nat) (mm : Int32) (h_mm : 1 ≤ mm.toInt ∧ mm.toInt ≤ 3) : Met l yX12_power (wc yX12_power cX12_power 4 (some .int)) ({ frames := 0, cells := 0, slots := 0, locals := 0 } : Room) (pR (dC, dI) classes [] [] [.int mm, .int 8]) (vp_Si (fun r => 1 ≤ r.toInt ∧ r.toInt ≤ 6561)) 0 0 (fun _ => False) := by
  refine Met.ofW (cc := cX12_power) (maxL := 4) (ret := (some .int)) (by decide) rfl ?_
  intro p e s m args below meth c s₁ B hml hv
  obtain ⟨rfl, hP, hK⟩ := hv
  have hx := B.exec
  have hb := B.bytes
  have hr := B.returns
  have ht := tb_tl (atoms_spec (ws := wc yX12_power cX12_power 4 (some .int)) B.pre)
  have hown : s.vm.findClass RX12 = some m.cls := findClass_of_methodNamed B.named
  have hlocks := B.notSynchronized
  have hl := lv_entry [.int mm, .int 8] (n := 4) (Nat.le_of_ble_eq_true rfl)
  rw [lg_entry_eq]
  generalize (lg_sl [.int mm, .int 8] ++ List.replicate (4 - (lg_sl [.int mm, .int 8]).length) Slot.unset).toArray = ls at hl ⊢
  have hl : lv_has ls 4 [(0, .int mm), (1, .int 8)] := hl
  refine lv_iconst (v := 1) hx hb dX12_power_0 (by decide) ?_
  refine lv_istore_n (lv' := [(2, .int 1), (0, .int mm), (1, .int 8)]) hx hb dX12_power_1 rfl hl (by decide) rfl (fun ls hl => ?_)
  refine lv_iconst (v := 0) hx hb dX12_power_2 (by decide) ?_
  refine lv_istore_n (lv' := [(3, .int 0), (2, .int 1), (0, .int mm), (1, .int 8)]) hx hb dX12_power_3 rfl hl (by decide) rfl (fun ls hl => ?_)
  refine lv_iload_n hx hb dX12_power_4 rfl (lv_at hl 0 rfl) ?_
  refine lv_iload_n hx hb dX12_power_5 rfl (lv_at hl 3 rfl) ?_
  refine lv_icmp_ge (tgt := 19) hx hb dX12_power_6 (by decide) (fun c1 => ?_) (fun c1 => ?_)
  · exact absurd c1 (by decide)
  · skip
    refine lv_iload_n hx hb dX12_power_9 rfl (lv_at hl 1 rfl) ?_
    refine lv_iload_n hx hb dX12_power_10 rfl (lv_at hl 2 rfl) ?_
    refine lv_imul hx hb dX12_power_11 ?_
    refine lv_topi (fun v2 ev2 => ?_)
    have tv2 := z_mul ev2 (by decide : (1 : Int32).toInt = 1) (rfl : (mm).toInt = _) (by omega) (by omega)
    refine lv_istore_n (lv' := [(2, .int v2), (3, .int 0), (0, .int mm), (1, .int 8)]) hx hb dX12_power_12 rfl hl (by decide) rfl (fun ls hl => ?_)
    refine lv_iinc (v := 1) (lv' := [(3, .int 1), (2, .int v2), (0, .int mm), (1, .int 8)]) hx hb dX12_power_13 hl (k := 1) rfl (by decide) (by decide) rfl (fun ls hl => ?_)
    refine lv_goto (tgt := 4) hx hb dX12_power_16 (by decide) ?_
    refine lv_iload_n hx hb dX12_power_4 rfl (lv_at hl 0 rfl) ?_
    refine lv_iload_n hx hb dX12_power_5 rfl (lv_at hl 3 rfl) ?_
    refine lv_icmp_ge (tgt := 19) hx hb dX12_power_6 (by decide) (fun c3 => ?_) (fun c3 => ?_)
    · exact absurd c3 (by decide)
    · skip
      refine lv_iload_n hx hb dX12_power_9 rfl (lv_at hl 1 rfl) ?_
      refine lv_iload_n hx hb dX12_power_10 rfl (lv_at hl 2 rfl) ?_
      refine lv_imul hx hb dX12_power_11 ?_
      refine lv_topi (fun v4 ev4 => ?_)
      have tv4 := z_mulb (a1 := 1) (b1 := 3) (a2 := 1) (b2 := 3) ev4 (rfl : (v2 : Int32).toInt = _) (rfl : (mm : Int32).toInt = _) (by omega) (by omega) (by omega) (by omega) (by decide) (by decide) (by decide)
      have : 1 ≤ v4.toInt ∧ v4.toInt ≤ 9 := ⟨by omega, by omega⟩
      refine lv_istore_n (lv' := [(2, .int v4), (3, .int 1), (0, .int mm), (1, .int 8)]) hx hb dX12_power_12 rfl hl (by decide) rfl (fun ls hl => ?_)
      refine lv_iinc (v := 2) (lv' := [(3, .int 2), (2, .int v4), (0, .int mm), (1, .int 8)]) hx hb dX12_power_13 hl (k := 1) rfl (by decide) (by decide) rfl (fun ls hl => ?_)
      refine lv_goto (tgt := 4) hx hb dX12_power_16 (by decide) ?_
      refine lv_iload_n hx hb dX12_power_4 rfl (lv_at hl 0 rfl) ?_
      refine lv_iload_n hx hb dX12_power_5 rfl (lv_at hl 3 rfl) ?_
      refine lv_icmp_ge (tgt := 19) hx hb dX12_power_6 (by decide) (fun c5 => ?_) (fun c5 => ?_)
      · exact absurd c5 (by decide)
      · skip
        refine lv_iload_n hx hb dX12_power_9 rfl (lv_at hl 1 rfl) ?_
        refine lv_iload_n hx hb dX12_power_10 rfl (lv_at hl 2 rfl) ?_
        refine lv_imul hx hb dX12_power_11 ?_
        refine lv_topi (fun v6 ev6 => ?_)
        have tv6 := z_mulb (a1 := 1) (b1 := 9) (a2 := 1) (b2 := 3) ev6 (rfl : (v4 : Int32).toInt = _) (rfl : (mm : Int32).toInt = _) (by omega) (by omega) (by omega) (by omega) (by decide) (by decide) (by decide)
        have : 1 ≤ v6.toInt ∧ v6.toInt ≤ 27 := ⟨by omega, by omega⟩
        refine lv_istore_n (lv' := [(2, .int v6), (3, .int 2), (0, .int mm), (1, .int 8)]) hx hb dX12_power_12 rfl hl (by decide) rfl (fun ls hl => ?_)
        refine lv_iinc (v := 3) (lv' := [(3, .int 3), (2, .int v6), (0, .int mm), (1, .int 8)]) hx hb dX12_power_13 hl (k := 1) rfl (by decide) (by decide) rfl (fun ls hl => ?_)
        refine lv_goto (tgt := 4) hx hb dX12_power_16 (by decide) ?_
        refine lv_iload_n hx hb dX12_power_4 rfl (lv_at hl 0 rfl) ?_
        refine lv_iload_n hx hb dX12_power_5 rfl (lv_at hl 3 rfl) ?_
        refine lv_icmp_ge (tgt := 19) hx hb dX12_power_6 (by decide) (fun c7 => ?_) (fun c7 => ?_)
        · exact absurd c7 (by decide)
        · skip
          refine lv_iload_n hx hb dX12_power_9 rfl (lv_at hl 1 rfl) ?_
          refine lv_iload_n hx hb dX12_power_10 rfl (lv_at hl 2 rfl) ?_
          refine lv_imul hx hb dX12_power_11 ?_
          refine lv_topi (fun v8 ev8 => ?_)
          have tv8 := z_mulb (a1 := 1) (b1 := 27) (a2 := 1) (b2 := 3) ev8 (rfl : (v6 : Int32).toInt = _) (rfl : (mm : Int32).toInt = _) (by omega) (by omega) (by omega) (by omega) (by decide) (by decide) (by decide)
          have : 1 ≤ v8.toInt ∧ v8.toInt ≤ 81 := ⟨by omega, by omega⟩
          refine lv_istore_n (lv' := [(2, .int v8), (3, .int 3), (0, .int mm), (1, .int 8)]) hx hb dX12_power_12 rfl hl (by decide) rfl (fun ls hl => ?_)
          refine lv_iinc (v := 4) (lv' := [(3, .int 4), (2, .int v8), (0, .int mm), (1, .int 8)]) hx hb dX12_power_13 hl (k := 1) rfl (by decide) (by decide) rfl (fun ls hl => ?_)
          refine lv_goto (tgt := 4) hx hb dX12_power_16 (by decide) ?_
          refine lv_iload_n hx hb dX12_power_4 rfl (lv_at hl 0 rfl) ?_
          refine lv_iload_n hx hb dX12_power_5 rfl (lv_at hl 3 rfl) ?_
          refine lv_icmp_ge (tgt := 19) hx hb dX12_power_6 (by decide) (fun c9 => ?_) (fun c9 => ?_)
          · exact absurd c9 (by decide)
          · skip
            refine lv_iload_n hx hb dX12_power_9 rfl (lv_at hl 1 rfl) ?_
            refine lv_iload_n hx hb dX12_power_10 rfl (lv_at hl 2 rfl) ?_
            refine lv_imul hx hb dX12_power_11 ?_
            refine lv_topi (fun v10 ev10 => ?_)
            have tv10 := z_mulb (a1 := 1) (b1 := 81) (a2 := 1) (b2 := 3) ev10 (rfl : (v8 : Int32).toInt = _) (rfl : (mm : Int32).toInt = _) (by omega) (by omega) (by omega) (by omega) (by decide) (by decide) (by decide)
            have : 1 ≤ v10.toInt ∧ v10.toInt ≤ 243 := ⟨by omega, by omega⟩
            refine lv_istore_n (lv' := [(2, .int v10), (3, .int 4), (0, .int mm), (1, .int 8)]) hx hb dX12_power_12 rfl hl (by decide) rfl (fun ls hl => ?_)
            refine lv_iinc (v := 5) (lv' := [(3, .int 5), (2, .int v10), (0, .int mm), (1, .int 8)]) hx hb dX12_power_13 hl (k := 1) rfl (by decide) (by decide) rfl (fun ls hl => ?_)
            refine lv_goto (tgt := 4) hx hb dX12_power_16 (by decide) ?_
            refine lv_iload_n hx hb dX12_power_4 rfl (lv_at hl 0 rfl) ?_
            refine lv_iload_n hx hb dX12_power_5 rfl (lv_at hl 3 rfl) ?_
            refine lv_icmp_ge (tgt := 19) hx hb dX12_power_6 (by decide) (fun c11 => ?_) (fun c11 => ?_)
            · exact absurd c11 (by decide)
            · skip
              refine lv_iload_n hx hb dX12_power_9 rfl (lv_at hl 1 rfl) ?_
              refine lv_iload_n hx hb dX12_power_10 rfl (lv_at hl 2 rfl) ?_
              refine lv_imul hx hb dX12_power_11 ?_
              refine lv_topi (fun v12 ev12 => ?_)
              have tv12 := z_mulb (a1 := 1) (b1 := 243) (a2 := 1) (b2 := 3) ev12 (rfl : (v10 : Int32).toInt = _) (rfl : (mm : Int32).toInt = _) (by omega) (by omega) (by omega) (by omega) (by decide) (by decide) (by decide)
              have : 1 ≤ v12.toInt ∧ v12.toInt ≤ 729 := ⟨by omega, by omega⟩
              refine lv_istore_n (lv' := [(2, .int v12), (3, .int 5), (0, .int mm), (1, .int 8)]) hx hb dX12_power_12 rfl hl (by decide) rfl (fun ls hl => ?_)
              refine lv_iinc (v := 6) (lv' := [(3, .int 6), (2, .int v12), (0, .int mm), (1, .int 8)]) hx hb dX12_power_13 hl (k := 1) rfl (by decide) (by decide) rfl (fun ls hl => ?_)
              refine lv_goto (tgt := 4) hx hb dX12_power_16 (by decide) ?_
              refine lv_iload_n hx hb dX12_power_4 rfl (lv_at hl 0 rfl) ?_
              refine lv_iload_n hx hb dX12_power_5 rfl (lv_at hl 3 rfl) ?_
              refine lv_icmp_ge (tgt := 19) hx hb dX12_power_6 (by decide) (fun c13 => ?_) (fun c13 => ?_)
              · exact absurd c13 (by decide)
              · skip
                refine lv_iload_n hx hb dX12_power_9 rfl (lv_at hl 1 rfl) ?_
                refine lv_iload_n hx hb dX12_power_10 rfl (lv_at hl 2 rfl) ?_
                refine lv_imul hx hb dX12_power_11 ?_
                refine lv_topi (fun v14 ev14 => ?_)
                have tv14 := z_mulb (a1 := 1) (b1 := 729) (a2 := 1) (b2 := 3) ev14 (rfl : (v12 : Int32).toInt = _) (rfl : (mm : Int32).toInt = _) (by omega) (by omega) (by omega) (by omega) (by decide) (by decide) (by decide)
                have : 1 ≤ v14.toInt ∧ v14.toInt ≤ 2187 := ⟨by omega, by omega⟩
                refine lv_istore_n (lv' := [(2, .int v14), (3, .int 6), (0, .int mm), (1, .int 8)]) hx hb dX12_power_12 rfl hl (by decide) rfl (fun ls hl => ?_)
                refine lv_iinc (v := 7) (lv' := [(3, .int 7), (2, .int v14), (0, .int mm), (1, .int 8)]) hx hb dX12_power_13 hl (k := 1) rfl (by decide) (by decide) rfl (fun ls hl => ?_)
                refine lv_goto (tgt := 4) hx hb dX12_power_16 (by decide) ?_
                refine lv_iload_n hx hb dX12_power_4 rfl (lv_at hl 0 rfl) ?_
                refine lv_iload_n hx hb dX12_power_5 rfl (lv_at hl 3 rfl) ?_
                refine lv_icmp_ge (tgt := 19) hx hb dX12_power_6 (by decide) (fun c15 => ?_) (fun c15 => ?_)
                · exact absurd c15 (by decide)
                · skip
                  refine lv_iload_n hx hb dX12_power_9 rfl (lv_at hl 1 rfl) ?_
                  refine lv_iload_n hx hb dX12_power_10 rfl (lv_at hl 2 rfl) ?_
                  refine lv_imul hx hb dX12_power_11 ?_
                  refine lv_topi (fun v16 ev16 => ?_)
                  have tv16 := z_mulb (a1 := 1) (b1 := 2187) (a2 := 1) (b2 := 3) ev16 (rfl : (v14 : Int32).toInt = _) (rfl : (mm : Int32).toInt = _) (by omega) (by omega) (by omega) (by omega) (by decide) (by decide) (by decide)
                  have : 1 ≤ v16.toInt ∧ v16.toInt ≤ 6561 := ⟨by omega, by omega⟩
                  refine lv_istore_n (lv' := [(2, .int v16), (3, .int 7), (0, .int mm), (1, .int 8)]) hx hb dX12_power_12 rfl hl (by decide) rfl (fun ls hl => ?_)
                  refine lv_iinc (v := 8) (lv' := [(3, .int 8), (2, .int v16), (0, .int mm), (1, .int 8)]) hx hb dX12_power_13 hl (k := 1) rfl (by decide) (by decide) rfl (fun ls hl => ?_)
                  refine lv_goto (tgt := 4) hx hb dX12_power_16 (by decide) ?_
                  refine lv_iload_n hx hb dX12_power_4 rfl (lv_at hl 0 rfl) ?_
                  refine lv_iload_n hx hb dX12_power_5 rfl (lv_at hl 3 rfl) ?_
                  refine lv_icmp_ge (tgt := 19) hx hb dX12_power_6 (by decide) (fun c17 => ?_) (fun c17 => ?_)
                  · skip
                    refine lv_iload_n hx hb dX12_power_19 rfl (lv_at hl 1 rfl) ?_
                    exact W.iret (v := v16) hx hb hr (fun t ht9 hW => ⟨v16, rfl, ⟨by omega, by omega⟩, ht9⟩) (fun q hq => by cases hq) dX12_power_20
                  · exact absurd c17 (by decide)
set_option maxHeartbeats 4000000 in
set_option maxRecDepth 100000 in
/-- X12_isThere -/
theorem c_X12_isThere_x (l : Launch) (dC : Nat → ClassId) (dI : Nat → Nat → Nat) (h : Nat) (g : Nat → Nat → Nat) (ca : Nat → Nat → ClassId) (iv : Nat → Nat → Int32) (lv : Nat → Nat → Int64) (fa : Nat → Nat → Nat → Int32) (la : Nat → Nat → Nat → Int64) (hI : IX iv fa) (a : Int32) (b : Int32) (h_a : 0 ≤ a.toInt ∧ a.toInt ≤ 59) : Met l yX12_isThere (wc yX12_isThere cX12_isThere 3 (some .boolean)) ({ frames := 0, cells := 0, slots := 0, locals := 0 } : Room) (pR (dC, dI) classes (WM h g ca iv lv fa la) (TM ca) [.ref h, .int a, .int b]) (vp_Si (fun r => (0 ≤ r.toInt ∧ r.toInt ≤ 1) ∧ (((r.toInt = 1 ∧ ((fa 12 11) a.toNatClampNeg).toInt ≤ b.toInt ∧ (((fa 12 12) a.toNatClampNeg).toInt < 0 ∨ b.toInt < ((fa 12 12) a.toNatClampNeg).toInt)) ∨ (r.toInt = 0 ∧ ¬ (((fa 12 11) a.toNatClampNeg).toInt ≤ b.toInt ∧ (((fa 12 12) a.toNatClampNeg).toInt < 0 ∨ b.toInt < ((fa 12 12) a.toNatClampNeg).toInt))))))) 0 0 (fun _ => False) := by
  refine Met.ofW (cc := cX12_isThere) (maxL := 3) (ret := (some .boolean)) (by decide) rfl ?_
  intro p e s m args below meth c s₁ B hml hv
  obtain ⟨rfl, hP, hK⟩ := hv
  have hx := B.exec
  have hb := B.bytes
  have hr := B.returns
  have ht := tb_tl (atoms_spec (ws := wc yX12_isThere cX12_isThere 3 (some .boolean)) B.pre)
  have hown : s.vm.findClass RX12 = some m.cls := findClass_of_methodNamed B.named
  have hlocks := B.notSynchronized
  have hl := lv_entry [.ref h, .int a, .int b] (n := 3) (Nat.le_of_ble_eq_true rfl)
  rw [lg_entry_eq]
  generalize (lg_sl [.ref h, .int a, .int b] ++ List.replicate (3 - (lg_sl [.ref h, .int a, .int b]).length) Slot.unset).toArray = ls at hl ⊢
  have hl : lv_has ls 3 [(0, .ref h), (1, .int a), (2, .int b)] := hl
  refine lv_aload_n hx hb dX12_isThere_0 rfl (lv_at hl 0 rfl) ?_
  refine gM_12_11 hx hb ht hown hK hP m_1150 dX12_isThere_1 ?_
  refine lv_iload_n hx hb dX12_isThere_4 rfl (lv_at hl 1 rfl) ?_
  refine lM_12_11 hx hb hK hP (f := (fa 12 11)) rfl (vp_in_iff.mpr ⟨by omega, by omega⟩) dX12_isThere_5 ?_
  refine lv_topi (fun v1 ev1 => ?_)
  refine lv_iload_n hx hb dX12_isThere_6 rfl (lv_at hl 2 rfl) ?_
  refine lv_icmp_gt (tgt := 33) hx hb dX12_isThere_7 (by decide) (fun c2 => ?_) (fun c2 => ?_)
  · have fc2 := z_lt (rfl : (b).toInt = _) (rfl : (v1).toInt = _) c2
    refine lv_iconst (v := 0) hx hb dX12_isThere_33 (by decide) ?_
    have : (0 : Int32).toInt = 0 := (by decide)
    exact W.zret (v := 0) hx hb hr rfl (fun t ht9 hW => ⟨0, rfl, ⟨⟨by decide, by decide⟩, (show (((0 : Int32).toInt = 1 ∧ ((fa 12 11) a.toNatClampNeg).toInt ≤ (b).toInt ∧ (((fa 12 12) a.toNatClampNeg).toInt < 0 ∨ (b).toInt < ((fa 12 12) a.toNatClampNeg).toInt)) ∨ ((0 : Int32).toInt = 0 ∧ ¬ (((fa 12 11) a.toNatClampNeg).toInt ≤ (b).toInt ∧ (((fa 12 12) a.toNatClampNeg).toInt < 0 ∨ (b).toInt < ((fa 12 12) a.toNatClampNeg).toInt)))) from by have := congrArg Int32.toInt ev1; omega)⟩, ht9⟩) (fun q hq => by cases hq) dX12_isThere_34
  · have fc2 := z_nlt (rfl : (b).toInt = _) (rfl : (v1).toInt = _) c2
    refine lv_aload_n hx hb dX12_isThere_10 rfl (lv_at hl 0 rfl) ?_
    refine gM_12_12 hx hb ht hown hK hP m_1151 dX12_isThere_11 ?_
    refine lv_iload_n hx hb dX12_isThere_14 rfl (lv_at hl 1 rfl) ?_
    refine lM_12_12 hx hb hK hP (f := (fa 12 12)) rfl (vp_in_iff.mpr ⟨by omega, by omega⟩) dX12_isThere_15 ?_
    refine lv_topi (fun v3 ev3 => ?_)
    refine lv_if_lt (tgt := 29) hx hb dX12_isThere_16 (by decide) (fun c4 => ?_) (fun c4 => ?_)
    · have fc4 := z_lt (rfl : (v3).toInt = _) (by decide : (0 : Int32).toInt = 0) c4
      refine lv_iconst (v := 1) hx hb dX12_isThere_29 (by decide) ?_
      refine lv_goto (tgt := 34) hx hb dX12_isThere_30 (by decide) ?_
      have : (1 : Int32).toInt = 1 := (by decide)
      exact W.zret (v := 1) hx hb hr rfl (fun t ht9 hW => ⟨1, rfl, ⟨⟨by decide, by decide⟩, (show (((1 : Int32).toInt = 1 ∧ ((fa 12 11) a.toNatClampNeg).toInt ≤ (b).toInt ∧ (((fa 12 12) a.toNatClampNeg).toInt < 0 ∨ (b).toInt < ((fa 12 12) a.toNatClampNeg).toInt)) ∨ ((1 : Int32).toInt = 0 ∧ ¬ (((fa 12 11) a.toNatClampNeg).toInt ≤ (b).toInt ∧ (((fa 12 12) a.toNatClampNeg).toInt < 0 ∨ (b).toInt < ((fa 12 12) a.toNatClampNeg).toInt)))) from by have := congrArg Int32.toInt ev1; have := congrArg Int32.toInt ev3; omega)⟩, ht9⟩) (fun q hq => by cases hq) dX12_isThere_34
    · have fc4 := z_nlt (rfl : (v3).toInt = _) (by decide : (0 : Int32).toInt = 0) c4
      refine lv_aload_n hx hb dX12_isThere_19 rfl (lv_at hl 0 rfl) ?_
      refine gM_12_12 hx hb ht hown hK hP m_1151 dX12_isThere_20 ?_
      refine lv_iload_n hx hb dX12_isThere_23 rfl (lv_at hl 1 rfl) ?_
      refine lM_12_12 hx hb hK hP (f := (fa 12 12)) rfl (vp_in_iff.mpr ⟨by omega, by omega⟩) dX12_isThere_24 ?_
      refine lv_topi (fun v5 ev5 => ?_)
      obtain rfl : v3 = v5 := ev3.trans ev5.symm
      refine lv_iload_n hx hb dX12_isThere_25 rfl (lv_at hl 2 rfl) ?_
      refine lv_icmp_le (tgt := 33) hx hb dX12_isThere_26 (by decide) (fun c6 => ?_) (fun c6 => ?_)
      · have fc6 := z_le (rfl : (v3).toInt = _) (rfl : (b).toInt = _) c6
        refine lv_iconst (v := 0) hx hb dX12_isThere_33 (by decide) ?_
        have : (0 : Int32).toInt = 0 := (by decide)
        exact W.zret (v := 0) hx hb hr rfl (fun t ht9 hW => ⟨0, rfl, ⟨⟨by decide, by decide⟩, (show (((0 : Int32).toInt = 1 ∧ ((fa 12 11) a.toNatClampNeg).toInt ≤ (b).toInt ∧ (((fa 12 12) a.toNatClampNeg).toInt < 0 ∨ (b).toInt < ((fa 12 12) a.toNatClampNeg).toInt)) ∨ ((0 : Int32).toInt = 0 ∧ ¬ (((fa 12 11) a.toNatClampNeg).toInt ≤ (b).toInt ∧ (((fa 12 12) a.toNatClampNeg).toInt < 0 ∨ (b).toInt < ((fa 12 12) a.toNatClampNeg).toInt)))) from by have := congrArg Int32.toInt ev1; have := congrArg Int32.toInt ev3; omega)⟩, ht9⟩) (fun q hq => by cases hq) dX12_isThere_34
      · have fc6 := z_nle (rfl : (v3).toInt = _) (rfl : (b).toInt = _) c6
        refine lv_iconst (v := 1) hx hb dX12_isThere_29 (by decide) ?_
        refine lv_goto (tgt := 34) hx hb dX12_isThere_30 (by decide) ?_
        have : (1 : Int32).toInt = 1 := (by decide)
        exact W.zret (v := 1) hx hb hr rfl (fun t ht9 hW => ⟨1, rfl, ⟨⟨by decide, by decide⟩, (show (((1 : Int32).toInt = 1 ∧ ((fa 12 11) a.toNatClampNeg).toInt ≤ (b).toInt ∧ (((fa 12 12) a.toNatClampNeg).toInt < 0 ∨ (b).toInt < ((fa 12 12) a.toNatClampNeg).toInt)) ∨ ((1 : Int32).toInt = 0 ∧ ¬ (((fa 12 11) a.toNatClampNeg).toInt ≤ (b).toInt ∧ (((fa 12 12) a.toNatClampNeg).toInt < 0 ∨ (b).toInt < ((fa 12 12) a.toNatClampNeg).toInt)))) from by have := congrArg Int32.toInt ev1; have := congrArg Int32.toInt ev3; omega)⟩, ht9⟩) (fun q hq => by cases hq) dX12_isThere_34
/-! ===== n2 ===== -/
set_option maxRecDepth 100000 in
theorem m_49 : Cond.selects RX12 yX12_isWord yX12_isWord ∈ tb := tb_in 49 (by decide +kernel) rfl
set_option maxRecDepth 100000 in
theorem m_50 : Cond.selects RX12 yX12_want yX12_want ∈ tb := tb_in 50 (by decide +kernel) rfl
theorem m_1177 : Cond.fieldLink RX12 271 "SilkHouseModel" "letters" "I" ∈ tb := mb_5_5 _ (List.mem_of_getElem? (i := 18) rfl)
theorem m_1466 : Cond.constantLong RX12 267 (97) ∈ tb := mb_6_3 _ (List.mem_of_getElem? (i := 22) rfl)
theorem m_1467 : Cond.constantLong RX12 269 (122) ∈ tb := mb_6_3 _ (List.mem_of_getElem? (i := 23) rfl)
theorem m_1468 : Cond.methodLink RX12 282 yX12_isWord ∈ tb := mb_6_4 _ (List.mem_of_getElem? (i := 0) rfl)
theorem m_1470 : Cond.instanceMethod yX12_isWord ∈ tb := mb_6_4 _ (List.mem_of_getElem? (i := 1) rfl)
theorem m_1471 : Cond.code yX12_isWord cX12_isWord 10 (some .boolean) ∈ tb := mb_6_4 _ (List.mem_of_getElem? (i := 2) rfl)
theorem m_1472 : Cond.methodLink RX12 278 yX12_want ∈ tb := mb_6_4 _ (List.mem_of_getElem? (i := 3) rfl)
theorem m_1474 : Cond.instanceMethod yX12_want ∈ tb := mb_6_4 _ (List.mem_of_getElem? (i := 4) rfl)
theorem m_1475 : Cond.code yX12_want cX12_want 4 (some .boolean) ∈ tb := mb_6_4 _ (List.mem_of_getElem? (i := 5) rfl)
theorem m_1494 : Cond.constantLong RX12 274 (48) ∈ tb := mb_6_4 _ (List.mem_of_getElem? (i := 21) rfl)
theorem m_1495 : Cond.constantLong RX12 276 (57) ∈ tb := mb_6_4 _ (List.mem_of_getElem? (i := 22) rfl)
theorem hd_X12_isWord_v : yX12_isWord.cls = RX12 ∧ yX12_isWord.cls ≠ "java/lang/invoke/MethodHandle" ∧ yX12_isWord.cls ≠ "java/lang/invoke/VarHandle" ∧ (parseMethodDescriptor yX12_isWord.desc).map (fun d => d.parameters.length) = some 7 := by decide +kernel
theorem hd_X12_want_v : yX12_want.cls = RX12 ∧ yX12_want.cls ≠ "java/lang/invoke/MethodHandle" ∧ yX12_want.cls ≠ "java/lang/invoke/VarHandle" ∧ (parseMethodDescriptor yX12_want.desc).map (fun d => d.parameters.length) = some 3 := by decide +kernel
set_option maxRecDepth 100000 in
theorem dvX12_feed_12 : ([(12, .ldc 178, 2), (14, .ireturn, 1), (27, .ldc 182, 2), (29, .ireturn, 1), (61, .aload_n 0, 1), (62, .dup, 1), (63, .getfield 249, 3), (66, .iconst 1, 1), (67, .iadd, 1), (68, .putfield 249, 3), (71, .iinc 4 (-1), 3), (74, .goto (-39), 3), (77, .aload_n 0, 1), (78, .getfield 249, 3), (81, .ireturn, 1)] : List (Nat × Instr × Nat)).all (fun q => decide (decode cX12_feed q.1 = .ok (q.2.1, q.2.2))) = true := by decide +kernel
theorem dX12_feed_12 : decode cX12_feed 12 = .ok (.ldc 178, 2) := all_at dvX12_feed_12 0 rfl
theorem dX12_feed_14 : decode cX12_feed 14 = .ok (.ireturn, 1) := all_at dvX12_feed_12 1 rfl
theorem dX12_feed_27 : decode cX12_feed 27 = .ok (.ldc 182, 2) := all_at dvX12_feed_12 2 rfl
theorem dX12_feed_29 : decode cX12_feed 29 = .ok (.ireturn, 1) := all_at dvX12_feed_12 3 rfl
theorem dX12_feed_61 : decode cX12_feed 61 = .ok (.aload_n 0, 1) := all_at dvX12_feed_12 4 rfl
theorem dX12_feed_62 : decode cX12_feed 62 = .ok (.dup, 1) := all_at dvX12_feed_12 5 rfl
theorem dX12_feed_63 : decode cX12_feed 63 = .ok (.getfield 249, 3) := all_at dvX12_feed_12 6 rfl
theorem dX12_feed_66 : decode cX12_feed 66 = .ok (.iconst 1, 1) := all_at dvX12_feed_12 7 rfl
theorem dX12_feed_67 : decode cX12_feed 67 = .ok (.iadd, 1) := all_at dvX12_feed_12 8 rfl
theorem dX12_feed_68 : decode cX12_feed 68 = .ok (.putfield 249, 3) := all_at dvX12_feed_12 9 rfl
theorem dX12_feed_71 : decode cX12_feed 71 = .ok (.iinc 4 (-1), 3) := all_at dvX12_feed_12 10 rfl
theorem dX12_feed_74 : decode cX12_feed 74 = .ok (.goto (-39), 3) := all_at dvX12_feed_12 11 rfl
theorem dX12_feed_77 : decode cX12_feed 77 = .ok (.aload_n 0, 1) := all_at dvX12_feed_12 12 rfl
theorem dX12_feed_78 : decode cX12_feed 78 = .ok (.getfield 249, 3) := all_at dvX12_feed_12 13 rfl
theorem dX12_feed_81 : decode cX12_feed 81 = .ok (.ireturn, 1) := all_at dvX12_feed_12 14 rfl
set_option maxRecDepth 100000 in
theorem dvX12_isWord_0 : ([(0, .aload_n 0, 1), (1, .getfield 271, 3), (4, .iload_n 1, 1), (5, .if_icmp .ne 7, 3), (8, .iconst 1, 1), (9, .goto 4, 3), (12, .iconst 0, 1), (13, .istore 8, 2), (15, .iconst 0, 1), (16, .istore 9, 2), (18, .iload 9, 2), (20, .iload_n 1, 1), (21, .if_icmp .ge 90, 3), (24, .iload 8, 2), (26, .ifCond .eq 85, 3), (29, .aload_n 0, 1), (30, .getfield 83, 3), (33, .aload_n 0, 1), (34, .getfield 264, 3), (37, .iload 9, 2), (39, .iadd, 1), (40, .iaload, 1), (41, .iload 9, 2), (43, .ifCond .ne 7, 3)] : List (Nat × Instr × Nat)).all (fun q => decide (decode cX12_isWord q.1 = .ok (q.2.1, q.2.2))) = true := by decide +kernel
theorem dX12_isWord_0 : decode cX12_isWord 0 = .ok (.aload_n 0, 1) := all_at dvX12_isWord_0 0 rfl
theorem dX12_isWord_1 : decode cX12_isWord 1 = .ok (.getfield 271, 3) := all_at dvX12_isWord_0 1 rfl
theorem dX12_isWord_4 : decode cX12_isWord 4 = .ok (.iload_n 1, 1) := all_at dvX12_isWord_0 2 rfl
theorem dX12_isWord_5 : decode cX12_isWord 5 = .ok (.if_icmp .ne 7, 3) := all_at dvX12_isWord_0 3 rfl
theorem dX12_isWord_8 : decode cX12_isWord 8 = .ok (.iconst 1, 1) := all_at dvX12_isWord_0 4 rfl
theorem dX12_isWord_9 : decode cX12_isWord 9 = .ok (.goto 4, 3) := all_at dvX12_isWord_0 5 rfl
theorem dX12_isWord_12 : decode cX12_isWord 12 = .ok (.iconst 0, 1) := all_at dvX12_isWord_0 6 rfl
theorem dX12_isWord_13 : decode cX12_isWord 13 = .ok (.istore 8, 2) := all_at dvX12_isWord_0 7 rfl
theorem dX12_isWord_15 : decode cX12_isWord 15 = .ok (.iconst 0, 1) := all_at dvX12_isWord_0 8 rfl
theorem dX12_isWord_16 : decode cX12_isWord 16 = .ok (.istore 9, 2) := all_at dvX12_isWord_0 9 rfl
theorem dX12_isWord_18 : decode cX12_isWord 18 = .ok (.iload 9, 2) := all_at dvX12_isWord_0 10 rfl
theorem dX12_isWord_20 : decode cX12_isWord 20 = .ok (.iload_n 1, 1) := all_at dvX12_isWord_0 11 rfl
theorem dX12_isWord_21 : decode cX12_isWord 21 = .ok (.if_icmp .ge 90, 3) := all_at dvX12_isWord_0 12 rfl
theorem dX12_isWord_24 : decode cX12_isWord 24 = .ok (.iload 8, 2) := all_at dvX12_isWord_0 13 rfl
theorem dX12_isWord_26 : decode cX12_isWord 26 = .ok (.ifCond .eq 85, 3) := all_at dvX12_isWord_0 14 rfl
theorem dX12_isWord_29 : decode cX12_isWord 29 = .ok (.aload_n 0, 1) := all_at dvX12_isWord_0 15 rfl
theorem dX12_isWord_30 : decode cX12_isWord 30 = .ok (.getfield 83, 3) := all_at dvX12_isWord_0 16 rfl
theorem dX12_isWord_33 : decode cX12_isWord 33 = .ok (.aload_n 0, 1) := all_at dvX12_isWord_0 17 rfl
theorem dX12_isWord_34 : decode cX12_isWord 34 = .ok (.getfield 264, 3) := all_at dvX12_isWord_0 18 rfl
theorem dX12_isWord_37 : decode cX12_isWord 37 = .ok (.iload 9, 2) := all_at dvX12_isWord_0 19 rfl
theorem dX12_isWord_39 : decode cX12_isWord 39 = .ok (.iadd, 1) := all_at dvX12_isWord_0 20 rfl
theorem dX12_isWord_40 : decode cX12_isWord 40 = .ok (.iaload, 1) := all_at dvX12_isWord_0 21 rfl
theorem dX12_isWord_41 : decode cX12_isWord 41 = .ok (.iload 9, 2) := all_at dvX12_isWord_0 22 rfl
theorem dX12_isWord_43 : decode cX12_isWord 43 = .ok (.ifCond .ne 7, 3) := all_at dvX12_isWord_0 23 rfl
set_option maxRecDepth 100000 in
theorem dvX12_isWord_46 : ([(46, .iload_n 2, 1), (47, .goto 48, 3), (50, .iload 9, 2), (52, .iconst 1, 1), (53, .if_icmp .ne 7, 3), (56, .iload_n 3, 1), (57, .goto 38, 3), (60, .iload 9, 2), (62, .iconst 2, 1), (63, .if_icmp .ne 8, 3), (66, .iload 4, 2), (68, .goto 27, 3), (71, .iload 9, 2), (73, .iconst 3, 1), (74, .if_icmp .ne 8, 3), (77, .iload 5, 2), (79, .goto 16, 3), (82, .iload 9, 2), (84, .iconst 4, 1), (85, .if_icmp .ne 8, 3), (88, .iload 6, 2), (90, .goto 5, 3), (93, .iload 7, 2), (95, .if_icmp .ne 7, 3)] : List (Nat × Instr × Nat)).all (fun q => decide (decode cX12_isWord q.1 = .ok (q.2.1, q.2.2))) = true := by decide +kernel
theorem dX12_isWord_46 : decode cX12_isWord 46 = .ok (.iload_n 2, 1) := all_at dvX12_isWord_46 0 rfl
theorem dX12_isWord_47 : decode cX12_isWord 47 = .ok (.goto 48, 3) := all_at dvX12_isWord_46 1 rfl
theorem dX12_isWord_50 : decode cX12_isWord 50 = .ok (.iload 9, 2) := all_at dvX12_isWord_46 2 rfl
theorem dX12_isWord_52 : decode cX12_isWord 52 = .ok (.iconst 1, 1) := all_at dvX12_isWord_46 3 rfl
theorem dX12_isWord_53 : decode cX12_isWord 53 = .ok (.if_icmp .ne 7, 3) := all_at dvX12_isWord_46 4 rfl
theorem dX12_isWord_56 : decode cX12_isWord 56 = .ok (.iload_n 3, 1) := all_at dvX12_isWord_46 5 rfl
theorem dX12_isWord_57 : decode cX12_isWord 57 = .ok (.goto 38, 3) := all_at dvX12_isWord_46 6 rfl
theorem dX12_isWord_60 : decode cX12_isWord 60 = .ok (.iload 9, 2) := all_at dvX12_isWord_46 7 rfl
theorem dX12_isWord_62 : decode cX12_isWord 62 = .ok (.iconst 2, 1) := all_at dvX12_isWord_46 8 rfl
theorem dX12_isWord_63 : decode cX12_isWord 63 = .ok (.if_icmp .ne 8, 3) := all_at dvX12_isWord_46 9 rfl
theorem dX12_isWord_66 : decode cX12_isWord 66 = .ok (.iload 4, 2) := all_at dvX12_isWord_46 10 rfl
theorem dX12_isWord_68 : decode cX12_isWord 68 = .ok (.goto 27, 3) := all_at dvX12_isWord_46 11 rfl
theorem dX12_isWord_71 : decode cX12_isWord 71 = .ok (.iload 9, 2) := all_at dvX12_isWord_46 12 rfl
theorem dX12_isWord_73 : decode cX12_isWord 73 = .ok (.iconst 3, 1) := all_at dvX12_isWord_46 13 rfl
theorem dX12_isWord_74 : decode cX12_isWord 74 = .ok (.if_icmp .ne 8, 3) := all_at dvX12_isWord_46 14 rfl
theorem dX12_isWord_77 : decode cX12_isWord 77 = .ok (.iload 5, 2) := all_at dvX12_isWord_46 15 rfl
theorem dX12_isWord_79 : decode cX12_isWord 79 = .ok (.goto 16, 3) := all_at dvX12_isWord_46 16 rfl
theorem dX12_isWord_82 : decode cX12_isWord 82 = .ok (.iload 9, 2) := all_at dvX12_isWord_46 17 rfl
theorem dX12_isWord_84 : decode cX12_isWord 84 = .ok (.iconst 4, 1) := all_at dvX12_isWord_46 18 rfl
theorem dX12_isWord_85 : decode cX12_isWord 85 = .ok (.if_icmp .ne 8, 3) := all_at dvX12_isWord_46 19 rfl
theorem dX12_isWord_88 : decode cX12_isWord 88 = .ok (.iload 6, 2) := all_at dvX12_isWord_46 20 rfl
theorem dX12_isWord_90 : decode cX12_isWord 90 = .ok (.goto 5, 3) := all_at dvX12_isWord_46 21 rfl
theorem dX12_isWord_93 : decode cX12_isWord 93 = .ok (.iload 7, 2) := all_at dvX12_isWord_46 22 rfl
theorem dX12_isWord_95 : decode cX12_isWord 95 = .ok (.if_icmp .ne 7, 3) := all_at dvX12_isWord_46 23 rfl
set_option maxRecDepth 100000 in
theorem dvX12_isWord_98 : ([(98, .iconst 1, 1), (99, .goto 4, 3), (102, .iconst 0, 1), (103, .istore 8, 2), (105, .iinc 9 1, 3), (108, .goto (-90), 3), (111, .iload 8, 2), (113, .ireturn, 1)] : List (Nat × Instr × Nat)).all (fun q => decide (decode cX12_isWord q.1 = .ok (q.2.1, q.2.2))) = true := by decide +kernel
theorem dX12_isWord_98 : decode cX12_isWord 98 = .ok (.iconst 1, 1) := all_at dvX12_isWord_98 0 rfl
theorem dX12_isWord_99 : decode cX12_isWord 99 = .ok (.goto 4, 3) := all_at dvX12_isWord_98 1 rfl
theorem dX12_isWord_102 : decode cX12_isWord 102 = .ok (.iconst 0, 1) := all_at dvX12_isWord_98 2 rfl
theorem dX12_isWord_103 : decode cX12_isWord 103 = .ok (.istore 8, 2) := all_at dvX12_isWord_98 3 rfl
theorem dX12_isWord_105 : decode cX12_isWord 105 = .ok (.iinc 9 1, 3) := all_at dvX12_isWord_98 4 rfl
theorem dX12_isWord_108 : decode cX12_isWord 108 = .ok (.goto (-90), 3) := all_at dvX12_isWord_98 5 rfl
theorem dX12_isWord_111 : decode cX12_isWord 111 = .ok (.iload 8, 2) := all_at dvX12_isWord_98 6 rfl
theorem dX12_isWord_113 : decode cX12_isWord 113 = .ok (.ireturn, 1) := all_at dvX12_isWord_98 7 rfl
set_option maxRecDepth 100000 in
theorem dvX12_letOf_0 : ([(0, .aload_n 0, 1), (1, .iconst 5, 1), (2, .bipush 119, 2), (4, .bipush 97, 2), (6, .bipush 116, 2), (8, .bipush 101, 2), (10, .bipush 114, 2), (12, .iconst 0, 1), (13, .invokevirtual 282, 3), (16, .ifCond .eq 5, 3), (19, .iconst 0, 1), (20, .ireturn, 1), (21, .aload_n 0, 1), (22, .bipush 6, 2), (24, .bipush 115, 2), (26, .bipush 107, 2), (28, .bipush 101, 2), (30, .bipush 105, 2), (32, .bipush 110, 2), (34, .bipush 115, 2), (36, .invokevirtual 282, 3), (39, .ifCond .eq 5, 3), (42, .iconst 1, 1), (43, .ireturn, 1)] : List (Nat × Instr × Nat)).all (fun q => decide (decode cX12_letOf q.1 = .ok (q.2.1, q.2.2))) = true := by decide +kernel
theorem dX12_letOf_0 : decode cX12_letOf 0 = .ok (.aload_n 0, 1) := all_at dvX12_letOf_0 0 rfl
theorem dX12_letOf_1 : decode cX12_letOf 1 = .ok (.iconst 5, 1) := all_at dvX12_letOf_0 1 rfl
theorem dX12_letOf_2 : decode cX12_letOf 2 = .ok (.bipush 119, 2) := all_at dvX12_letOf_0 2 rfl
theorem dX12_letOf_4 : decode cX12_letOf 4 = .ok (.bipush 97, 2) := all_at dvX12_letOf_0 3 rfl
theorem dX12_letOf_6 : decode cX12_letOf 6 = .ok (.bipush 116, 2) := all_at dvX12_letOf_0 4 rfl
theorem dX12_letOf_8 : decode cX12_letOf 8 = .ok (.bipush 101, 2) := all_at dvX12_letOf_0 5 rfl
theorem dX12_letOf_10 : decode cX12_letOf 10 = .ok (.bipush 114, 2) := all_at dvX12_letOf_0 6 rfl
theorem dX12_letOf_12 : decode cX12_letOf 12 = .ok (.iconst 0, 1) := all_at dvX12_letOf_0 7 rfl
theorem dX12_letOf_13 : decode cX12_letOf 13 = .ok (.invokevirtual 282, 3) := all_at dvX12_letOf_0 8 rfl
theorem dX12_letOf_16 : decode cX12_letOf 16 = .ok (.ifCond .eq 5, 3) := all_at dvX12_letOf_0 9 rfl
theorem dX12_letOf_19 : decode cX12_letOf 19 = .ok (.iconst 0, 1) := all_at dvX12_letOf_0 10 rfl
theorem dX12_letOf_20 : decode cX12_letOf 20 = .ok (.ireturn, 1) := all_at dvX12_letOf_0 11 rfl
theorem dX12_letOf_21 : decode cX12_letOf 21 = .ok (.aload_n 0, 1) := all_at dvX12_letOf_0 12 rfl
theorem dX12_letOf_22 : decode cX12_letOf 22 = .ok (.bipush 6, 2) := all_at dvX12_letOf_0 13 rfl
theorem dX12_letOf_24 : decode cX12_letOf 24 = .ok (.bipush 115, 2) := all_at dvX12_letOf_0 14 rfl
theorem dX12_letOf_26 : decode cX12_letOf 26 = .ok (.bipush 107, 2) := all_at dvX12_letOf_0 15 rfl
theorem dX12_letOf_28 : decode cX12_letOf 28 = .ok (.bipush 101, 2) := all_at dvX12_letOf_0 16 rfl
theorem dX12_letOf_30 : decode cX12_letOf 30 = .ok (.bipush 105, 2) := all_at dvX12_letOf_0 17 rfl
theorem dX12_letOf_32 : decode cX12_letOf 32 = .ok (.bipush 110, 2) := all_at dvX12_letOf_0 18 rfl
theorem dX12_letOf_34 : decode cX12_letOf 34 = .ok (.bipush 115, 2) := all_at dvX12_letOf_0 19 rfl
theorem dX12_letOf_36 : decode cX12_letOf 36 = .ok (.invokevirtual 282, 3) := all_at dvX12_letOf_0 20 rfl
theorem dX12_letOf_39 : decode cX12_letOf 39 = .ok (.ifCond .eq 5, 3) := all_at dvX12_letOf_0 21 rfl
theorem dX12_letOf_42 : decode cX12_letOf 42 = .ok (.iconst 1, 1) := all_at dvX12_letOf_0 22 rfl
theorem dX12_letOf_43 : decode cX12_letOf 43 = .ok (.ireturn, 1) := all_at dvX12_letOf_0 23 rfl
set_option maxRecDepth 100000 in
theorem dvX12_letOf_44 : ([(44, .aload_n 0, 1), (45, .iconst 4, 1), (46, .bipush 112, 2), (48, .bipush 97, 2), (50, .bipush 114, 2), (52, .bipush 116, 2), (54, .iconst 0, 1), (55, .iconst 0, 1), (56, .invokevirtual 282, 3), (59, .ifCond .eq 5, 3), (62, .iconst 2, 1), (63, .ireturn, 1), (64, .aload_n 0, 1), (65, .iconst 5, 1), (66, .bipush 108, 2), (68, .bipush 111, 2), (70, .bipush 111, 2), (72, .bipush 107, 2), (74, .bipush 115, 2), (76, .iconst 0, 1), (77, .invokevirtual 282, 3), (80, .ifCond .eq 5, 3), (83, .iconst 3, 1), (84, .ireturn, 1)] : List (Nat × Instr × Nat)).all (fun q => decide (decode cX12_letOf q.1 = .ok (q.2.1, q.2.2))) = true := by decide +kernel
theorem dX12_letOf_44 : decode cX12_letOf 44 = .ok (.aload_n 0, 1) := all_at dvX12_letOf_44 0 rfl
theorem dX12_letOf_45 : decode cX12_letOf 45 = .ok (.iconst 4, 1) := all_at dvX12_letOf_44 1 rfl
theorem dX12_letOf_46 : decode cX12_letOf 46 = .ok (.bipush 112, 2) := all_at dvX12_letOf_44 2 rfl
theorem dX12_letOf_48 : decode cX12_letOf 48 = .ok (.bipush 97, 2) := all_at dvX12_letOf_44 3 rfl
theorem dX12_letOf_50 : decode cX12_letOf 50 = .ok (.bipush 114, 2) := all_at dvX12_letOf_44 4 rfl
theorem dX12_letOf_52 : decode cX12_letOf 52 = .ok (.bipush 116, 2) := all_at dvX12_letOf_44 5 rfl
theorem dX12_letOf_54 : decode cX12_letOf 54 = .ok (.iconst 0, 1) := all_at dvX12_letOf_44 6 rfl
theorem dX12_letOf_55 : decode cX12_letOf 55 = .ok (.iconst 0, 1) := all_at dvX12_letOf_44 7 rfl
theorem dX12_letOf_56 : decode cX12_letOf 56 = .ok (.invokevirtual 282, 3) := all_at dvX12_letOf_44 8 rfl
theorem dX12_letOf_59 : decode cX12_letOf 59 = .ok (.ifCond .eq 5, 3) := all_at dvX12_letOf_44 9 rfl
theorem dX12_letOf_62 : decode cX12_letOf 62 = .ok (.iconst 2, 1) := all_at dvX12_letOf_44 10 rfl
theorem dX12_letOf_63 : decode cX12_letOf 63 = .ok (.ireturn, 1) := all_at dvX12_letOf_44 11 rfl
theorem dX12_letOf_64 : decode cX12_letOf 64 = .ok (.aload_n 0, 1) := all_at dvX12_letOf_44 12 rfl
theorem dX12_letOf_65 : decode cX12_letOf 65 = .ok (.iconst 5, 1) := all_at dvX12_letOf_44 13 rfl
theorem dX12_letOf_66 : decode cX12_letOf 66 = .ok (.bipush 108, 2) := all_at dvX12_letOf_44 14 rfl
theorem dX12_letOf_68 : decode cX12_letOf 68 = .ok (.bipush 111, 2) := all_at dvX12_letOf_44 15 rfl
theorem dX12_letOf_70 : decode cX12_letOf 70 = .ok (.bipush 111, 2) := all_at dvX12_letOf_44 16 rfl
theorem dX12_letOf_72 : decode cX12_letOf 72 = .ok (.bipush 107, 2) := all_at dvX12_letOf_44 17 rfl
theorem dX12_letOf_74 : decode cX12_letOf 74 = .ok (.bipush 115, 2) := all_at dvX12_letOf_44 18 rfl
theorem dX12_letOf_76 : decode cX12_letOf 76 = .ok (.iconst 0, 1) := all_at dvX12_letOf_44 19 rfl
theorem dX12_letOf_77 : decode cX12_letOf 77 = .ok (.invokevirtual 282, 3) := all_at dvX12_letOf_44 20 rfl
theorem dX12_letOf_80 : decode cX12_letOf 80 = .ok (.ifCond .eq 5, 3) := all_at dvX12_letOf_44 21 rfl
theorem dX12_letOf_83 : decode cX12_letOf 83 = .ok (.iconst 3, 1) := all_at dvX12_letOf_44 22 rfl
theorem dX12_letOf_84 : decode cX12_letOf 84 = .ok (.ireturn, 1) := all_at dvX12_letOf_44 23 rfl
set_option maxRecDepth 100000 in
theorem dvX12_letOf_85 : ([(85, .aload_n 0, 1), (86, .iconst 3, 1), (87, .bipush 102, 2), (89, .bipush 101, 2), (91, .bipush 101, 2), (93, .iconst 0, 1), (94, .iconst 0, 1), (95, .iconst 0, 1), (96, .invokevirtual 282, 3), (99, .ifCond .eq 7, 3), (102, .iconst 4, 1), (103, .goto 4, 3), (106, .iconst (-1), 1), (107, .ireturn, 1)] : List (Nat × Instr × Nat)).all (fun q => decide (decode cX12_letOf q.1 = .ok (q.2.1, q.2.2))) = true := by decide +kernel
theorem dX12_letOf_85 : decode cX12_letOf 85 = .ok (.aload_n 0, 1) := all_at dvX12_letOf_85 0 rfl
theorem dX12_letOf_86 : decode cX12_letOf 86 = .ok (.iconst 3, 1) := all_at dvX12_letOf_85 1 rfl
theorem dX12_letOf_87 : decode cX12_letOf 87 = .ok (.bipush 102, 2) := all_at dvX12_letOf_85 2 rfl
theorem dX12_letOf_89 : decode cX12_letOf 89 = .ok (.bipush 101, 2) := all_at dvX12_letOf_85 3 rfl
theorem dX12_letOf_91 : decode cX12_letOf 91 = .ok (.bipush 101, 2) := all_at dvX12_letOf_85 4 rfl
theorem dX12_letOf_93 : decode cX12_letOf 93 = .ok (.iconst 0, 1) := all_at dvX12_letOf_85 5 rfl
theorem dX12_letOf_94 : decode cX12_letOf 94 = .ok (.iconst 0, 1) := all_at dvX12_letOf_85 6 rfl
theorem dX12_letOf_95 : decode cX12_letOf 95 = .ok (.iconst 0, 1) := all_at dvX12_letOf_85 7 rfl
theorem dX12_letOf_96 : decode cX12_letOf 96 = .ok (.invokevirtual 282, 3) := all_at dvX12_letOf_85 8 rfl
theorem dX12_letOf_99 : decode cX12_letOf 99 = .ok (.ifCond .eq 7, 3) := all_at dvX12_letOf_85 9 rfl
theorem dX12_letOf_102 : decode cX12_letOf 102 = .ok (.iconst 4, 1) := all_at dvX12_letOf_85 10 rfl
theorem dX12_letOf_103 : decode cX12_letOf 103 = .ok (.goto 4, 3) := all_at dvX12_letOf_85 11 rfl
theorem dX12_letOf_106 : decode cX12_letOf 106 = .ok (.iconst (-1), 1) := all_at dvX12_letOf_85 12 rfl
theorem dX12_letOf_107 : decode cX12_letOf 107 = .ok (.ireturn, 1) := all_at dvX12_letOf_85 13 rfl
set_option maxRecDepth 100000 in
theorem dvX12_takeNumber_0 : ([(0, .aload_n 0, 1), (1, .invokevirtual 260, 3), (4, .istore_n 3, 1), (5, .aload_n 0, 1), (6, .aload_n 0, 1), (7, .getfield 254, 3), (10, .putfield 264, 3), (13, .aload_n 0, 1), (14, .iload_n 3, 1), (15, .i2l, 1), (16, .ldc2_w 274, 3), (19, .ldc2_w 276, 3), (22, .invokestatic 167, 3), (25, .iconst 1, 1), (26, .aload_n 0, 1), (27, .getfield 254, 3), (30, .invokevirtual 278, 3), (33, .ifCond .ne 5, 3), (36, .iconst 0, 1), (37, .ireturn, 1), (38, .iconst 0, 1), (39, .istore 4, 2), (41, .aload_n 0, 1), (42, .getfield 254, 3)] : List (Nat × Instr × Nat)).all (fun q => decide (decode cX12_takeNumber q.1 = .ok (q.2.1, q.2.2))) = true := by decide +kernel
theorem dX12_takeNumber_0 : decode cX12_takeNumber 0 = .ok (.aload_n 0, 1) := all_at dvX12_takeNumber_0 0 rfl
theorem dX12_takeNumber_1 : decode cX12_takeNumber 1 = .ok (.invokevirtual 260, 3) := all_at dvX12_takeNumber_0 1 rfl
theorem dX12_takeNumber_4 : decode cX12_takeNumber 4 = .ok (.istore_n 3, 1) := all_at dvX12_takeNumber_0 2 rfl
theorem dX12_takeNumber_5 : decode cX12_takeNumber 5 = .ok (.aload_n 0, 1) := all_at dvX12_takeNumber_0 3 rfl
theorem dX12_takeNumber_6 : decode cX12_takeNumber 6 = .ok (.aload_n 0, 1) := all_at dvX12_takeNumber_0 4 rfl
theorem dX12_takeNumber_7 : decode cX12_takeNumber 7 = .ok (.getfield 254, 3) := all_at dvX12_takeNumber_0 5 rfl
theorem dX12_takeNumber_10 : decode cX12_takeNumber 10 = .ok (.putfield 264, 3) := all_at dvX12_takeNumber_0 6 rfl
theorem dX12_takeNumber_13 : decode cX12_takeNumber 13 = .ok (.aload_n 0, 1) := all_at dvX12_takeNumber_0 7 rfl
theorem dX12_takeNumber_14 : decode cX12_takeNumber 14 = .ok (.iload_n 3, 1) := all_at dvX12_takeNumber_0 8 rfl
theorem dX12_takeNumber_15 : decode cX12_takeNumber 15 = .ok (.i2l, 1) := all_at dvX12_takeNumber_0 9 rfl
theorem dX12_takeNumber_16 : decode cX12_takeNumber 16 = .ok (.ldc2_w 274, 3) := all_at dvX12_takeNumber_0 10 rfl
theorem dX12_takeNumber_19 : decode cX12_takeNumber 19 = .ok (.ldc2_w 276, 3) := all_at dvX12_takeNumber_0 11 rfl
theorem dX12_takeNumber_22 : decode cX12_takeNumber 22 = .ok (.invokestatic 167, 3) := all_at dvX12_takeNumber_0 12 rfl
theorem dX12_takeNumber_25 : decode cX12_takeNumber 25 = .ok (.iconst 1, 1) := all_at dvX12_takeNumber_0 13 rfl
theorem dX12_takeNumber_26 : decode cX12_takeNumber 26 = .ok (.aload_n 0, 1) := all_at dvX12_takeNumber_0 14 rfl
theorem dX12_takeNumber_27 : decode cX12_takeNumber 27 = .ok (.getfield 254, 3) := all_at dvX12_takeNumber_0 15 rfl
theorem dX12_takeNumber_30 : decode cX12_takeNumber 30 = .ok (.invokevirtual 278, 3) := all_at dvX12_takeNumber_0 16 rfl
theorem dX12_takeNumber_33 : decode cX12_takeNumber 33 = .ok (.ifCond .ne 5, 3) := all_at dvX12_takeNumber_0 17 rfl
theorem dX12_takeNumber_36 : decode cX12_takeNumber 36 = .ok (.iconst 0, 1) := all_at dvX12_takeNumber_0 18 rfl
theorem dX12_takeNumber_37 : decode cX12_takeNumber 37 = .ok (.ireturn, 1) := all_at dvX12_takeNumber_0 19 rfl
theorem dX12_takeNumber_38 : decode cX12_takeNumber 38 = .ok (.iconst 0, 1) := all_at dvX12_takeNumber_0 20 rfl
theorem dX12_takeNumber_39 : decode cX12_takeNumber 39 = .ok (.istore 4, 2) := all_at dvX12_takeNumber_0 21 rfl
theorem dX12_takeNumber_41 : decode cX12_takeNumber 41 = .ok (.aload_n 0, 1) := all_at dvX12_takeNumber_0 22 rfl
theorem dX12_takeNumber_42 : decode cX12_takeNumber 42 = .ok (.getfield 254, 3) := all_at dvX12_takeNumber_0 23 rfl
set_option maxRecDepth 100000 in
theorem dvX12_takeNumber_45 : ([(45, .aload_n 0, 1), (46, .getfield 249, 3), (49, .if_icmp .ge 71, 3), (52, .aload_n 0, 1), (53, .getfield 83, 3), (56, .aload_n 0, 1), (57, .getfield 254, 3), (60, .iaload, 1), (61, .i2l, 1), (62, .ldc2_w 274, 3), (65, .ldc2_w 276, 3), (68, .invokestatic 167, 3), (71, .ifCond .eq 49, 3), (74, .iload 4, 2), (76, .sipush 9999, 3), (79, .if_icmp .le 8, 3), (82, .iload 4, 2), (84, .goto 21, 3), (87, .bipush 10, 2), (89, .iload 4, 2), (91, .imul, 1), (92, .aload_n 0, 1), (93, .getfield 83, 3), (96, .aload_n 0, 1)] : List (Nat × Instr × Nat)).all (fun q => decide (decode cX12_takeNumber q.1 = .ok (q.2.1, q.2.2))) = true := by decide +kernel
theorem dX12_takeNumber_45 : decode cX12_takeNumber 45 = .ok (.aload_n 0, 1) := all_at dvX12_takeNumber_45 0 rfl
theorem dX12_takeNumber_46 : decode cX12_takeNumber 46 = .ok (.getfield 249, 3) := all_at dvX12_takeNumber_45 1 rfl
theorem dX12_takeNumber_49 : decode cX12_takeNumber 49 = .ok (.if_icmp .ge 71, 3) := all_at dvX12_takeNumber_45 2 rfl
theorem dX12_takeNumber_52 : decode cX12_takeNumber 52 = .ok (.aload_n 0, 1) := all_at dvX12_takeNumber_45 3 rfl
theorem dX12_takeNumber_53 : decode cX12_takeNumber 53 = .ok (.getfield 83, 3) := all_at dvX12_takeNumber_45 4 rfl
theorem dX12_takeNumber_56 : decode cX12_takeNumber 56 = .ok (.aload_n 0, 1) := all_at dvX12_takeNumber_45 5 rfl
theorem dX12_takeNumber_57 : decode cX12_takeNumber 57 = .ok (.getfield 254, 3) := all_at dvX12_takeNumber_45 6 rfl
theorem dX12_takeNumber_60 : decode cX12_takeNumber 60 = .ok (.iaload, 1) := all_at dvX12_takeNumber_45 7 rfl
theorem dX12_takeNumber_61 : decode cX12_takeNumber 61 = .ok (.i2l, 1) := all_at dvX12_takeNumber_45 8 rfl
theorem dX12_takeNumber_62 : decode cX12_takeNumber 62 = .ok (.ldc2_w 274, 3) := all_at dvX12_takeNumber_45 9 rfl
theorem dX12_takeNumber_65 : decode cX12_takeNumber 65 = .ok (.ldc2_w 276, 3) := all_at dvX12_takeNumber_45 10 rfl
theorem dX12_takeNumber_68 : decode cX12_takeNumber 68 = .ok (.invokestatic 167, 3) := all_at dvX12_takeNumber_45 11 rfl
theorem dX12_takeNumber_71 : decode cX12_takeNumber 71 = .ok (.ifCond .eq 49, 3) := all_at dvX12_takeNumber_45 12 rfl
theorem dX12_takeNumber_74 : decode cX12_takeNumber 74 = .ok (.iload 4, 2) := all_at dvX12_takeNumber_45 13 rfl
theorem dX12_takeNumber_76 : decode cX12_takeNumber 76 = .ok (.sipush 9999, 3) := all_at dvX12_takeNumber_45 14 rfl
theorem dX12_takeNumber_79 : decode cX12_takeNumber 79 = .ok (.if_icmp .le 8, 3) := all_at dvX12_takeNumber_45 15 rfl
theorem dX12_takeNumber_82 : decode cX12_takeNumber 82 = .ok (.iload 4, 2) := all_at dvX12_takeNumber_45 16 rfl
theorem dX12_takeNumber_84 : decode cX12_takeNumber 84 = .ok (.goto 21, 3) := all_at dvX12_takeNumber_45 17 rfl
theorem dX12_takeNumber_87 : decode cX12_takeNumber 87 = .ok (.bipush 10, 2) := all_at dvX12_takeNumber_45 18 rfl
theorem dX12_takeNumber_89 : decode cX12_takeNumber 89 = .ok (.iload 4, 2) := all_at dvX12_takeNumber_45 19 rfl
theorem dX12_takeNumber_91 : decode cX12_takeNumber 91 = .ok (.imul, 1) := all_at dvX12_takeNumber_45 20 rfl
theorem dX12_takeNumber_92 : decode cX12_takeNumber 92 = .ok (.aload_n 0, 1) := all_at dvX12_takeNumber_45 21 rfl
theorem dX12_takeNumber_93 : decode cX12_takeNumber 93 = .ok (.getfield 83, 3) := all_at dvX12_takeNumber_45 22 rfl
theorem dX12_takeNumber_96 : decode cX12_takeNumber 96 = .ok (.aload_n 0, 1) := all_at dvX12_takeNumber_45 23 rfl
set_option maxRecDepth 100000 in
theorem dvX12_takeNumber_97 : ([(97, .getfield 254, 3), (100, .iaload, 1), (101, .iadd, 1), (102, .bipush 48, 2), (104, .isub, 1), (105, .istore 4, 2), (107, .aload_n 0, 1), (108, .dup, 1), (109, .getfield 254, 3), (112, .iconst 1, 1), (113, .iadd, 1), (114, .putfield 254, 3), (117, .goto (-76), 3), (120, .aload_n 0, 1), (121, .aload_n 0, 1), (122, .getfield 254, 3), (125, .aload_n 0, 1), (126, .getfield 264, 3), (129, .isub, 1), (130, .iconst 5, 1), (131, .if_icmp .ge 20, 3), (134, .iload 4, 2), (136, .i2l, 1), (137, .iload_n 1, 1)] : List (Nat × Instr × Nat)).all (fun q => decide (decode cX12_takeNumber q.1 = .ok (q.2.1, q.2.2))) = true := by decide +kernel
theorem dX12_takeNumber_97 : decode cX12_takeNumber 97 = .ok (.getfield 254, 3) := all_at dvX12_takeNumber_97 0 rfl
theorem dX12_takeNumber_100 : decode cX12_takeNumber 100 = .ok (.iaload, 1) := all_at dvX12_takeNumber_97 1 rfl
theorem dX12_takeNumber_101 : decode cX12_takeNumber 101 = .ok (.iadd, 1) := all_at dvX12_takeNumber_97 2 rfl
theorem dX12_takeNumber_102 : decode cX12_takeNumber 102 = .ok (.bipush 48, 2) := all_at dvX12_takeNumber_97 3 rfl
theorem dX12_takeNumber_104 : decode cX12_takeNumber 104 = .ok (.isub, 1) := all_at dvX12_takeNumber_97 4 rfl
theorem dX12_takeNumber_105 : decode cX12_takeNumber 105 = .ok (.istore 4, 2) := all_at dvX12_takeNumber_97 5 rfl
theorem dX12_takeNumber_107 : decode cX12_takeNumber 107 = .ok (.aload_n 0, 1) := all_at dvX12_takeNumber_97 6 rfl
theorem dX12_takeNumber_108 : decode cX12_takeNumber 108 = .ok (.dup, 1) := all_at dvX12_takeNumber_97 7 rfl
theorem dX12_takeNumber_109 : decode cX12_takeNumber 109 = .ok (.getfield 254, 3) := all_at dvX12_takeNumber_97 8 rfl
theorem dX12_takeNumber_112 : decode cX12_takeNumber 112 = .ok (.iconst 1, 1) := all_at dvX12_takeNumber_97 9 rfl
theorem dX12_takeNumber_113 : decode cX12_takeNumber 113 = .ok (.iadd, 1) := all_at dvX12_takeNumber_97 10 rfl
theorem dX12_takeNumber_114 : decode cX12_takeNumber 114 = .ok (.putfield 254, 3) := all_at dvX12_takeNumber_97 11 rfl
theorem dX12_takeNumber_117 : decode cX12_takeNumber 117 = .ok (.goto (-76), 3) := all_at dvX12_takeNumber_97 12 rfl
theorem dX12_takeNumber_120 : decode cX12_takeNumber 120 = .ok (.aload_n 0, 1) := all_at dvX12_takeNumber_97 13 rfl
theorem dX12_takeNumber_121 : decode cX12_takeNumber 121 = .ok (.aload_n 0, 1) := all_at dvX12_takeNumber_97 14 rfl
theorem dX12_takeNumber_122 : decode cX12_takeNumber 122 = .ok (.getfield 254, 3) := all_at dvX12_takeNumber_97 15 rfl
theorem dX12_takeNumber_125 : decode cX12_takeNumber 125 = .ok (.aload_n 0, 1) := all_at dvX12_takeNumber_97 16 rfl
theorem dX12_takeNumber_126 : decode cX12_takeNumber 126 = .ok (.getfield 264, 3) := all_at dvX12_takeNumber_97 17 rfl
theorem dX12_takeNumber_129 : decode cX12_takeNumber 129 = .ok (.isub, 1) := all_at dvX12_takeNumber_97 18 rfl
theorem dX12_takeNumber_130 : decode cX12_takeNumber 130 = .ok (.iconst 5, 1) := all_at dvX12_takeNumber_97 19 rfl
theorem dX12_takeNumber_131 : decode cX12_takeNumber 131 = .ok (.if_icmp .ge 20, 3) := all_at dvX12_takeNumber_97 20 rfl
theorem dX12_takeNumber_134 : decode cX12_takeNumber 134 = .ok (.iload 4, 2) := all_at dvX12_takeNumber_97 21 rfl
theorem dX12_takeNumber_136 : decode cX12_takeNumber 136 = .ok (.i2l, 1) := all_at dvX12_takeNumber_97 22 rfl
theorem dX12_takeNumber_137 : decode cX12_takeNumber 137 = .ok (.iload_n 1, 1) := all_at dvX12_takeNumber_97 23 rfl
set_option maxRecDepth 100000 in
theorem dvX12_takeNumber_138 : ([(138, .i2l, 1), (139, .iload_n 2, 1), (140, .i2l, 1), (141, .invokestatic 167, 3), (144, .ifCond .eq 7, 3), (147, .iconst 1, 1), (148, .goto 4, 3), (151, .iconst 0, 1), (152, .iconst 2, 1), (153, .aload_n 0, 1), (154, .getfield 264, 3), (157, .invokevirtual 278, 3), (160, .istore 5, 2), (162, .iload 4, 2), (164, .ireturn, 1)] : List (Nat × Instr × Nat)).all (fun q => decide (decode cX12_takeNumber q.1 = .ok (q.2.1, q.2.2))) = true := by decide +kernel
theorem dX12_takeNumber_138 : decode cX12_takeNumber 138 = .ok (.i2l, 1) := all_at dvX12_takeNumber_138 0 rfl
theorem dX12_takeNumber_139 : decode cX12_takeNumber 139 = .ok (.iload_n 2, 1) := all_at dvX12_takeNumber_138 1 rfl
theorem dX12_takeNumber_140 : decode cX12_takeNumber 140 = .ok (.i2l, 1) := all_at dvX12_takeNumber_138 2 rfl
theorem dX12_takeNumber_141 : decode cX12_takeNumber 141 = .ok (.invokestatic 167, 3) := all_at dvX12_takeNumber_138 3 rfl
theorem dX12_takeNumber_144 : decode cX12_takeNumber 144 = .ok (.ifCond .eq 7, 3) := all_at dvX12_takeNumber_138 4 rfl
theorem dX12_takeNumber_147 : decode cX12_takeNumber 147 = .ok (.iconst 1, 1) := all_at dvX12_takeNumber_138 5 rfl
theorem dX12_takeNumber_148 : decode cX12_takeNumber 148 = .ok (.goto 4, 3) := all_at dvX12_takeNumber_138 6 rfl
theorem dX12_takeNumber_151 : decode cX12_takeNumber 151 = .ok (.iconst 0, 1) := all_at dvX12_takeNumber_138 7 rfl
theorem dX12_takeNumber_152 : decode cX12_takeNumber 152 = .ok (.iconst 2, 1) := all_at dvX12_takeNumber_138 8 rfl
theorem dX12_takeNumber_153 : decode cX12_takeNumber 153 = .ok (.aload_n 0, 1) := all_at dvX12_takeNumber_138 9 rfl
theorem dX12_takeNumber_154 : decode cX12_takeNumber 154 = .ok (.getfield 264, 3) := all_at dvX12_takeNumber_138 10 rfl
theorem dX12_takeNumber_157 : decode cX12_takeNumber 157 = .ok (.invokevirtual 278, 3) := all_at dvX12_takeNumber_138 11 rfl
theorem dX12_takeNumber_160 : decode cX12_takeNumber 160 = .ok (.istore 5, 2) := all_at dvX12_takeNumber_138 12 rfl
theorem dX12_takeNumber_162 : decode cX12_takeNumber 162 = .ok (.iload 4, 2) := all_at dvX12_takeNumber_138 13 rfl
theorem dX12_takeNumber_164 : decode cX12_takeNumber 164 = .ok (.ireturn, 1) := all_at dvX12_takeNumber_138 14 rfl
set_option maxRecDepth 100000 in
theorem dvX12_takeWord_24 : ([(24, .aload_n 0, 1), (25, .getfield 83, 3), (28, .aload_n 0, 1), (29, .getfield 254, 3), (32, .iaload, 1), (33, .i2l, 1), (34, .ldc2_w 267, 3), (37, .ldc2_w 269, 3), (40, .invokestatic 167, 3), (43, .ifCond .eq 16, 3), (46, .aload_n 0, 1), (47, .dup, 1), (48, .getfield 254, 3), (51, .iconst 1, 1), (52, .iadd, 1), (53, .putfield 254, 3), (56, .goto (-43), 3), (72, .return_, 1)] : List (Nat × Instr × Nat)).all (fun q => decide (decode cX12_takeWord q.1 = .ok (q.2.1, q.2.2))) = true := by decide +kernel
theorem dX12_takeWord_24 : decode cX12_takeWord 24 = .ok (.aload_n 0, 1) := all_at dvX12_takeWord_24 0 rfl
theorem dX12_takeWord_25 : decode cX12_takeWord 25 = .ok (.getfield 83, 3) := all_at dvX12_takeWord_24 1 rfl
theorem dX12_takeWord_28 : decode cX12_takeWord 28 = .ok (.aload_n 0, 1) := all_at dvX12_takeWord_24 2 rfl
theorem dX12_takeWord_29 : decode cX12_takeWord 29 = .ok (.getfield 254, 3) := all_at dvX12_takeWord_24 3 rfl
theorem dX12_takeWord_32 : decode cX12_takeWord 32 = .ok (.iaload, 1) := all_at dvX12_takeWord_24 4 rfl
theorem dX12_takeWord_33 : decode cX12_takeWord 33 = .ok (.i2l, 1) := all_at dvX12_takeWord_24 5 rfl
theorem dX12_takeWord_34 : decode cX12_takeWord 34 = .ok (.ldc2_w 267, 3) := all_at dvX12_takeWord_24 6 rfl
theorem dX12_takeWord_37 : decode cX12_takeWord 37 = .ok (.ldc2_w 269, 3) := all_at dvX12_takeWord_24 7 rfl
theorem dX12_takeWord_40 : decode cX12_takeWord 40 = .ok (.invokestatic 167, 3) := all_at dvX12_takeWord_24 8 rfl
theorem dX12_takeWord_43 : decode cX12_takeWord 43 = .ok (.ifCond .eq 16, 3) := all_at dvX12_takeWord_24 9 rfl
theorem dX12_takeWord_46 : decode cX12_takeWord 46 = .ok (.aload_n 0, 1) := all_at dvX12_takeWord_24 10 rfl
theorem dX12_takeWord_47 : decode cX12_takeWord 47 = .ok (.dup, 1) := all_at dvX12_takeWord_24 11 rfl
theorem dX12_takeWord_48 : decode cX12_takeWord 48 = .ok (.getfield 254, 3) := all_at dvX12_takeWord_24 12 rfl
theorem dX12_takeWord_51 : decode cX12_takeWord 51 = .ok (.iconst 1, 1) := all_at dvX12_takeWord_24 13 rfl
theorem dX12_takeWord_52 : decode cX12_takeWord 52 = .ok (.iadd, 1) := all_at dvX12_takeWord_24 14 rfl
theorem dX12_takeWord_53 : decode cX12_takeWord 53 = .ok (.putfield 254, 3) := all_at dvX12_takeWord_24 15 rfl
theorem dX12_takeWord_56 : decode cX12_takeWord 56 = .ok (.goto (-43), 3) := all_at dvX12_takeWord_24 16 rfl
theorem dX12_takeWord_72 : decode cX12_takeWord 72 = .ok (.return_, 1) := all_at dvX12_takeWord_24 17 rfl
set_option maxHeartbeats 4000000 in
set_option maxRecDepth 100000 in
/-- X12_want -/
theorem c_X12_want_1 (l : Launch) (dC : Nat → ClassId) (dI : Nat → Nat → Nat) (h : Nat) (g : Nat → Nat → Nat) (ca : Nat → Nat → ClassId) (iv : Nat → Nat → Int32) (lv : Nat → Nat → Int64) (fa : Nat → Nat → Nat → Int32) (la : Nat → Nat → Nat → Int64) (hI : IX iv fa) (b : Int32) (d : Int32) : Met l yX12_want (wc yX12_want cX12_want 4 (some .boolean)) ({ frames := 0, cells := 0, slots := 0, locals := 0 } : Room) (pR (dC, dI) classes (WM h g ca iv lv fa la) (TM ca) [.ref h, .int 1, .int b, .int d]) (vp_Si (fun r => (r = 1 ∧ ((iv 12 35).toInt = 0)) ∨ (r = 0 ∧ ¬ ((iv 12 35).toInt = 0)))) 0 0 (fun _ => False) := by
  refine Met.ofW (cc := cX12_want) (maxL := 4) (ret := (some .boolean)) (by decide) rfl ?_
  intro p e s m args below meth c s₁ B hml hv
  obtain ⟨rfl, hP, hK⟩ := hv
  have hx := B.exec
  have hb := B.bytes
  have hr := B.returns
  have ht := tb_tl (atoms_spec (ws := wc yX12_want cX12_want 4 (some .boolean)) B.pre)
  have hown : s.vm.findClass RX12 = some m.cls := findClass_of_methodNamed B.named
  have hlocks := B.notSynchronized
  have hl := lv_entry [.ref h, .int 1, .int b, .int d] (n := 4) (Nat.le_of_ble_eq_true rfl)
  rw [lg_entry_eq]
  generalize (lg_sl [.ref h, .int 1, .int b, .int d] ++ List.replicate (4 - (lg_sl [.ref h, .int 1, .int b, .int d]).length) Slot.unset).toArray = ls at hl ⊢
  have hl : lv_has ls 4 [(0, .ref h), (1, .int 1), (2, .int b), (3, .int d)] := hl
  refine lv_iload_n hx hb dX12_want_0 rfl (lv_at hl 1 rfl) ?_
  refine lv_if_ne (tgt := 21) hx hb dX12_want_1 (by decide) (fun c1 => ?_) (fun c1 => ?_)
  · skip
    refine lv_aload_n hx hb dX12_want_21 rfl (lv_at hl 0 rfl) ?_
    have i_12_35 : 0 ≤ (iv 12 35).toInt ∧ (iv 12 35).toInt ≤ 5 := hI.1 12 35
    refine gM_12_35 hx hb ht hown hK hP m_1174 (v := (iv 12 35)) rfl dX12_want_22 ?_
    refine lv_if_ne (tgt := 32) hx hb dX12_want_25 (by decide) (fun c2 => ?_) (fun c2 => ?_)
    · have fc2 := z_ne (rfl : ((iv 12 35)).toInt = _) (by decide : (0 : Int32).toInt = 0) c2
      refine lv_iconst (v := 0) hx hb dX12_want_32 (by decide) ?_
      exact W.zret (v := 0) hx hb hr rfl (fun t ht9 hW => ⟨0, rfl, Or.inr ⟨rfl, by omega⟩, ht9⟩) (fun q hq => by cases hq) dX12_want_33
    · have fc2 := z_eq (rfl : ((iv 12 35)).toInt = _) (by decide : (0 : Int32).toInt = 0) c2
      refine lv_iconst (v := 1) hx hb dX12_want_28 (by decide) ?_
      refine lv_goto (tgt := 33) hx hb dX12_want_29 (by decide) ?_
      exact W.zret (v := 1) hx hb hr rfl (fun t ht9 hW => ⟨1, rfl, Or.inl ⟨rfl, by omega⟩, ht9⟩) (fun q hq => by cases hq) dX12_want_33
  · exact absurd c1 (by decide)
/-! ===== n3 ===== -/
set_option maxRecDepth 100000 in
theorem m_48 : Cond.selects RX12 yX12_takeWord yX12_takeWord ∈ tb := tb_in 48 (by decide +kernel) rfl
set_option maxRecDepth 100000 in
theorem m_52 : Cond.selects RX12 yX12_letOf yX12_letOf ∈ tb := tb_in 52 (by decide +kernel) rfl
set_option maxRecDepth 100000 in
theorem m_53 : Cond.selects RX12 yX12_takeNumber yX12_takeNumber ∈ tb := tb_in 53 (by decide +kernel) rfl
set_option maxRecDepth 100000 in
theorem m_54 : Cond.selects RX12 yX12_readName yX12_readName ∈ tb := tb_in 54 (by decide +kernel) rfl
theorem m_1166 : Cond.fieldLink RX12 68 "SilkHouseModel" "nameOf" "[I" ∈ tb := mb_5_5 _ (List.mem_of_getElem? (i := 7) rfl)
theorem m_1167 : Cond.fieldLink RX12 71 "SilkHouseModel" "first" "[I" ∈ tb := mb_5_5 _ (List.mem_of_getElem? (i := 8) rfl)
theorem m_1168 : Cond.fieldLink RX12 74 "SilkHouseModel" "second" "[I" ∈ tb := mb_5_5 _ (List.mem_of_getElem? (i := 9) rfl)
theorem m_1462 : Cond.methodLink RX12 286 yX12_takeWord ∈ tb := mb_6_3 _ (List.mem_of_getElem? (i := 19) rfl)
theorem m_1464 : Cond.instanceMethod yX12_takeWord ∈ tb := mb_6_3 _ (List.mem_of_getElem? (i := 20) rfl)
theorem m_1465 : Cond.code yX12_takeWord cX12_takeWord 2 none ∈ tb := mb_6_3 _ (List.mem_of_getElem? (i := 21) rfl)
theorem m_1480 : Cond.methodLink RX12 293 yX12_letOf ∈ tb := mb_6_4 _ (List.mem_of_getElem? (i := 9) rfl)
theorem m_1482 : Cond.instanceMethod yX12_letOf ∈ tb := mb_6_4 _ (List.mem_of_getElem? (i := 10) rfl)
theorem m_1483 : Cond.code yX12_letOf cX12_letOf 1 (some .int) ∈ tb := mb_6_4 _ (List.mem_of_getElem? (i := 11) rfl)
theorem m_1484 : Cond.methodLink RX12 296 yX12_leastOf ∈ tb := mb_6_4 _ (List.mem_of_getElem? (i := 12) rfl)
theorem m_1485 : Cond.static yX12_leastOf ∈ tb := mb_6_4 _ (List.mem_of_getElem? (i := 13) rfl)
theorem m_1486 : Cond.code yX12_leastOf cX12_leastOf 1 (some .int) ∈ tb := mb_6_4 _ (List.mem_of_getElem? (i := 14) rfl)
theorem m_1487 : Cond.methodLink RX12 300 yX12_mostOf ∈ tb := mb_6_4 _ (List.mem_of_getElem? (i := 15) rfl)
theorem m_1488 : Cond.static yX12_mostOf ∈ tb := mb_6_4 _ (List.mem_of_getElem? (i := 16) rfl)
theorem m_1489 : Cond.code yX12_mostOf cX12_mostOf 1 (some .int) ∈ tb := mb_6_4 _ (List.mem_of_getElem? (i := 17) rfl)
theorem m_1490 : Cond.methodLink RX12 289 yX12_takeNumber ∈ tb := mb_6_4 _ (List.mem_of_getElem? (i := 18) rfl)
theorem m_1492 : Cond.instanceMethod yX12_takeNumber ∈ tb := mb_6_4 _ (List.mem_of_getElem? (i := 19) rfl)
theorem m_1493 : Cond.code yX12_takeNumber cX12_takeNumber 6 (some .int) ∈ tb := mb_6_4 _ (List.mem_of_getElem? (i := 20) rfl)
theorem m_1496 : Cond.methodLink RX12 306 yX12_readName ∈ tb := mb_6_4 _ (List.mem_of_getElem? (i := 23) rfl)
theorem m_1498 : Cond.instanceMethod yX12_readName ∈ tb := mb_6_5 _ (List.mem_of_getElem? (i := 0) rfl)
theorem m_1499 : Cond.code yX12_readName cX12_readName 3 none ∈ tb := mb_6_5 _ (List.mem_of_getElem? (i := 1) rfl)
theorem hd_X12_leastOf_v : yX12_leastOf.cls = RX12 ∧ yX12_leastOf.cls ≠ "java/lang/invoke/MethodHandle" ∧ yX12_leastOf.cls ≠ "java/lang/invoke/VarHandle" ∧ (parseMethodDescriptor yX12_leastOf.desc).map (fun d => d.parameters.length) = some 1 := by decide +kernel
theorem hd_X12_letOf_v : yX12_letOf.cls = RX12 ∧ yX12_letOf.cls ≠ "java/lang/invoke/MethodHandle" ∧ yX12_letOf.cls ≠ "java/lang/invoke/VarHandle" ∧ (parseMethodDescriptor yX12_letOf.desc).map (fun d => d.parameters.length) = some 0 := by decide +kernel
theorem hd_X12_mostOf_v : yX12_mostOf.cls = RX12 ∧ yX12_mostOf.cls ≠ "java/lang/invoke/MethodHandle" ∧ yX12_mostOf.cls ≠ "java/lang/invoke/VarHandle" ∧ (parseMethodDescriptor yX12_mostOf.desc).map (fun d => d.parameters.length) = some 1 := by decide +kernel
theorem hd_X12_readName_v : yX12_readName.cls = RX12 ∧ yX12_readName.cls ≠ "java/lang/invoke/MethodHandle" ∧ yX12_readName.cls ≠ "java/lang/invoke/VarHandle" ∧ (parseMethodDescriptor yX12_readName.desc).map (fun d => d.parameters.length) = some 1 := by decide +kernel
theorem hd_X12_takeNumber_v : yX12_takeNumber.cls = RX12 ∧ yX12_takeNumber.cls ≠ "java/lang/invoke/MethodHandle" ∧ yX12_takeNumber.cls ≠ "java/lang/invoke/VarHandle" ∧ (parseMethodDescriptor yX12_takeNumber.desc).map (fun d => d.parameters.length) = some 2 := by decide +kernel
theorem hd_X12_takeWord_v : yX12_takeWord.cls = RX12 ∧ yX12_takeWord.cls ≠ "java/lang/invoke/MethodHandle" ∧ yX12_takeWord.cls ≠ "java/lang/invoke/VarHandle" ∧ (parseMethodDescriptor yX12_takeWord.desc).map (fun d => d.parameters.length) = some 0 := by decide +kernel
set_option maxRecDepth 100000 in
theorem dvX12_readClause_0 : ([(0, .aload_n 0, 1), (1, .getfield 65, 3), (4, .iload_n 2, 1), (5, .iload_n 1, 1), (6, .iastore, 1), (7, .aload_n 0, 1), (8, .getfield 77, 3), (11, .iload_n 2, 1), (12, .iconst 0, 1), (13, .iastore, 1), (14, .iload_n 1, 1), (15, .ifCond .ne 74, 3), (18, .aload_n 0, 1), (19, .invokevirtual 286, 3), (22, .aload_n 0, 1), (23, .getfield 68, 3), (26, .iload_n 2, 1), (27, .aload_n 0, 1), (28, .invokevirtual 293, 3), (31, .iastore, 1), (32, .aload_n 0, 1), (33, .aload_n 0, 1), (34, .getfield 68, 3), (37, .iload_n 2, 1)] : List (Nat × Instr × Nat)).all (fun q => decide (decode cX12_readClause q.1 = .ok (q.2.1, q.2.2))) = true := by decide +kernel
theorem dX12_readClause_0 : decode cX12_readClause 0 = .ok (.aload_n 0, 1) := all_at dvX12_readClause_0 0 rfl
theorem dX12_readClause_1 : decode cX12_readClause 1 = .ok (.getfield 65, 3) := all_at dvX12_readClause_0 1 rfl
theorem dX12_readClause_4 : decode cX12_readClause 4 = .ok (.iload_n 2, 1) := all_at dvX12_readClause_0 2 rfl
theorem dX12_readClause_5 : decode cX12_readClause 5 = .ok (.iload_n 1, 1) := all_at dvX12_readClause_0 3 rfl
theorem dX12_readClause_6 : decode cX12_readClause 6 = .ok (.iastore, 1) := all_at dvX12_readClause_0 4 rfl
theorem dX12_readClause_7 : decode cX12_readClause 7 = .ok (.aload_n 0, 1) := all_at dvX12_readClause_0 5 rfl
theorem dX12_readClause_8 : decode cX12_readClause 8 = .ok (.getfield 77, 3) := all_at dvX12_readClause_0 6 rfl
theorem dX12_readClause_11 : decode cX12_readClause 11 = .ok (.iload_n 2, 1) := all_at dvX12_readClause_0 7 rfl
theorem dX12_readClause_12 : decode cX12_readClause 12 = .ok (.iconst 0, 1) := all_at dvX12_readClause_0 8 rfl
theorem dX12_readClause_13 : decode cX12_readClause 13 = .ok (.iastore, 1) := all_at dvX12_readClause_0 9 rfl
theorem dX12_readClause_14 : decode cX12_readClause 14 = .ok (.iload_n 1, 1) := all_at dvX12_readClause_0 10 rfl
theorem dX12_readClause_15 : decode cX12_readClause 15 = .ok (.ifCond .ne 74, 3) := all_at dvX12_readClause_0 11 rfl
theorem dX12_readClause_18 : decode cX12_readClause 18 = .ok (.aload_n 0, 1) := all_at dvX12_readClause_0 12 rfl
theorem dX12_readClause_19 : decode cX12_readClause 19 = .ok (.invokevirtual 286, 3) := all_at dvX12_readClause_0 13 rfl
theorem dX12_readClause_22 : decode cX12_readClause 22 = .ok (.aload_n 0, 1) := all_at dvX12_readClause_0 14 rfl
theorem dX12_readClause_23 : decode cX12_readClause 23 = .ok (.getfield 68, 3) := all_at dvX12_readClause_0 15 rfl
theorem dX12_readClause_26 : decode cX12_readClause 26 = .ok (.iload_n 2, 1) := all_at dvX12_readClause_0 16 rfl
theorem dX12_readClause_27 : decode cX12_readClause 27 = .ok (.aload_n 0, 1) := all_at dvX12_readClause_0 17 rfl
theorem dX12_readClause_28 : decode cX12_readClause 28 = .ok (.invokevirtual 293, 3) := all_at dvX12_readClause_0 18 rfl
theorem dX12_readClause_31 : decode cX12_readClause 31 = .ok (.iastore, 1) := all_at dvX12_readClause_0 19 rfl
theorem dX12_readClause_32 : decode cX12_readClause 32 = .ok (.aload_n 0, 1) := all_at dvX12_readClause_0 20 rfl
theorem dX12_readClause_33 : decode cX12_readClause 33 = .ok (.aload_n 0, 1) := all_at dvX12_readClause_0 21 rfl
theorem dX12_readClause_34 : decode cX12_readClause 34 = .ok (.getfield 68, 3) := all_at dvX12_readClause_0 22 rfl
theorem dX12_readClause_37 : decode cX12_readClause 37 = .ok (.iload_n 2, 1) := all_at dvX12_readClause_0 23 rfl
set_option maxRecDepth 100000 in
theorem dvX12_readClause_38 : ([(38, .iaload, 1), (39, .ifCond .lt 7, 3), (42, .iconst 1, 1), (43, .goto 4, 3), (46, .iconst 0, 1), (47, .iconst 1, 1), (48, .aload_n 0, 1), (49, .getfield 264, 3), (52, .invokevirtual 278, 3), (55, .ifCond .eq 202, 3), (58, .aload_n 0, 1), (59, .getfield 71, 3), (62, .iload_n 2, 1), (63, .aload_n 0, 1), (64, .aload_n 0, 1), (65, .getfield 68, 3), (68, .iload_n 2, 1), (69, .iaload, 1), (70, .invokestatic 296, 3), (73, .aload_n 0, 1), (74, .getfield 68, 3), (77, .iload_n 2, 1), (78, .iaload, 1), (79, .invokestatic 300, 3)] : List (Nat × Instr × Nat)).all (fun q => decide (decode cX12_readClause q.1 = .ok (q.2.1, q.2.2))) = true := by decide +kernel
theorem dX12_readClause_38 : decode cX12_readClause 38 = .ok (.iaload, 1) := all_at dvX12_readClause_38 0 rfl
theorem dX12_readClause_39 : decode cX12_readClause 39 = .ok (.ifCond .lt 7, 3) := all_at dvX12_readClause_38 1 rfl
theorem dX12_readClause_42 : decode cX12_readClause 42 = .ok (.iconst 1, 1) := all_at dvX12_readClause_38 2 rfl
theorem dX12_readClause_43 : decode cX12_readClause 43 = .ok (.goto 4, 3) := all_at dvX12_readClause_38 3 rfl
theorem dX12_readClause_46 : decode cX12_readClause 46 = .ok (.iconst 0, 1) := all_at dvX12_readClause_38 4 rfl
theorem dX12_readClause_47 : decode cX12_readClause 47 = .ok (.iconst 1, 1) := all_at dvX12_readClause_38 5 rfl
theorem dX12_readClause_48 : decode cX12_readClause 48 = .ok (.aload_n 0, 1) := all_at dvX12_readClause_38 6 rfl
theorem dX12_readClause_49 : decode cX12_readClause 49 = .ok (.getfield 264, 3) := all_at dvX12_readClause_38 7 rfl
theorem dX12_readClause_52 : decode cX12_readClause 52 = .ok (.invokevirtual 278, 3) := all_at dvX12_readClause_38 8 rfl
theorem dX12_readClause_55 : decode cX12_readClause 55 = .ok (.ifCond .eq 202, 3) := all_at dvX12_readClause_38 9 rfl
theorem dX12_readClause_58 : decode cX12_readClause 58 = .ok (.aload_n 0, 1) := all_at dvX12_readClause_38 10 rfl
theorem dX12_readClause_59 : decode cX12_readClause 59 = .ok (.getfield 71, 3) := all_at dvX12_readClause_38 11 rfl
theorem dX12_readClause_62 : decode cX12_readClause 62 = .ok (.iload_n 2, 1) := all_at dvX12_readClause_38 12 rfl
theorem dX12_readClause_63 : decode cX12_readClause 63 = .ok (.aload_n 0, 1) := all_at dvX12_readClause_38 13 rfl
theorem dX12_readClause_64 : decode cX12_readClause 64 = .ok (.aload_n 0, 1) := all_at dvX12_readClause_38 14 rfl
theorem dX12_readClause_65 : decode cX12_readClause 65 = .ok (.getfield 68, 3) := all_at dvX12_readClause_38 15 rfl
theorem dX12_readClause_68 : decode cX12_readClause 68 = .ok (.iload_n 2, 1) := all_at dvX12_readClause_38 16 rfl
theorem dX12_readClause_69 : decode cX12_readClause 69 = .ok (.iaload, 1) := all_at dvX12_readClause_38 17 rfl
theorem dX12_readClause_70 : decode cX12_readClause 70 = .ok (.invokestatic 296, 3) := all_at dvX12_readClause_38 18 rfl
theorem dX12_readClause_73 : decode cX12_readClause 73 = .ok (.aload_n 0, 1) := all_at dvX12_readClause_38 19 rfl
theorem dX12_readClause_74 : decode cX12_readClause 74 = .ok (.getfield 68, 3) := all_at dvX12_readClause_38 20 rfl
theorem dX12_readClause_77 : decode cX12_readClause 77 = .ok (.iload_n 2, 1) := all_at dvX12_readClause_38 21 rfl
theorem dX12_readClause_78 : decode cX12_readClause 78 = .ok (.iaload, 1) := all_at dvX12_readClause_38 22 rfl
theorem dX12_readClause_79 : decode cX12_readClause 79 = .ok (.invokestatic 300, 3) := all_at dvX12_readClause_38 23 rfl
set_option maxRecDepth 100000 in
theorem dvX12_readClause_82 : ([(82, .invokevirtual 289, 3), (85, .iastore, 1), (86, .goto 171, 3), (89, .iload_n 1, 1), (90, .iconst 1, 1), (91, .if_icmp .ne 111, 3), (94, .aload_n 0, 1), (95, .invokevirtual 286, 3), (98, .aload_n 0, 1), (99, .getfield 71, 3), (102, .iload_n 2, 1), (103, .aload_n 0, 1), (104, .iconst 4, 1), (105, .bipush 109, 2), (107, .bipush 101, 2), (109, .bipush 97, 2), (111, .bipush 110, 2), (113, .iconst 0, 1), (114, .iconst 0, 1), (115, .invokevirtual 282, 3), (118, .ifCond .eq 7, 3), (121, .iconst 0, 1), (122, .goto 52, 3), (125, .aload_n 0, 1)] : List (Nat × Instr × Nat)).all (fun q => decide (decode cX12_readClause q.1 = .ok (q.2.1, q.2.2))) = true := by decide +kernel
theorem dX12_readClause_82 : decode cX12_readClause 82 = .ok (.invokevirtual 289, 3) := all_at dvX12_readClause_82 0 rfl
theorem dX12_readClause_85 : decode cX12_readClause 85 = .ok (.iastore, 1) := all_at dvX12_readClause_82 1 rfl
theorem dX12_readClause_86 : decode cX12_readClause 86 = .ok (.goto 171, 3) := all_at dvX12_readClause_82 2 rfl
theorem dX12_readClause_89 : decode cX12_readClause 89 = .ok (.iload_n 1, 1) := all_at dvX12_readClause_82 3 rfl
theorem dX12_readClause_90 : decode cX12_readClause 90 = .ok (.iconst 1, 1) := all_at dvX12_readClause_82 4 rfl
theorem dX12_readClause_91 : decode cX12_readClause 91 = .ok (.if_icmp .ne 111, 3) := all_at dvX12_readClause_82 5 rfl
theorem dX12_readClause_94 : decode cX12_readClause 94 = .ok (.aload_n 0, 1) := all_at dvX12_readClause_82 6 rfl
theorem dX12_readClause_95 : decode cX12_readClause 95 = .ok (.invokevirtual 286, 3) := all_at dvX12_readClause_82 7 rfl
theorem dX12_readClause_98 : decode cX12_readClause 98 = .ok (.aload_n 0, 1) := all_at dvX12_readClause_82 8 rfl
theorem dX12_readClause_99 : decode cX12_readClause 99 = .ok (.getfield 71, 3) := all_at dvX12_readClause_82 9 rfl
theorem dX12_readClause_102 : decode cX12_readClause 102 = .ok (.iload_n 2, 1) := all_at dvX12_readClause_82 10 rfl
theorem dX12_readClause_103 : decode cX12_readClause 103 = .ok (.aload_n 0, 1) := all_at dvX12_readClause_82 11 rfl
theorem dX12_readClause_104 : decode cX12_readClause 104 = .ok (.iconst 4, 1) := all_at dvX12_readClause_82 12 rfl
theorem dX12_readClause_105 : decode cX12_readClause 105 = .ok (.bipush 109, 2) := all_at dvX12_readClause_82 13 rfl
theorem dX12_readClause_107 : decode cX12_readClause 107 = .ok (.bipush 101, 2) := all_at dvX12_readClause_82 14 rfl
theorem dX12_readClause_109 : decode cX12_readClause 109 = .ok (.bipush 97, 2) := all_at dvX12_readClause_82 15 rfl
theorem dX12_readClause_111 : decode cX12_readClause 111 = .ok (.bipush 110, 2) := all_at dvX12_readClause_82 16 rfl
theorem dX12_readClause_113 : decode cX12_readClause 113 = .ok (.iconst 0, 1) := all_at dvX12_readClause_82 17 rfl
theorem dX12_readClause_114 : decode cX12_readClause 114 = .ok (.iconst 0, 1) := all_at dvX12_readClause_82 18 rfl
theorem dX12_readClause_115 : decode cX12_readClause 115 = .ok (.invokevirtual 282, 3) := all_at dvX12_readClause_82 19 rfl
theorem dX12_readClause_118 : decode cX12_readClause 118 = .ok (.ifCond .eq 7, 3) := all_at dvX12_readClause_82 20 rfl
theorem dX12_readClause_121 : decode cX12_readClause 121 = .ok (.iconst 0, 1) := all_at dvX12_readClause_82 21 rfl
theorem dX12_readClause_122 : decode cX12_readClause 122 = .ok (.goto 52, 3) := all_at dvX12_readClause_82 22 rfl
theorem dX12_readClause_125 : decode cX12_readClause 125 = .ok (.aload_n 0, 1) := all_at dvX12_readClause_82 23 rfl
set_option maxRecDepth 100000 in
theorem dvX12_readClause_126 : ([(126, .iconst 5, 1), (127, .bipush 108, 2), (129, .bipush 101, 2), (131, .bipush 97, 2), (133, .bipush 115, 2), (135, .bipush 116, 2), (137, .iconst 0, 1), (138, .invokevirtual 282, 3), (141, .ifCond .eq 7, 3), (144, .iconst 1, 1), (145, .goto 29, 3), (148, .aload_n 0, 1), (149, .bipush 6, 2), (151, .bipush 109, 2), (153, .bipush 105, 2), (155, .bipush 100, 2), (157, .bipush 100, 2), (159, .bipush 108, 2), (161, .bipush 101, 2), (163, .invokevirtual 282, 3), (166, .ifCond .eq 7, 3), (169, .iconst 2, 1), (170, .goto 4, 3), (173, .iconst (-1), 1)] : List (Nat × Instr × Nat)).all (fun q => decide (decode cX12_readClause q.1 = .ok (q.2.1, q.2.2))) = true := by decide +kernel
theorem dX12_readClause_126 : decode cX12_readClause 126 = .ok (.iconst 5, 1) := all_at dvX12_readClause_126 0 rfl
theorem dX12_readClause_127 : decode cX12_readClause 127 = .ok (.bipush 108, 2) := all_at dvX12_readClause_126 1 rfl
theorem dX12_readClause_129 : decode cX12_readClause 129 = .ok (.bipush 101, 2) := all_at dvX12_readClause_126 2 rfl
theorem dX12_readClause_131 : decode cX12_readClause 131 = .ok (.bipush 97, 2) := all_at dvX12_readClause_126 3 rfl
theorem dX12_readClause_133 : decode cX12_readClause 133 = .ok (.bipush 115, 2) := all_at dvX12_readClause_126 4 rfl
theorem dX12_readClause_135 : decode cX12_readClause 135 = .ok (.bipush 116, 2) := all_at dvX12_readClause_126 5 rfl
theorem dX12_readClause_137 : decode cX12_readClause 137 = .ok (.iconst 0, 1) := all_at dvX12_readClause_126 6 rfl
theorem dX12_readClause_138 : decode cX12_readClause 138 = .ok (.invokevirtual 282, 3) := all_at dvX12_readClause_126 7 rfl
theorem dX12_readClause_141 : decode cX12_readClause 141 = .ok (.ifCond .eq 7, 3) := all_at dvX12_readClause_126 8 rfl
theorem dX12_readClause_144 : decode cX12_readClause 144 = .ok (.iconst 1, 1) := all_at dvX12_readClause_126 9 rfl
theorem dX12_readClause_145 : decode cX12_readClause 145 = .ok (.goto 29, 3) := all_at dvX12_readClause_126 10 rfl
theorem dX12_readClause_148 : decode cX12_readClause 148 = .ok (.aload_n 0, 1) := all_at dvX12_readClause_126 11 rfl
theorem dX12_readClause_149 : decode cX12_readClause 149 = .ok (.bipush 6, 2) := all_at dvX12_readClause_126 12 rfl
theorem dX12_readClause_151 : decode cX12_readClause 151 = .ok (.bipush 109, 2) := all_at dvX12_readClause_126 13 rfl
theorem dX12_readClause_153 : decode cX12_readClause 153 = .ok (.bipush 105, 2) := all_at dvX12_readClause_126 14 rfl
theorem dX12_readClause_155 : decode cX12_readClause 155 = .ok (.bipush 100, 2) := all_at dvX12_readClause_126 15 rfl
theorem dX12_readClause_157 : decode cX12_readClause 157 = .ok (.bipush 100, 2) := all_at dvX12_readClause_126 16 rfl
theorem dX12_readClause_159 : decode cX12_readClause 159 = .ok (.bipush 108, 2) := all_at dvX12_readClause_126 17 rfl
theorem dX12_readClause_161 : decode cX12_readClause 161 = .ok (.bipush 101, 2) := all_at dvX12_readClause_126 18 rfl
theorem dX12_readClause_163 : decode cX12_readClause 163 = .ok (.invokevirtual 282, 3) := all_at dvX12_readClause_126 19 rfl
theorem dX12_readClause_166 : decode cX12_readClause 166 = .ok (.ifCond .eq 7, 3) := all_at dvX12_readClause_126 20 rfl
theorem dX12_readClause_169 : decode cX12_readClause 169 = .ok (.iconst 2, 1) := all_at dvX12_readClause_126 21 rfl
theorem dX12_readClause_170 : decode cX12_readClause 170 = .ok (.goto 4, 3) := all_at dvX12_readClause_126 22 rfl
theorem dX12_readClause_173 : decode cX12_readClause 173 = .ok (.iconst (-1), 1) := all_at dvX12_readClause_126 23 rfl
set_option maxRecDepth 100000 in
theorem dvX12_readClause_174 : ([(174, .iastore, 1), (175, .aload_n 0, 1), (176, .aload_n 0, 1), (177, .getfield 71, 3), (180, .iload_n 2, 1), (181, .iaload, 1), (182, .ifCond .lt 7, 3), (185, .iconst 1, 1), (186, .goto 4, 3), (189, .iconst 0, 1), (190, .iconst 1, 1), (191, .aload_n 0, 1), (192, .getfield 264, 3), (195, .invokevirtual 278, 3), (198, .istore_n 3, 1), (199, .goto 58, 3), (202, .iload_n 1, 1), (203, .iconst 3, 1), (204, .if_icmp .ne 48, 3), (207, .aload_n 0, 1), (208, .getfield 71, 3), (211, .iload_n 2, 1), (212, .aload_n 0, 1), (213, .iconst 0, 1)] : List (Nat × Instr × Nat)).all (fun q => decide (decode cX12_readClause q.1 = .ok (q.2.1, q.2.2))) = true := by decide +kernel
theorem dX12_readClause_174 : decode cX12_readClause 174 = .ok (.iastore, 1) := all_at dvX12_readClause_174 0 rfl
theorem dX12_readClause_175 : decode cX12_readClause 175 = .ok (.aload_n 0, 1) := all_at dvX12_readClause_174 1 rfl
theorem dX12_readClause_176 : decode cX12_readClause 176 = .ok (.aload_n 0, 1) := all_at dvX12_readClause_174 2 rfl
theorem dX12_readClause_177 : decode cX12_readClause 177 = .ok (.getfield 71, 3) := all_at dvX12_readClause_174 3 rfl
theorem dX12_readClause_180 : decode cX12_readClause 180 = .ok (.iload_n 2, 1) := all_at dvX12_readClause_174 4 rfl
theorem dX12_readClause_181 : decode cX12_readClause 181 = .ok (.iaload, 1) := all_at dvX12_readClause_174 5 rfl
theorem dX12_readClause_182 : decode cX12_readClause 182 = .ok (.ifCond .lt 7, 3) := all_at dvX12_readClause_174 6 rfl
theorem dX12_readClause_185 : decode cX12_readClause 185 = .ok (.iconst 1, 1) := all_at dvX12_readClause_174 7 rfl
theorem dX12_readClause_186 : decode cX12_readClause 186 = .ok (.goto 4, 3) := all_at dvX12_readClause_174 8 rfl
theorem dX12_readClause_189 : decode cX12_readClause 189 = .ok (.iconst 0, 1) := all_at dvX12_readClause_174 9 rfl
theorem dX12_readClause_190 : decode cX12_readClause 190 = .ok (.iconst 1, 1) := all_at dvX12_readClause_174 10 rfl
theorem dX12_readClause_191 : decode cX12_readClause 191 = .ok (.aload_n 0, 1) := all_at dvX12_readClause_174 11 rfl
theorem dX12_readClause_192 : decode cX12_readClause 192 = .ok (.getfield 264, 3) := all_at dvX12_readClause_174 12 rfl
theorem dX12_readClause_195 : decode cX12_readClause 195 = .ok (.invokevirtual 278, 3) := all_at dvX12_readClause_174 13 rfl
theorem dX12_readClause_198 : decode cX12_readClause 198 = .ok (.istore_n 3, 1) := all_at dvX12_readClause_174 14 rfl
theorem dX12_readClause_199 : decode cX12_readClause 199 = .ok (.goto 58, 3) := all_at dvX12_readClause_174 15 rfl
theorem dX12_readClause_202 : decode cX12_readClause 202 = .ok (.iload_n 1, 1) := all_at dvX12_readClause_174 16 rfl
theorem dX12_readClause_203 : decode cX12_readClause 203 = .ok (.iconst 3, 1) := all_at dvX12_readClause_174 17 rfl
theorem dX12_readClause_204 : decode cX12_readClause 204 = .ok (.if_icmp .ne 48, 3) := all_at dvX12_readClause_174 18 rfl
theorem dX12_readClause_207 : decode cX12_readClause 207 = .ok (.aload_n 0, 1) := all_at dvX12_readClause_174 19 rfl
theorem dX12_readClause_208 : decode cX12_readClause 208 = .ok (.getfield 71, 3) := all_at dvX12_readClause_174 20 rfl
theorem dX12_readClause_211 : decode cX12_readClause 211 = .ok (.iload_n 2, 1) := all_at dvX12_readClause_174 21 rfl
theorem dX12_readClause_212 : decode cX12_readClause 212 = .ok (.aload_n 0, 1) := all_at dvX12_readClause_174 22 rfl
theorem dX12_readClause_213 : decode cX12_readClause 213 = .ok (.iconst 0, 1) := all_at dvX12_readClause_174 23 rfl
set_option maxRecDepth 100000 in
theorem dvX12_readClause_214 : ([(214, .sipush 9999, 3), (217, .invokevirtual 289, 3), (220, .iastore, 1), (221, .aload_n 0, 1), (222, .aload_n 0, 1), (223, .getfield 71, 3), (226, .iload_n 2, 1), (227, .iaload, 1), (228, .aload_n 0, 1), (229, .getfield 303, 3), (232, .if_icmp .ge 7, 3), (235, .iconst 1, 1), (236, .goto 4, 3), (239, .iconst 0, 1), (240, .iconst 3, 1), (241, .aload_n 0, 1), (242, .getfield 264, 3), (245, .invokevirtual 278, 3), (248, .istore_n 3, 1), (249, .goto 8, 3), (252, .aload_n 0, 1), (253, .iload_n 2, 1), (254, .invokevirtual 306, 3), (257, .aload_n 0, 1)] : List (Nat × Instr × Nat)).all (fun q => decide (decode cX12_readClause q.1 = .ok (q.2.1, q.2.2))) = true := by decide +kernel
theorem dX12_readClause_214 : decode cX12_readClause 214 = .ok (.sipush 9999, 3) := all_at dvX12_readClause_214 0 rfl
theorem dX12_readClause_217 : decode cX12_readClause 217 = .ok (.invokevirtual 289, 3) := all_at dvX12_readClause_214 1 rfl
theorem dX12_readClause_220 : decode cX12_readClause 220 = .ok (.iastore, 1) := all_at dvX12_readClause_214 2 rfl
theorem dX12_readClause_221 : decode cX12_readClause 221 = .ok (.aload_n 0, 1) := all_at dvX12_readClause_214 3 rfl
theorem dX12_readClause_222 : decode cX12_readClause 222 = .ok (.aload_n 0, 1) := all_at dvX12_readClause_214 4 rfl
theorem dX12_readClause_223 : decode cX12_readClause 223 = .ok (.getfield 71, 3) := all_at dvX12_readClause_214 5 rfl
theorem dX12_readClause_226 : decode cX12_readClause 226 = .ok (.iload_n 2, 1) := all_at dvX12_readClause_214 6 rfl
theorem dX12_readClause_227 : decode cX12_readClause 227 = .ok (.iaload, 1) := all_at dvX12_readClause_214 7 rfl
theorem dX12_readClause_228 : decode cX12_readClause 228 = .ok (.aload_n 0, 1) := all_at dvX12_readClause_214 8 rfl
theorem dX12_readClause_229 : decode cX12_readClause 229 = .ok (.getfield 303, 3) := all_at dvX12_readClause_214 9 rfl
theorem dX12_readClause_232 : decode cX12_readClause 232 = .ok (.if_icmp .ge 7, 3) := all_at dvX12_readClause_214 10 rfl
theorem dX12_readClause_235 : decode cX12_readClause 235 = .ok (.iconst 1, 1) := all_at dvX12_readClause_214 11 rfl
theorem dX12_readClause_236 : decode cX12_readClause 236 = .ok (.goto 4, 3) := all_at dvX12_readClause_214 12 rfl
theorem dX12_readClause_239 : decode cX12_readClause 239 = .ok (.iconst 0, 1) := all_at dvX12_readClause_214 13 rfl
theorem dX12_readClause_240 : decode cX12_readClause 240 = .ok (.iconst 3, 1) := all_at dvX12_readClause_214 14 rfl
theorem dX12_readClause_241 : decode cX12_readClause 241 = .ok (.aload_n 0, 1) := all_at dvX12_readClause_214 15 rfl
theorem dX12_readClause_242 : decode cX12_readClause 242 = .ok (.getfield 264, 3) := all_at dvX12_readClause_214 16 rfl
theorem dX12_readClause_245 : decode cX12_readClause 245 = .ok (.invokevirtual 278, 3) := all_at dvX12_readClause_214 17 rfl
theorem dX12_readClause_248 : decode cX12_readClause 248 = .ok (.istore_n 3, 1) := all_at dvX12_readClause_214 18 rfl
theorem dX12_readClause_249 : decode cX12_readClause 249 = .ok (.goto 8, 3) := all_at dvX12_readClause_214 19 rfl
theorem dX12_readClause_252 : decode cX12_readClause 252 = .ok (.aload_n 0, 1) := all_at dvX12_readClause_214 20 rfl
theorem dX12_readClause_253 : decode cX12_readClause 253 = .ok (.iload_n 2, 1) := all_at dvX12_readClause_214 21 rfl
theorem dX12_readClause_254 : decode cX12_readClause 254 = .ok (.invokevirtual 306, 3) := all_at dvX12_readClause_214 22 rfl
theorem dX12_readClause_257 : decode cX12_readClause 257 = .ok (.aload_n 0, 1) := all_at dvX12_readClause_214 23 rfl
set_option maxRecDepth 100000 in
theorem dvX12_readClause_258 : ([(258, .invokevirtual 260, 3), (261, .istore_n 3, 1), (262, .aload_n 0, 1), (263, .iload_n 3, 1), (264, .bipush 59, 2), (266, .if_icmp .ne 7, 3), (269, .iconst 1, 1), (270, .goto 4, 3), (273, .iconst 0, 1), (274, .iconst 1, 1), (275, .aload_n 0, 1), (276, .getfield 254, 3), (279, .invokevirtual 278, 3), (282, .ifCond .eq 13, 3), (285, .aload_n 0, 1), (286, .dup, 1), (287, .getfield 254, 3), (290, .iconst 1, 1), (291, .iadd, 1), (292, .putfield 254, 3), (295, .return_, 1)] : List (Nat × Instr × Nat)).all (fun q => decide (decode cX12_readClause q.1 = .ok (q.2.1, q.2.2))) = true := by decide +kernel
theorem dX12_readClause_258 : decode cX12_readClause 258 = .ok (.invokevirtual 260, 3) := all_at dvX12_readClause_258 0 rfl
theorem dX12_readClause_261 : decode cX12_readClause 261 = .ok (.istore_n 3, 1) := all_at dvX12_readClause_258 1 rfl
theorem dX12_readClause_262 : decode cX12_readClause 262 = .ok (.aload_n 0, 1) := all_at dvX12_readClause_258 2 rfl
theorem dX12_readClause_263 : decode cX12_readClause 263 = .ok (.iload_n 3, 1) := all_at dvX12_readClause_258 3 rfl
theorem dX12_readClause_264 : decode cX12_readClause 264 = .ok (.bipush 59, 2) := all_at dvX12_readClause_258 4 rfl
theorem dX12_readClause_266 : decode cX12_readClause 266 = .ok (.if_icmp .ne 7, 3) := all_at dvX12_readClause_258 5 rfl
theorem dX12_readClause_269 : decode cX12_readClause 269 = .ok (.iconst 1, 1) := all_at dvX12_readClause_258 6 rfl
theorem dX12_readClause_270 : decode cX12_readClause 270 = .ok (.goto 4, 3) := all_at dvX12_readClause_258 7 rfl
theorem dX12_readClause_273 : decode cX12_readClause 273 = .ok (.iconst 0, 1) := all_at dvX12_readClause_258 8 rfl
theorem dX12_readClause_274 : decode cX12_readClause 274 = .ok (.iconst 1, 1) := all_at dvX12_readClause_258 9 rfl
theorem dX12_readClause_275 : decode cX12_readClause 275 = .ok (.aload_n 0, 1) := all_at dvX12_readClause_258 10 rfl
theorem dX12_readClause_276 : decode cX12_readClause 276 = .ok (.getfield 254, 3) := all_at dvX12_readClause_258 11 rfl
theorem dX12_readClause_279 : decode cX12_readClause 279 = .ok (.invokevirtual 278, 3) := all_at dvX12_readClause_258 12 rfl
theorem dX12_readClause_282 : decode cX12_readClause 282 = .ok (.ifCond .eq 13, 3) := all_at dvX12_readClause_258 13 rfl
theorem dX12_readClause_285 : decode cX12_readClause 285 = .ok (.aload_n 0, 1) := all_at dvX12_readClause_258 14 rfl
theorem dX12_readClause_286 : decode cX12_readClause 286 = .ok (.dup, 1) := all_at dvX12_readClause_258 15 rfl
theorem dX12_readClause_287 : decode cX12_readClause 287 = .ok (.getfield 254, 3) := all_at dvX12_readClause_258 16 rfl
theorem dX12_readClause_290 : decode cX12_readClause 290 = .ok (.iconst 1, 1) := all_at dvX12_readClause_258 17 rfl
theorem dX12_readClause_291 : decode cX12_readClause 291 = .ok (.iadd, 1) := all_at dvX12_readClause_258 18 rfl
theorem dX12_readClause_292 : decode cX12_readClause 292 = .ok (.putfield 254, 3) := all_at dvX12_readClause_258 19 rfl
theorem dX12_readClause_295 : decode cX12_readClause 295 = .ok (.return_, 1) := all_at dvX12_readClause_258 20 rfl
set_option maxRecDepth 100000 in
theorem dvX12_readName_0 : ([(0, .aload_n 0, 1), (1, .invokevirtual 286, 3), (4, .aload_n 0, 1), (5, .aload_n 0, 1), (6, .getfield 271, 3), (9, .ifCond .le 7, 3), (12, .iconst 1, 1), (13, .goto 4, 3), (16, .iconst 0, 1), (17, .iconst 1, 1), (18, .aload_n 0, 1), (19, .getfield 264, 3), (22, .invokevirtual 278, 3), (25, .ifCond .eq 29, 3), (28, .aload_n 0, 1), (29, .aload_n 0, 1), (30, .getfield 271, 3), (33, .bipush 9, 2), (35, .if_icmp .ge 7, 3), (38, .iconst 1, 1), (39, .goto 4, 3), (42, .iconst 0, 1), (43, .iconst 4, 1), (44, .aload_n 0, 1)] : List (Nat × Instr × Nat)).all (fun q => decide (decode cX12_readName q.1 = .ok (q.2.1, q.2.2))) = true := by decide +kernel
theorem dX12_readName_0 : decode cX12_readName 0 = .ok (.aload_n 0, 1) := all_at dvX12_readName_0 0 rfl
theorem dX12_readName_1 : decode cX12_readName 1 = .ok (.invokevirtual 286, 3) := all_at dvX12_readName_0 1 rfl
theorem dX12_readName_4 : decode cX12_readName 4 = .ok (.aload_n 0, 1) := all_at dvX12_readName_0 2 rfl
theorem dX12_readName_5 : decode cX12_readName 5 = .ok (.aload_n 0, 1) := all_at dvX12_readName_0 3 rfl
theorem dX12_readName_6 : decode cX12_readName 6 = .ok (.getfield 271, 3) := all_at dvX12_readName_0 4 rfl
theorem dX12_readName_9 : decode cX12_readName 9 = .ok (.ifCond .le 7, 3) := all_at dvX12_readName_0 5 rfl
theorem dX12_readName_12 : decode cX12_readName 12 = .ok (.iconst 1, 1) := all_at dvX12_readName_0 6 rfl
theorem dX12_readName_13 : decode cX12_readName 13 = .ok (.goto 4, 3) := all_at dvX12_readName_0 7 rfl
theorem dX12_readName_16 : decode cX12_readName 16 = .ok (.iconst 0, 1) := all_at dvX12_readName_0 8 rfl
theorem dX12_readName_17 : decode cX12_readName 17 = .ok (.iconst 1, 1) := all_at dvX12_readName_0 9 rfl
theorem dX12_readName_18 : decode cX12_readName 18 = .ok (.aload_n 0, 1) := all_at dvX12_readName_0 10 rfl
theorem dX12_readName_19 : decode cX12_readName 19 = .ok (.getfield 264, 3) := all_at dvX12_readName_0 11 rfl
theorem dX12_readName_22 : decode cX12_readName 22 = .ok (.invokevirtual 278, 3) := all_at dvX12_readName_0 12 rfl
theorem dX12_readName_25 : decode cX12_readName 25 = .ok (.ifCond .eq 29, 3) := all_at dvX12_readName_0 13 rfl
theorem dX12_readName_28 : decode cX12_readName 28 = .ok (.aload_n 0, 1) := all_at dvX12_readName_0 14 rfl
theorem dX12_readName_29 : decode cX12_readName 29 = .ok (.aload_n 0, 1) := all_at dvX12_readName_0 15 rfl
theorem dX12_readName_30 : decode cX12_readName 30 = .ok (.getfield 271, 3) := all_at dvX12_readName_0 16 rfl
theorem dX12_readName_33 : decode cX12_readName 33 = .ok (.bipush 9, 2) := all_at dvX12_readName_0 17 rfl
theorem dX12_readName_35 : decode cX12_readName 35 = .ok (.if_icmp .ge 7, 3) := all_at dvX12_readName_0 18 rfl
theorem dX12_readName_38 : decode cX12_readName 38 = .ok (.iconst 1, 1) := all_at dvX12_readName_0 19 rfl
theorem dX12_readName_39 : decode cX12_readName 39 = .ok (.goto 4, 3) := all_at dvX12_readName_0 20 rfl
theorem dX12_readName_42 : decode cX12_readName 42 = .ok (.iconst 0, 1) := all_at dvX12_readName_0 21 rfl
theorem dX12_readName_43 : decode cX12_readName 43 = .ok (.iconst 4, 1) := all_at dvX12_readName_0 22 rfl
theorem dX12_readName_44 : decode cX12_readName 44 = .ok (.aload_n 0, 1) := all_at dvX12_readName_0 23 rfl
set_option maxRecDepth 100000 in
theorem dvX12_readName_45 : ([(45, .getfield 264, 3), (48, .invokevirtual 278, 3), (51, .ifCond .ne 4, 3), (54, .return_, 1), (55, .aload_n 0, 1), (56, .getfield 77, 3), (59, .iload_n 1, 1), (60, .aload_n 0, 1), (61, .getfield 271, 3), (64, .iastore, 1), (65, .iconst 0, 1), (66, .istore_n 2, 1), (67, .iload_n 2, 1), (68, .aload_n 0, 1), (69, .getfield 271, 3), (72, .if_icmp .ge 31, 3), (75, .aload_n 0, 1), (76, .getfield 80, 3), (79, .bipush 8, 2), (81, .iload_n 1, 1), (82, .imul, 1), (83, .iload_n 2, 1), (84, .iadd, 1), (85, .aload_n 0, 1)] : List (Nat × Instr × Nat)).all (fun q => decide (decode cX12_readName q.1 = .ok (q.2.1, q.2.2))) = true := by decide +kernel
theorem dX12_readName_45 : decode cX12_readName 45 = .ok (.getfield 264, 3) := all_at dvX12_readName_45 0 rfl
theorem dX12_readName_48 : decode cX12_readName 48 = .ok (.invokevirtual 278, 3) := all_at dvX12_readName_45 1 rfl
theorem dX12_readName_51 : decode cX12_readName 51 = .ok (.ifCond .ne 4, 3) := all_at dvX12_readName_45 2 rfl
theorem dX12_readName_54 : decode cX12_readName 54 = .ok (.return_, 1) := all_at dvX12_readName_45 3 rfl
theorem dX12_readName_55 : decode cX12_readName 55 = .ok (.aload_n 0, 1) := all_at dvX12_readName_45 4 rfl
theorem dX12_readName_56 : decode cX12_readName 56 = .ok (.getfield 77, 3) := all_at dvX12_readName_45 5 rfl
theorem dX12_readName_59 : decode cX12_readName 59 = .ok (.iload_n 1, 1) := all_at dvX12_readName_45 6 rfl
theorem dX12_readName_60 : decode cX12_readName 60 = .ok (.aload_n 0, 1) := all_at dvX12_readName_45 7 rfl
theorem dX12_readName_61 : decode cX12_readName 61 = .ok (.getfield 271, 3) := all_at dvX12_readName_45 8 rfl
theorem dX12_readName_64 : decode cX12_readName 64 = .ok (.iastore, 1) := all_at dvX12_readName_45 9 rfl
theorem dX12_readName_65 : decode cX12_readName 65 = .ok (.iconst 0, 1) := all_at dvX12_readName_45 10 rfl
theorem dX12_readName_66 : decode cX12_readName 66 = .ok (.istore_n 2, 1) := all_at dvX12_readName_45 11 rfl
theorem dX12_readName_67 : decode cX12_readName 67 = .ok (.iload_n 2, 1) := all_at dvX12_readName_45 12 rfl
theorem dX12_readName_68 : decode cX12_readName 68 = .ok (.aload_n 0, 1) := all_at dvX12_readName_45 13 rfl
theorem dX12_readName_69 : decode cX12_readName 69 = .ok (.getfield 271, 3) := all_at dvX12_readName_45 14 rfl
theorem dX12_readName_72 : decode cX12_readName 72 = .ok (.if_icmp .ge 31, 3) := all_at dvX12_readName_45 15 rfl
theorem dX12_readName_75 : decode cX12_readName 75 = .ok (.aload_n 0, 1) := all_at dvX12_readName_45 16 rfl
theorem dX12_readName_76 : decode cX12_readName 76 = .ok (.getfield 80, 3) := all_at dvX12_readName_45 17 rfl
theorem dX12_readName_79 : decode cX12_readName 79 = .ok (.bipush 8, 2) := all_at dvX12_readName_45 18 rfl
theorem dX12_readName_81 : decode cX12_readName 81 = .ok (.iload_n 1, 1) := all_at dvX12_readName_45 19 rfl
theorem dX12_readName_82 : decode cX12_readName 82 = .ok (.imul, 1) := all_at dvX12_readName_45 20 rfl
theorem dX12_readName_83 : decode cX12_readName 83 = .ok (.iload_n 2, 1) := all_at dvX12_readName_45 21 rfl
theorem dX12_readName_84 : decode cX12_readName 84 = .ok (.iadd, 1) := all_at dvX12_readName_45 22 rfl
theorem dX12_readName_85 : decode cX12_readName 85 = .ok (.aload_n 0, 1) := all_at dvX12_readName_45 23 rfl
set_option maxRecDepth 100000 in
theorem dvX12_readName_86 : ([(86, .getfield 83, 3), (89, .aload_n 0, 1), (90, .getfield 264, 3), (93, .iload_n 2, 1), (94, .iadd, 1), (95, .iaload, 1), (96, .iastore, 1), (97, .iinc 2 1, 3), (100, .goto (-33), 3), (103, .aload_n 0, 1), (104, .getfield 71, 3), (107, .iload_n 1, 1), (108, .aload_n 0, 1), (109, .iconst 0, 1), (110, .sipush 9999, 3), (113, .invokevirtual 289, 3), (116, .iastore, 1), (117, .aload_n 0, 1), (118, .getfield 257, 3), (121, .ifCond .ne 53, 3), (124, .aload_n 0, 1), (125, .invokevirtual 286, 3), (128, .aload_n 0, 1), (129, .aload_n 0, 1)] : List (Nat × Instr × Nat)).all (fun q => decide (decode cX12_readName q.1 = .ok (q.2.1, q.2.2))) = true := by decide +kernel
theorem dX12_readName_86 : decode cX12_readName 86 = .ok (.getfield 83, 3) := all_at dvX12_readName_86 0 rfl
theorem dX12_readName_89 : decode cX12_readName 89 = .ok (.aload_n 0, 1) := all_at dvX12_readName_86 1 rfl
theorem dX12_readName_90 : decode cX12_readName 90 = .ok (.getfield 264, 3) := all_at dvX12_readName_86 2 rfl
theorem dX12_readName_93 : decode cX12_readName 93 = .ok (.iload_n 2, 1) := all_at dvX12_readName_86 3 rfl
theorem dX12_readName_94 : decode cX12_readName 94 = .ok (.iadd, 1) := all_at dvX12_readName_86 4 rfl
theorem dX12_readName_95 : decode cX12_readName 95 = .ok (.iaload, 1) := all_at dvX12_readName_86 5 rfl
theorem dX12_readName_96 : decode cX12_readName 96 = .ok (.iastore, 1) := all_at dvX12_readName_86 6 rfl
theorem dX12_readName_97 : decode cX12_readName 97 = .ok (.iinc 2 1, 3) := all_at dvX12_readName_86 7 rfl
theorem dX12_readName_100 : decode cX12_readName 100 = .ok (.goto (-33), 3) := all_at dvX12_readName_86 8 rfl
theorem dX12_readName_103 : decode cX12_readName 103 = .ok (.aload_n 0, 1) := all_at dvX12_readName_86 9 rfl
theorem dX12_readName_104 : decode cX12_readName 104 = .ok (.getfield 71, 3) := all_at dvX12_readName_86 10 rfl
theorem dX12_readName_107 : decode cX12_readName 107 = .ok (.iload_n 1, 1) := all_at dvX12_readName_86 11 rfl
theorem dX12_readName_108 : decode cX12_readName 108 = .ok (.aload_n 0, 1) := all_at dvX12_readName_86 12 rfl
theorem dX12_readName_109 : decode cX12_readName 109 = .ok (.iconst 0, 1) := all_at dvX12_readName_86 13 rfl
theorem dX12_readName_110 : decode cX12_readName 110 = .ok (.sipush 9999, 3) := all_at dvX12_readName_86 14 rfl
theorem dX12_readName_113 : decode cX12_readName 113 = .ok (.invokevirtual 289, 3) := all_at dvX12_readName_86 15 rfl
theorem dX12_readName_116 : decode cX12_readName 116 = .ok (.iastore, 1) := all_at dvX12_readName_86 16 rfl
theorem dX12_readName_117 : decode cX12_readName 117 = .ok (.aload_n 0, 1) := all_at dvX12_readName_86 17 rfl
theorem dX12_readName_118 : decode cX12_readName 118 = .ok (.getfield 257, 3) := all_at dvX12_readName_86 18 rfl
theorem dX12_readName_121 : decode cX12_readName 121 = .ok (.ifCond .ne 53, 3) := all_at dvX12_readName_86 19 rfl
theorem dX12_readName_124 : decode cX12_readName 124 = .ok (.aload_n 0, 1) := all_at dvX12_readName_86 20 rfl
theorem dX12_readName_125 : decode cX12_readName 125 = .ok (.invokevirtual 286, 3) := all_at dvX12_readName_86 21 rfl
theorem dX12_readName_128 : decode cX12_readName 128 = .ok (.aload_n 0, 1) := all_at dvX12_readName_86 22 rfl
theorem dX12_readName_129 : decode cX12_readName 129 = .ok (.aload_n 0, 1) := all_at dvX12_readName_86 23 rfl
set_option maxRecDepth 100000 in
theorem dvX12_readName_130 : ([(130, .iconst 2, 1), (131, .bipush 116, 2), (133, .bipush 111, 2), (135, .iconst 0, 1), (136, .iconst 0, 1), (137, .iconst 0, 1), (138, .iconst 0, 1), (139, .invokevirtual 282, 3), (142, .iconst 1, 1), (143, .aload_n 0, 1), (144, .getfield 264, 3), (147, .invokevirtual 278, 3), (150, .ifCond .eq 24, 3), (153, .aload_n 0, 1), (154, .getfield 74, 3), (157, .iload_n 1, 1), (158, .aload_n 0, 1), (159, .aload_n 0, 1), (160, .getfield 71, 3), (163, .iload_n 1, 1), (164, .iaload, 1), (165, .iconst 1, 1), (166, .iadd, 1), (167, .sipush 9999, 3)] : List (Nat × Instr × Nat)).all (fun q => decide (decode cX12_readName q.1 = .ok (q.2.1, q.2.2))) = true := by decide +kernel
theorem dX12_readName_130 : decode cX12_readName 130 = .ok (.iconst 2, 1) := all_at dvX12_readName_130 0 rfl
theorem dX12_readName_131 : decode cX12_readName 131 = .ok (.bipush 116, 2) := all_at dvX12_readName_130 1 rfl
theorem dX12_readName_133 : decode cX12_readName 133 = .ok (.bipush 111, 2) := all_at dvX12_readName_130 2 rfl
theorem dX12_readName_135 : decode cX12_readName 135 = .ok (.iconst 0, 1) := all_at dvX12_readName_130 3 rfl
theorem dX12_readName_136 : decode cX12_readName 136 = .ok (.iconst 0, 1) := all_at dvX12_readName_130 4 rfl
theorem dX12_readName_137 : decode cX12_readName 137 = .ok (.iconst 0, 1) := all_at dvX12_readName_130 5 rfl
theorem dX12_readName_138 : decode cX12_readName 138 = .ok (.iconst 0, 1) := all_at dvX12_readName_130 6 rfl
theorem dX12_readName_139 : decode cX12_readName 139 = .ok (.invokevirtual 282, 3) := all_at dvX12_readName_130 7 rfl
theorem dX12_readName_142 : decode cX12_readName 142 = .ok (.iconst 1, 1) := all_at dvX12_readName_130 8 rfl
theorem dX12_readName_143 : decode cX12_readName 143 = .ok (.aload_n 0, 1) := all_at dvX12_readName_130 9 rfl
theorem dX12_readName_144 : decode cX12_readName 144 = .ok (.getfield 264, 3) := all_at dvX12_readName_130 10 rfl
theorem dX12_readName_147 : decode cX12_readName 147 = .ok (.invokevirtual 278, 3) := all_at dvX12_readName_130 11 rfl
theorem dX12_readName_150 : decode cX12_readName 150 = .ok (.ifCond .eq 24, 3) := all_at dvX12_readName_130 12 rfl
theorem dX12_readName_153 : decode cX12_readName 153 = .ok (.aload_n 0, 1) := all_at dvX12_readName_130 13 rfl
theorem dX12_readName_154 : decode cX12_readName 154 = .ok (.getfield 74, 3) := all_at dvX12_readName_130 14 rfl
theorem dX12_readName_157 : decode cX12_readName 157 = .ok (.iload_n 1, 1) := all_at dvX12_readName_130 15 rfl
theorem dX12_readName_158 : decode cX12_readName 158 = .ok (.aload_n 0, 1) := all_at dvX12_readName_130 16 rfl
theorem dX12_readName_159 : decode cX12_readName 159 = .ok (.aload_n 0, 1) := all_at dvX12_readName_130 17 rfl
theorem dX12_readName_160 : decode cX12_readName 160 = .ok (.getfield 71, 3) := all_at dvX12_readName_130 18 rfl
theorem dX12_readName_163 : decode cX12_readName 163 = .ok (.iload_n 1, 1) := all_at dvX12_readName_130 19 rfl
theorem dX12_readName_164 : decode cX12_readName 164 = .ok (.iaload, 1) := all_at dvX12_readName_130 20 rfl
theorem dX12_readName_165 : decode cX12_readName 165 = .ok (.iconst 1, 1) := all_at dvX12_readName_130 21 rfl
theorem dX12_readName_166 : decode cX12_readName 166 = .ok (.iadd, 1) := all_at dvX12_readName_130 22 rfl
theorem dX12_readName_167 : decode cX12_readName 167 = .ok (.sipush 9999, 3) := all_at dvX12_readName_130 23 rfl
theorem dX12_readName_170 : decode cX12_readName 170 = .ok (.invokevirtual 289, 3) := by decide +kernel
theorem dX12_readName_173 : decode cX12_readName 173 = .ok (.iastore, 1) := by decide +kernel
theorem dX12_readName_174 : decode cX12_readName 174 = .ok (.return_, 1) := by decide +kernel
/-! ===== n4 ===== -/
set_option maxRecDepth 100000 in
theorem m_51 : Cond.selects RX12 yX12_readClause yX12_readClause ∈ tb := tb_in 51 (by decide +kernel) rfl
theorem m_1163 : Cond.fieldLink RX12 59 "SilkHouseModel" "inForce" "[I" ∈ tb := mb_5_5 _ (List.mem_of_getElem? (i := 4) rfl)
theorem m_1476 : Cond.methodLink RX12 310 yX12_readClause ∈ tb := mb_6_4 _ (List.mem_of_getElem? (i := 6) rfl)
theorem m_1478 : Cond.instanceMethod yX12_readClause ∈ tb := mb_6_4 _ (List.mem_of_getElem? (i := 7) rfl)
theorem m_1479 : Cond.code yX12_readClause cX12_readClause 4 none ∈ tb := mb_6_4 _ (List.mem_of_getElem? (i := 8) rfl)
theorem hd_X12_readClause_v : yX12_readClause.cls = RX12 ∧ yX12_readClause.cls ≠ "java/lang/invoke/MethodHandle" ∧ yX12_readClause.cls ≠ "java/lang/invoke/VarHandle" ∧ (parseMethodDescriptor yX12_readClause.desc).map (fun d => d.parameters.length) = some 2 := by decide +kernel
set_option maxRecDepth 100000 in
theorem dvX12_rule_0 : ([(0, .iload_n 1, 1), (1, .invokestatic 216, 3), (4, .ifCond .ne 6, 3), (7, .ldc 178, 2), (9, .ireturn, 1), (10, .aload_n 0, 1), (11, .getfield 303, 3), (14, .bipush 8, 2), (16, .if_icmp .ne 6, 3), (19, .ldc 182, 2), (21, .ireturn, 1), (22, .aload_n 0, 1), (23, .iconst 0, 1), (24, .putfield 254, 3), (27, .aload_n 0, 1), (28, .iconst 0, 1), (29, .putfield 257, 3), (32, .aload_n 0, 1), (33, .iconst (-1), 1), (34, .putfield 86, 3), (37, .iconst 0, 1), (38, .istore_n 2, 1), (39, .aload_n 0, 1), (40, .getfield 257, 3)] : List (Nat × Instr × Nat)).all (fun q => decide (decode cX12_rule q.1 = .ok (q.2.1, q.2.2))) = true := by decide +kernel
theorem dX12_rule_0 : decode cX12_rule 0 = .ok (.iload_n 1, 1) := all_at dvX12_rule_0 0 rfl
theorem dX12_rule_1 : decode cX12_rule 1 = .ok (.invokestatic 216, 3) := all_at dvX12_rule_0 1 rfl
theorem dX12_rule_4 : decode cX12_rule 4 = .ok (.ifCond .ne 6, 3) := all_at dvX12_rule_0 2 rfl
theorem dX12_rule_7 : decode cX12_rule 7 = .ok (.ldc 178, 2) := all_at dvX12_rule_0 3 rfl
theorem dX12_rule_9 : decode cX12_rule 9 = .ok (.ireturn, 1) := all_at dvX12_rule_0 4 rfl
theorem dX12_rule_10 : decode cX12_rule 10 = .ok (.aload_n 0, 1) := all_at dvX12_rule_0 5 rfl
theorem dX12_rule_11 : decode cX12_rule 11 = .ok (.getfield 303, 3) := all_at dvX12_rule_0 6 rfl
theorem dX12_rule_14 : decode cX12_rule 14 = .ok (.bipush 8, 2) := all_at dvX12_rule_0 7 rfl
theorem dX12_rule_16 : decode cX12_rule 16 = .ok (.if_icmp .ne 6, 3) := all_at dvX12_rule_0 8 rfl
theorem dX12_rule_19 : decode cX12_rule 19 = .ok (.ldc 182, 2) := all_at dvX12_rule_0 9 rfl
theorem dX12_rule_21 : decode cX12_rule 21 = .ok (.ireturn, 1) := all_at dvX12_rule_0 10 rfl
theorem dX12_rule_22 : decode cX12_rule 22 = .ok (.aload_n 0, 1) := all_at dvX12_rule_0 11 rfl
theorem dX12_rule_23 : decode cX12_rule 23 = .ok (.iconst 0, 1) := all_at dvX12_rule_0 12 rfl
theorem dX12_rule_24 : decode cX12_rule 24 = .ok (.putfield 254, 3) := all_at dvX12_rule_0 13 rfl
theorem dX12_rule_27 : decode cX12_rule 27 = .ok (.aload_n 0, 1) := all_at dvX12_rule_0 14 rfl
theorem dX12_rule_28 : decode cX12_rule 28 = .ok (.iconst 0, 1) := all_at dvX12_rule_0 15 rfl
theorem dX12_rule_29 : decode cX12_rule 29 = .ok (.putfield 257, 3) := all_at dvX12_rule_0 16 rfl
theorem dX12_rule_32 : decode cX12_rule 32 = .ok (.aload_n 0, 1) := all_at dvX12_rule_0 17 rfl
theorem dX12_rule_33 : decode cX12_rule 33 = .ok (.iconst (-1), 1) := all_at dvX12_rule_0 18 rfl
theorem dX12_rule_34 : decode cX12_rule 34 = .ok (.putfield 86, 3) := all_at dvX12_rule_0 19 rfl
theorem dX12_rule_37 : decode cX12_rule 37 = .ok (.iconst 0, 1) := all_at dvX12_rule_0 20 rfl
theorem dX12_rule_38 : decode cX12_rule 38 = .ok (.istore_n 2, 1) := all_at dvX12_rule_0 21 rfl
theorem dX12_rule_39 : decode cX12_rule 39 = .ok (.aload_n 0, 1) := all_at dvX12_rule_0 22 rfl
theorem dX12_rule_40 : decode cX12_rule 40 = .ok (.getfield 257, 3) := all_at dvX12_rule_0 23 rfl
set_option maxRecDepth 100000 in
theorem dvX12_rule_43 : ([(43, .ifCond .ne 170, 3), (46, .aload_n 0, 1), (47, .invokevirtual 260, 3), (50, .ifCond .lt 163, 3), (53, .aload_n 0, 1), (54, .invokevirtual 286, 3), (57, .aload_n 0, 1), (58, .iconst 3, 1), (59, .bipush 108, 2), (61, .bipush 101, 2), (63, .bipush 116, 2), (65, .iconst 0, 1), (66, .iconst 0, 1), (67, .iconst 0, 1), (68, .invokevirtual 282, 3), (71, .ifCond .eq 7, 3), (74, .iconst 0, 1), (75, .goto 73, 3), (78, .aload_n 0, 1), (79, .iconst 4, 1), (80, .bipush 116, 2), (82, .bipush 97, 2), (84, .bipush 107, 2), (86, .bipush 101, 2)] : List (Nat × Instr × Nat)).all (fun q => decide (decode cX12_rule q.1 = .ok (q.2.1, q.2.2))) = true := by decide +kernel
theorem dX12_rule_43 : decode cX12_rule 43 = .ok (.ifCond .ne 170, 3) := all_at dvX12_rule_43 0 rfl
theorem dX12_rule_46 : decode cX12_rule 46 = .ok (.aload_n 0, 1) := all_at dvX12_rule_43 1 rfl
theorem dX12_rule_47 : decode cX12_rule 47 = .ok (.invokevirtual 260, 3) := all_at dvX12_rule_43 2 rfl
theorem dX12_rule_50 : decode cX12_rule 50 = .ok (.ifCond .lt 163, 3) := all_at dvX12_rule_43 3 rfl
theorem dX12_rule_53 : decode cX12_rule 53 = .ok (.aload_n 0, 1) := all_at dvX12_rule_43 4 rfl
theorem dX12_rule_54 : decode cX12_rule 54 = .ok (.invokevirtual 286, 3) := all_at dvX12_rule_43 5 rfl
theorem dX12_rule_57 : decode cX12_rule 57 = .ok (.aload_n 0, 1) := all_at dvX12_rule_43 6 rfl
theorem dX12_rule_58 : decode cX12_rule 58 = .ok (.iconst 3, 1) := all_at dvX12_rule_43 7 rfl
theorem dX12_rule_59 : decode cX12_rule 59 = .ok (.bipush 108, 2) := all_at dvX12_rule_43 8 rfl
theorem dX12_rule_61 : decode cX12_rule 61 = .ok (.bipush 101, 2) := all_at dvX12_rule_43 9 rfl
theorem dX12_rule_63 : decode cX12_rule 63 = .ok (.bipush 116, 2) := all_at dvX12_rule_43 10 rfl
theorem dX12_rule_65 : decode cX12_rule 65 = .ok (.iconst 0, 1) := all_at dvX12_rule_43 11 rfl
theorem dX12_rule_66 : decode cX12_rule 66 = .ok (.iconst 0, 1) := all_at dvX12_rule_43 12 rfl
theorem dX12_rule_67 : decode cX12_rule 67 = .ok (.iconst 0, 1) := all_at dvX12_rule_43 13 rfl
theorem dX12_rule_68 : decode cX12_rule 68 = .ok (.invokevirtual 282, 3) := all_at dvX12_rule_43 14 rfl
theorem dX12_rule_71 : decode cX12_rule 71 = .ok (.ifCond .eq 7, 3) := all_at dvX12_rule_43 15 rfl
theorem dX12_rule_74 : decode cX12_rule 74 = .ok (.iconst 0, 1) := all_at dvX12_rule_43 16 rfl
theorem dX12_rule_75 : decode cX12_rule 75 = .ok (.goto 73, 3) := all_at dvX12_rule_43 17 rfl
theorem dX12_rule_78 : decode cX12_rule 78 = .ok (.aload_n 0, 1) := all_at dvX12_rule_43 18 rfl
theorem dX12_rule_79 : decode cX12_rule 79 = .ok (.iconst 4, 1) := all_at dvX12_rule_43 19 rfl
theorem dX12_rule_80 : decode cX12_rule 80 = .ok (.bipush 116, 2) := all_at dvX12_rule_43 20 rfl
theorem dX12_rule_82 : decode cX12_rule 82 = .ok (.bipush 97, 2) := all_at dvX12_rule_43 21 rfl
theorem dX12_rule_84 : decode cX12_rule 84 = .ok (.bipush 107, 2) := all_at dvX12_rule_43 22 rfl
theorem dX12_rule_86 : decode cX12_rule 86 = .ok (.bipush 101, 2) := all_at dvX12_rule_43 23 rfl
set_option maxRecDepth 100000 in
theorem dvX12_rule_88 : ([(88, .iconst 0, 1), (89, .iconst 0, 1), (90, .invokevirtual 282, 3), (93, .ifCond .eq 7, 3), (96, .iconst 1, 1), (97, .goto 51, 3), (100, .aload_n 0, 1), (101, .iconst 4, 1), (102, .bipush 110, 2), (104, .bipush 97, 2), (106, .bipush 109, 2), (108, .bipush 101, 2), (110, .iconst 0, 1), (111, .iconst 0, 1), (112, .invokevirtual 282, 3), (115, .ifCond .eq 7, 3), (118, .iconst 2, 1), (119, .goto 29, 3), (122, .aload_n 0, 1), (123, .bipush 6, 2), (125, .bipush 115, 2), (127, .bipush 116, 2), (129, .bipush 114, 2), (131, .bipush 105, 2)] : List (Nat × Instr × Nat)).all (fun q => decide (decode cX12_rule q.1 = .ok (q.2.1, q.2.2))) = true := by decide +kernel
theorem dX12_rule_88 : decode cX12_rule 88 = .ok (.iconst 0, 1) := all_at dvX12_rule_88 0 rfl
theorem dX12_rule_89 : decode cX12_rule 89 = .ok (.iconst 0, 1) := all_at dvX12_rule_88 1 rfl
theorem dX12_rule_90 : decode cX12_rule 90 = .ok (.invokevirtual 282, 3) := all_at dvX12_rule_88 2 rfl
theorem dX12_rule_93 : decode cX12_rule 93 = .ok (.ifCond .eq 7, 3) := all_at dvX12_rule_88 3 rfl
theorem dX12_rule_96 : decode cX12_rule 96 = .ok (.iconst 1, 1) := all_at dvX12_rule_88 4 rfl
theorem dX12_rule_97 : decode cX12_rule 97 = .ok (.goto 51, 3) := all_at dvX12_rule_88 5 rfl
theorem dX12_rule_100 : decode cX12_rule 100 = .ok (.aload_n 0, 1) := all_at dvX12_rule_88 6 rfl
theorem dX12_rule_101 : decode cX12_rule 101 = .ok (.iconst 4, 1) := all_at dvX12_rule_88 7 rfl
theorem dX12_rule_102 : decode cX12_rule 102 = .ok (.bipush 110, 2) := all_at dvX12_rule_88 8 rfl
theorem dX12_rule_104 : decode cX12_rule 104 = .ok (.bipush 97, 2) := all_at dvX12_rule_88 9 rfl
theorem dX12_rule_106 : decode cX12_rule 106 = .ok (.bipush 109, 2) := all_at dvX12_rule_88 10 rfl
theorem dX12_rule_108 : decode cX12_rule 108 = .ok (.bipush 101, 2) := all_at dvX12_rule_88 11 rfl
theorem dX12_rule_110 : decode cX12_rule 110 = .ok (.iconst 0, 1) := all_at dvX12_rule_88 12 rfl
theorem dX12_rule_111 : decode cX12_rule 111 = .ok (.iconst 0, 1) := all_at dvX12_rule_88 13 rfl
theorem dX12_rule_112 : decode cX12_rule 112 = .ok (.invokevirtual 282, 3) := all_at dvX12_rule_88 14 rfl
theorem dX12_rule_115 : decode cX12_rule 115 = .ok (.ifCond .eq 7, 3) := all_at dvX12_rule_88 15 rfl
theorem dX12_rule_118 : decode cX12_rule 118 = .ok (.iconst 2, 1) := all_at dvX12_rule_88 16 rfl
theorem dX12_rule_119 : decode cX12_rule 119 = .ok (.goto 29, 3) := all_at dvX12_rule_88 17 rfl
theorem dX12_rule_122 : decode cX12_rule 122 = .ok (.aload_n 0, 1) := all_at dvX12_rule_88 18 rfl
theorem dX12_rule_123 : decode cX12_rule 123 = .ok (.bipush 6, 2) := all_at dvX12_rule_88 19 rfl
theorem dX12_rule_125 : decode cX12_rule 125 = .ok (.bipush 115, 2) := all_at dvX12_rule_88 20 rfl
theorem dX12_rule_127 : decode cX12_rule 127 = .ok (.bipush 116, 2) := all_at dvX12_rule_88 21 rfl
theorem dX12_rule_129 : decode cX12_rule 129 = .ok (.bipush 114, 2) := all_at dvX12_rule_88 22 rfl
theorem dX12_rule_131 : decode cX12_rule 131 = .ok (.bipush 105, 2) := all_at dvX12_rule_88 23 rfl
set_option maxRecDepth 100000 in
theorem dvX12_rule_133 : ([(133, .bipush 107, 2), (135, .bipush 101, 2), (137, .invokevirtual 282, 3), (140, .ifCond .eq 7, 3), (143, .iconst 3, 1), (144, .goto 4, 3), (147, .iconst (-1), 1), (148, .istore_n 3, 1), (149, .aload_n 0, 1), (150, .iload_n 3, 1), (151, .ifCond .lt 7, 3), (154, .iconst 1, 1), (155, .goto 4, 3), (158, .iconst 0, 1), (159, .iconst 1, 1), (160, .aload_n 0, 1), (161, .getfield 264, 3), (164, .invokevirtual 278, 3), (167, .ifCond .eq 43, 3), (170, .aload_n 0, 1), (171, .iload_n 2, 1), (172, .bipush 12, 2), (174, .if_icmp .ge 7, 3), (177, .iconst 1, 1)] : List (Nat × Instr × Nat)).all (fun q => decide (decode cX12_rule q.1 = .ok (q.2.1, q.2.2))) = true := by decide +kernel
theorem dX12_rule_133 : decode cX12_rule 133 = .ok (.bipush 107, 2) := all_at dvX12_rule_133 0 rfl
theorem dX12_rule_135 : decode cX12_rule 135 = .ok (.bipush 101, 2) := all_at dvX12_rule_133 1 rfl
theorem dX12_rule_137 : decode cX12_rule 137 = .ok (.invokevirtual 282, 3) := all_at dvX12_rule_133 2 rfl
theorem dX12_rule_140 : decode cX12_rule 140 = .ok (.ifCond .eq 7, 3) := all_at dvX12_rule_133 3 rfl
theorem dX12_rule_143 : decode cX12_rule 143 = .ok (.iconst 3, 1) := all_at dvX12_rule_133 4 rfl
theorem dX12_rule_144 : decode cX12_rule 144 = .ok (.goto 4, 3) := all_at dvX12_rule_133 5 rfl
theorem dX12_rule_147 : decode cX12_rule 147 = .ok (.iconst (-1), 1) := all_at dvX12_rule_133 6 rfl
theorem dX12_rule_148 : decode cX12_rule 148 = .ok (.istore_n 3, 1) := all_at dvX12_rule_133 7 rfl
theorem dX12_rule_149 : decode cX12_rule 149 = .ok (.aload_n 0, 1) := all_at dvX12_rule_133 8 rfl
theorem dX12_rule_150 : decode cX12_rule 150 = .ok (.iload_n 3, 1) := all_at dvX12_rule_133 9 rfl
theorem dX12_rule_151 : decode cX12_rule 151 = .ok (.ifCond .lt 7, 3) := all_at dvX12_rule_133 10 rfl
theorem dX12_rule_154 : decode cX12_rule 154 = .ok (.iconst 1, 1) := all_at dvX12_rule_133 11 rfl
theorem dX12_rule_155 : decode cX12_rule 155 = .ok (.goto 4, 3) := all_at dvX12_rule_133 12 rfl
theorem dX12_rule_158 : decode cX12_rule 158 = .ok (.iconst 0, 1) := all_at dvX12_rule_133 13 rfl
theorem dX12_rule_159 : decode cX12_rule 159 = .ok (.iconst 1, 1) := all_at dvX12_rule_133 14 rfl
theorem dX12_rule_160 : decode cX12_rule 160 = .ok (.aload_n 0, 1) := all_at dvX12_rule_133 15 rfl
theorem dX12_rule_161 : decode cX12_rule 161 = .ok (.getfield 264, 3) := all_at dvX12_rule_133 16 rfl
theorem dX12_rule_164 : decode cX12_rule 164 = .ok (.invokevirtual 278, 3) := all_at dvX12_rule_133 17 rfl
theorem dX12_rule_167 : decode cX12_rule 167 = .ok (.ifCond .eq 43, 3) := all_at dvX12_rule_133 18 rfl
theorem dX12_rule_170 : decode cX12_rule 170 = .ok (.aload_n 0, 1) := all_at dvX12_rule_133 19 rfl
theorem dX12_rule_171 : decode cX12_rule 171 = .ok (.iload_n 2, 1) := all_at dvX12_rule_133 20 rfl
theorem dX12_rule_172 : decode cX12_rule 172 = .ok (.bipush 12, 2) := all_at dvX12_rule_133 21 rfl
theorem dX12_rule_174 : decode cX12_rule 174 = .ok (.if_icmp .ge 7, 3) := all_at dvX12_rule_133 22 rfl
theorem dX12_rule_177 : decode cX12_rule 177 = .ok (.iconst 1, 1) := all_at dvX12_rule_133 23 rfl
set_option maxRecDepth 100000 in
theorem dvX12_rule_178 : ([(178, .goto 4, 3), (181, .iconst 0, 1), (182, .iconst 5, 1), (183, .aload_n 0, 1), (184, .getfield 264, 3), (187, .invokevirtual 278, 3), (190, .ifCond .eq 20, 3), (193, .aload_n 0, 1), (194, .iload_n 3, 1), (195, .bipush 12, 2), (197, .aload_n 0, 1), (198, .getfield 303, 3), (201, .imul, 1), (202, .iload_n 2, 1), (203, .iadd, 1), (204, .invokevirtual 310, 3), (207, .iinc 2 1, 3), (210, .goto (-171), 3), (213, .aload_n 0, 1), (214, .iconst 0, 1), (215, .putfield 249, 3), (218, .aload_n 0, 1), (219, .getfield 257, 3), (222, .ifCond .le 11, 3)] : List (Nat × Instr × Nat)).all (fun q => decide (decode cX12_rule q.1 = .ok (q.2.1, q.2.2))) = true := by decide +kernel
theorem dX12_rule_178 : decode cX12_rule 178 = .ok (.goto 4, 3) := all_at dvX12_rule_178 0 rfl
theorem dX12_rule_181 : decode cX12_rule 181 = .ok (.iconst 0, 1) := all_at dvX12_rule_178 1 rfl
theorem dX12_rule_182 : decode cX12_rule 182 = .ok (.iconst 5, 1) := all_at dvX12_rule_178 2 rfl
theorem dX12_rule_183 : decode cX12_rule 183 = .ok (.aload_n 0, 1) := all_at dvX12_rule_178 3 rfl
theorem dX12_rule_184 : decode cX12_rule 184 = .ok (.getfield 264, 3) := all_at dvX12_rule_178 4 rfl
theorem dX12_rule_187 : decode cX12_rule 187 = .ok (.invokevirtual 278, 3) := all_at dvX12_rule_178 5 rfl
theorem dX12_rule_190 : decode cX12_rule 190 = .ok (.ifCond .eq 20, 3) := all_at dvX12_rule_178 6 rfl
theorem dX12_rule_193 : decode cX12_rule 193 = .ok (.aload_n 0, 1) := all_at dvX12_rule_178 7 rfl
theorem dX12_rule_194 : decode cX12_rule 194 = .ok (.iload_n 3, 1) := all_at dvX12_rule_178 8 rfl
theorem dX12_rule_195 : decode cX12_rule 195 = .ok (.bipush 12, 2) := all_at dvX12_rule_178 9 rfl
theorem dX12_rule_197 : decode cX12_rule 197 = .ok (.aload_n 0, 1) := all_at dvX12_rule_178 10 rfl
theorem dX12_rule_198 : decode cX12_rule 198 = .ok (.getfield 303, 3) := all_at dvX12_rule_178 11 rfl
theorem dX12_rule_201 : decode cX12_rule 201 = .ok (.imul, 1) := all_at dvX12_rule_178 12 rfl
theorem dX12_rule_202 : decode cX12_rule 202 = .ok (.iload_n 2, 1) := all_at dvX12_rule_178 13 rfl
theorem dX12_rule_203 : decode cX12_rule 203 = .ok (.iadd, 1) := all_at dvX12_rule_178 14 rfl
theorem dX12_rule_204 : decode cX12_rule 204 = .ok (.invokevirtual 310, 3) := all_at dvX12_rule_178 15 rfl
theorem dX12_rule_207 : decode cX12_rule 207 = .ok (.iinc 2 1, 3) := all_at dvX12_rule_178 16 rfl
theorem dX12_rule_210 : decode cX12_rule 210 = .ok (.goto (-171), 3) := all_at dvX12_rule_178 17 rfl
theorem dX12_rule_213 : decode cX12_rule 213 = .ok (.aload_n 0, 1) := all_at dvX12_rule_178 18 rfl
theorem dX12_rule_214 : decode cX12_rule 214 = .ok (.iconst 0, 1) := all_at dvX12_rule_178 19 rfl
theorem dX12_rule_215 : decode cX12_rule 215 = .ok (.putfield 249, 3) := all_at dvX12_rule_178 20 rfl
theorem dX12_rule_218 : decode cX12_rule 218 = .ok (.aload_n 0, 1) := all_at dvX12_rule_178 21 rfl
theorem dX12_rule_219 : decode cX12_rule 219 = .ok (.getfield 257, 3) := all_at dvX12_rule_178 22 rfl
theorem dX12_rule_222 : decode cX12_rule 222 = .ok (.ifCond .le 11, 3) := all_at dvX12_rule_178 23 rfl
set_option maxRecDepth 100000 in
theorem dvX12_rule_225 : ([(225, .bipush (-10), 2), (227, .aload_n 0, 1), (228, .getfield 257, 3), (231, .isub, 1), (232, .ireturn, 1), (233, .aload_n 0, 1), (234, .getfield 62, 3), (237, .aload_n 0, 1), (238, .getfield 303, 3), (241, .iload_n 2, 1), (242, .iastore, 1), (243, .aload_n 0, 1), (244, .getfield 59, 3), (247, .aload_n 0, 1), (248, .getfield 303, 3), (251, .iload_n 1, 1), (252, .iastore, 1), (253, .aload_n 0, 1), (254, .dup, 1), (255, .getfield 303, 3), (258, .iconst 1, 1), (259, .iadd, 1), (260, .putfield 303, 3), (263, .aload_n 0, 1)] : List (Nat × Instr × Nat)).all (fun q => decide (decode cX12_rule q.1 = .ok (q.2.1, q.2.2))) = true := by decide +kernel
theorem dX12_rule_225 : decode cX12_rule 225 = .ok (.bipush (-10), 2) := all_at dvX12_rule_225 0 rfl
theorem dX12_rule_227 : decode cX12_rule 227 = .ok (.aload_n 0, 1) := all_at dvX12_rule_225 1 rfl
theorem dX12_rule_228 : decode cX12_rule 228 = .ok (.getfield 257, 3) := all_at dvX12_rule_225 2 rfl
theorem dX12_rule_231 : decode cX12_rule 231 = .ok (.isub, 1) := all_at dvX12_rule_225 3 rfl
theorem dX12_rule_232 : decode cX12_rule 232 = .ok (.ireturn, 1) := all_at dvX12_rule_225 4 rfl
theorem dX12_rule_233 : decode cX12_rule 233 = .ok (.aload_n 0, 1) := all_at dvX12_rule_225 5 rfl
theorem dX12_rule_234 : decode cX12_rule 234 = .ok (.getfield 62, 3) := all_at dvX12_rule_225 6 rfl
theorem dX12_rule_237 : decode cX12_rule 237 = .ok (.aload_n 0, 1) := all_at dvX12_rule_225 7 rfl
theorem dX12_rule_238 : decode cX12_rule 238 = .ok (.getfield 303, 3) := all_at dvX12_rule_225 8 rfl
theorem dX12_rule_241 : decode cX12_rule 241 = .ok (.iload_n 2, 1) := all_at dvX12_rule_225 9 rfl
theorem dX12_rule_242 : decode cX12_rule 242 = .ok (.iastore, 1) := all_at dvX12_rule_225 10 rfl
theorem dX12_rule_243 : decode cX12_rule 243 = .ok (.aload_n 0, 1) := all_at dvX12_rule_225 11 rfl
theorem dX12_rule_244 : decode cX12_rule 244 = .ok (.getfield 59, 3) := all_at dvX12_rule_225 12 rfl
theorem dX12_rule_247 : decode cX12_rule 247 = .ok (.aload_n 0, 1) := all_at dvX12_rule_225 13 rfl
theorem dX12_rule_248 : decode cX12_rule 248 = .ok (.getfield 303, 3) := all_at dvX12_rule_225 14 rfl
theorem dX12_rule_251 : decode cX12_rule 251 = .ok (.iload_n 1, 1) := all_at dvX12_rule_225 15 rfl
theorem dX12_rule_252 : decode cX12_rule 252 = .ok (.iastore, 1) := all_at dvX12_rule_225 16 rfl
theorem dX12_rule_253 : decode cX12_rule 253 = .ok (.aload_n 0, 1) := all_at dvX12_rule_225 17 rfl
theorem dX12_rule_254 : decode cX12_rule 254 = .ok (.dup, 1) := all_at dvX12_rule_225 18 rfl
theorem dX12_rule_255 : decode cX12_rule 255 = .ok (.getfield 303, 3) := all_at dvX12_rule_225 19 rfl
theorem dX12_rule_258 : decode cX12_rule 258 = .ok (.iconst 1, 1) := all_at dvX12_rule_225 20 rfl
theorem dX12_rule_259 : decode cX12_rule 259 = .ok (.iadd, 1) := all_at dvX12_rule_225 21 rfl
theorem dX12_rule_260 : decode cX12_rule 260 = .ok (.putfield 303, 3) := all_at dvX12_rule_225 22 rfl
theorem dX12_rule_263 : decode cX12_rule 263 = .ok (.aload_n 0, 1) := all_at dvX12_rule_225 23 rfl
set_option maxRecDepth 100000 in
theorem dvX12_rule_264 : ([(264, .getfield 303, 3), (267, .iconst 1, 1), (268, .isub, 1), (269, .ireturn, 1)] : List (Nat × Instr × Nat)).all (fun q => decide (decode cX12_rule q.1 = .ok (q.2.1, q.2.2))) = true := by decide +kernel
theorem dX12_rule_264 : decode cX12_rule 264 = .ok (.getfield 303, 3) := all_at dvX12_rule_264 0 rfl
theorem dX12_rule_267 : decode cX12_rule 267 = .ok (.iconst 1, 1) := all_at dvX12_rule_264 1 rfl
theorem dX12_rule_268 : decode cX12_rule 268 = .ok (.isub, 1) := all_at dvX12_rule_264 2 rfl
theorem dX12_rule_269 : decode cX12_rule 269 = .ok (.ireturn, 1) := all_at dvX12_rule_264 3 rfl
