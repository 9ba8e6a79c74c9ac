-- ===== end of PART A; then your names; then what follows =====
/-! THE CLAIM OUT OF ONE WALK OF THE LAW'S BODY. Your part is whole_start (and what it stands on); all else here is the same for every law, but numbers. -/
def R_law : String := "SilkHouseLaw"
def lw_P (b : Addr) (xs : List Int32) (args : Array Value) (s : State) : Prop := args = #[.ref b] ∧ s.IntsAt b xs ∧ xs.length ≤ 8 ∧ (Jvm.Cond.and given_1 narrow_1).before args s = true
def lw_Q (_ : Array Value) (s : State) (o : Outcome) (t : State) : Prop := o = .returned (some (.int 1)) ∧ Framed s o t [] 600000 7302250
def lw_Z (below : List Frame) (a : Array Value) (s : State) : State → Prop := fun t => ∃ o, t.status = .running ∧ Ended t below o ∧ lw_Q a s o t
/-- the law's own end, with 1 on the stack, nothing written that was there before, its room as the claim has it -/
theorem lw_ret {p : Program} {l : Launch} {e : Env} {s : State} {m : MethodId} {below : List Frame} {meth : Method} {c : Code} {b : Nat} (hx : p.tables.exec = Jvm.exec) (hb : c.code = code) (hr : meth.sig.returnType = ret) (hlocks : meth.locks = false) {pc : Nat} {H : Heap} {ls : Array Slot} (hdg : decode code pc = .ok (.ireturn, 1)) : W p l e room_1 s m #[Value.ref b] below meth c H [] 600000 7302250 (lw_Z below #[Value.ref b] s) (F0 m pc ls [.int 1]) := by
  intro T hT X
  obtain ⟨fs, hret, hrun, hended, hW, hframe⟩ := X.leave (v := some (.int 1)) (hlocks := hlocks) (fun h => by rw [hr] at h; cases h)
  have hmeth' : T.vm.method? m = some meth := X.method'
  refine ⟨T.setFrames fs, ?_, .returned (some (.int 1)), hrun, hended, rfl, ⟨_, rfl⟩, hW, hframe⟩
  jvm_step X.here [X.here.top, hx, hb, hdg, hmeth', hr, ret, narrow_b1]
  (try refine ⟨rfl, ?_⟩); (try refine ⟨rfl, ?_⟩)
  first | (intro acts; rw [hret _ acts rfl rfl rfl]) | rw [hret _ _ rfl rfl rfl]
  exact Steps.refl _
/-- what holds at the law's entry: the machine, the code, the tables' words (any of lw_tbl by 'hts w (by decide +kernel)'), the script of L ints xs at the cell b, what the Statement gives of the start (any of its parts by flat_of_before) -/
def lw_At (p : Program) (s : State) (m : MethodId) (meth : Method) (c : Code) (b L : Nat) (xs : Nat → Int32) : Prop :=
  p.tables.exec = Jvm.exec ∧ c.code = code ∧ meth.sig.returnType = ret ∧ c.maxLocals = 4 ∧ s.vm.findClass R_law = some m.cls ∧ (∀ w ∈ lw_tbl, w.before #[Value.ref b] s = true) ∧ va_X b L xs s s.heap ∧ b < s.heap.size ∧ meth.locks = false ∧ (Jvm.Cond.and given_1 narrow_1).before #[Value.ref b] s = true
set_option maxRecDepth 100000 in
theorem af_of {args : Array Value} {s : State} {A : Nat → Prop} (hts : ∀ w ∈ lw_tbl, w.before args s = true) (hgv : (Jvm.Cond.and given_1 narrow_1).before args s = true) (hAs : ∀ q : Nat, A q → s.heap.size ≤ q) {H : Heap} {locs : List Loc} (hS : va_S A s.heap H locs) : ∃ t : Nat, va_Z "SilkHouse$Book" "AT_FIRST" "[I" (.ref t) (fun _ => False) s H ∧ va_T .int t 6 (fun j => .int (F_AFT j)) (fun _ => False) s H := by
  have hs := flat_of_before _ hgv
  have hA0 : ∀ a : Nat, a < s.heap.size → ¬ A a := fun a h q => absurd (hAs a q) (Nat.not_le.mpr h)
  obtain ⟨t, h1, h2⟩ := va_Tof (args := args) (s := s) (tm := .static "SilkHouse$Book" "AT_FIRST" "[I") (ty := .int) (N := 6) (f := fun j => .int (F_AFT j)) (A := A) (by decide) (hs _ (by decide +kernel)) (va_eqt (hs (Cond.eq (.length (.static "SilkHouse$Book" "AT_FIRST" "[I")) (.int 6)) (by decide +kernel))) (fun j hj => by
    rcases (show j = 0 ∨ j = 1 ∨ j = 2 ∨ j = 3 ∨ j = 4 ∨ j = 5 by omega) with rfl | rfl | rfl | rfl | rfl | rfl
    · exact va_eqt (hs (Cond.eq (.elem (.static "SilkHouse$Book" "AT_FIRST" "[I") (.int 0)) (.int 110)) (by decide +kernel))
    · exact va_eqt (hs (Cond.eq (.elem (.static "SilkHouse$Book" "AT_FIRST" "[I") (.int 1)) (.int 3)) (by decide +kernel))
    · exact va_eqt (hs (Cond.eq (.elem (.static "SilkHouse$Book" "AT_FIRST" "[I") (.int 2)) (.int 5)) (by decide +kernel))
    · exact va_eqt (hs (Cond.eq (.elem (.static "SilkHouse$Book" "AT_FIRST" "[I") (.int 3)) (.int 2)) (by decide +kernel))
    · exact va_eqt (hs (Cond.eq (.elem (.static "SilkHouse$Book" "AT_FIRST" "[I") (.int 4)) (.int 10)) (by decide +kernel))
    · exact va_eqt (hs (Cond.eq (.elem (.static "SilkHouse$Book" "AT_FIRST" "[I") (.int 5)) (.int 0)) (by decide +kernel))) hA0
  have hz := va_Zof (A := A) (hts (.laysStatic "SilkHouse$Book" "AT_FIRST" "[I") (List.mem_of_getElem? (i := 617) rfl)) (hts (.initialized "SilkHouse$Book") (List.mem_of_getElem? (i := 81) rfl)) h1 hA0
  exact ⟨t, (hz.kept hS.2.1).narrow (fun _ h => h.elim), (h2.kept hS.2.1).narrow (fun _ h => h.elim)⟩
set_option maxHeartbeats 4000000 in
set_option maxRecDepth 100000 in
theorem law_tail {p : Program} {e : Env} {s : State} {m : MethodId} {below : List Frame} {meth : Method} {c : Code} (l : Launch) {b L : Nat} {xs : Nat → Int32} (hL : L = 8) (C0 : lw_At p s m meth c b L xs) {A : Nat → Prop} (hA : ∀ q : Nat, s.heap.size ≤ q → A q) (hbA : ¬ A b) (hAs : ∀ q : Nat, A q → s.heap.size ≤ q) {x y : Nat} {H : Heap} {locs : List Loc} (hS : va_S A s.heap H locs) {ls : Array Slot} (hl : lv_has ls 4 [(3, .int 0), (2, .ref y), (1, .ref x), (0, .ref b)]) : W p l e room_1 s m #[Value.ref b] below meth c H locs 98 5431 (lw_Z below #[Value.ref b] s) (F0 m 1511 ls []) := by
  obtain ⟨hx, hb, hr, hml, hown, hts, hX, hbl, hlocks, hgv⟩ := id C0
  have ht := tb_of hts
  refine lv_iinc (v := 8) (lv' := [(3, .int 8), (2, .ref y), (1, .ref x), (0, .ref b)]) hx hb dL_law_1511 hl (k := 0) rfl (by decide) (by decide) rfl (fun ls hl => ?_)
  refine lv_goto (tgt := 18) hx hb dL_law_1514 (by decide) ?_
  refine lv_iload_n hx hb dL_law_18 rfl (lv_at hl 0 rfl) ?_
  refine lv_aload_n hx hb dL_law_19 rfl (lv_at hl 3 rfl) ?_
  refine va_slen hx hb hX hbl hbA hS dL_law_20 ?_
  refine lv_topi (fun v1 ev1 => ?_)
  refine lv_bipush (v := 8) hx hb dL_law_21 (by decide) ?_
  refine lv_isub hx hb dL_law_23 ?_
  refine lv_topi (fun v2 ev2 => ?_)
  subst hL
  refine lv_icmp_gt (tgt := 1517) hx hb dL_law_24 (by decide) (fun c9 => ?_) (fun c9 => ?_)
  · skip
    refine lv_iconst (v := 1) hx hb dL_law_1517 (by decide) ?_
    refine va_forget (fun q hq => hAs _ (hS.2.2 q hq)) ?_
    refine W.widen (k := 600000) (n := 7302250) (by decide) (by decide) ?_
    exact lw_ret hx hb hr hlocks dL_law_1518
  · exfalso; exact c9 (by rw [ev2, ev1]; decide)
set_option maxHeartbeats 4000000 in
set_option maxRecDepth 100000 in
/-- go -/
theorem law_0 {p : Program} {e : Env} {s : State} {m : MethodId} {below : List Frame} {meth : Method} {c : Code} (l : Launch) {b L : Nat} {xs : Nat → Int32} (hL : L = 8) (C0 : lw_At p s m meth c b L xs) {dC : Nat → ClassId} {dI : Nat → Nat → Nat} {A : Nat → Prop} (hA : ∀ q : Nat, s.heap.size ≤ q → A q) (hbA : ¬ A b) (hAs : ∀ q : Nat, A q → s.heap.size ≤ q) {x y : Nat} {gx gy : Nat → Nat → Nat} {cax cay : Nat → Nat → ClassId} {H : Heap} {locs : List Loc} (hK : va_K (dC, dI) classes [] s) (hP : va_P (dC, dI) classes [(x, .inr (11, (o11 x gx))), (y, .inr (12, (o12 y gy)))] H) (hD : va_D A [(x, .inr (11, (o11 x gx))), (y, .inr (12, (o12 y gy)))]) (hS : va_S A s.heap H locs) {ls : Array Slot} (hl : lv_has ls 4 [(3, .int 0), (2, .ref y), (1, .ref x), (0, .ref b)]) : W p l e room_1 s m #[Value.ref b] below meth c H locs 98 5431 (lw_Z below #[Value.ref b] s) (F0 m 200 ls []) := by
  obtain ⟨hx, hb, hr, hml, hown, hts, hX, hbl, hlocks, hgv⟩ := id C0
  have ht := tb_of hts
  refine lv_aload_n hx hb dL_law_200 rfl (lv_at hl 2 rfl) ?_
  refine lv_aload_n hx hb dL_law_201 rfl (lv_at hl 3 rfl) ?_
  refine lv_iload_n hx hb dL_law_202 rfl (lv_at hl 0 rfl) ?_
  refine lv_iconst (v := 1) hx hb dL_law_203 (by decide) ?_
  refine lv_iadd hx hb dL_law_204 ?_
  refine lv_topi (fun v1 ev1 => ?_)
  obtain rfl : 1 = v1 := (ev1.trans (by decide)).symm
  refine va_sld hx hb hX hbl hbA hS (vp_in_iff.mpr (by rw [hL]; decide) : vp_in 1 L) dL_law_205 ?_
  refine lv_topi (fun v2 ev2 => ?_)
  obtain rfl : xs 1 = v2 := ev2.symm
  have hPc := hP.sub (ws' := [(x, .inr (11, (o11 x gx)))]) [0] rfl
  have hKc := hK.sub (tys' := []) [] rfl
  have hDc := hD.sub (ws' := [(x, .inr (11, (o11 x gx)))]) [0] (by decide) rfl
  have hFc := va_free (wc := [(x, .inr (11, (o11 x gx)))]) hD hS hA [0] rfl
  refine va_calli (va_runV (As := [.int (xs 1)]) (rest := []) ⟨hx, hb, hml, hown, ht⟩ (c_X11_go l dC dI H.size x gx cax (xs 1)) (kV 1 ht m_449 m_450 m_451 m_77 m_452 rfl rfl hd_X11_go_v ⟨Nat.le_of_ble_eq_true rfl, Nat.le_of_ble_eq_true rfl⟩) (vW hPc hKc hDc (va_recv hKc hPc (ci := 11) (q0 := 0) rfl rfl)) rfl rfl hl.1 rfl (lv_room (Nat.le_of_ble_eq_true rfl)) dL_law_206 ⟨Nat.le_of_ble_eq_true rfl, Nat.le_of_ble_eq_true rfl⟩) hS (fun q _ h => hFc q h) hFc (fun r3 u t H1 locs ht9 hvm hr3 hB hz1 hk1 hS => ?_)
  have hP1 : va_P (dC, dI) classes [] H1 := noP
  have hD1 : va_D (va_A [(x, .inr (11, (o11 x gx)))] H.size) [] := noD
  obtain ⟨hP, hD⟩ := va_join (wr := [(y, .inr (12, (o12 y gy)))]) (w1 := []) hP hD [0] [1] rfl rfl (by decide) (by decide) hk1 hFc hP1 hD1
  generalize H1 = H at hP hS ⊢
  have hP : va_P (dC, dI) classes [(y, .inr (12, (o12 y gy)))] H := hP
  have hD : va_D A [(y, .inr (12, (o12 y gy)))] := hD
  obtain rfl : (F_go (xs 1)) = r3 := hr3.symm
  refine lv_aload_n hx hb dL_law_209 rfl (lv_at hl 1 rfl) ?_
  refine lv_aload_n hx hb dL_law_210 rfl (lv_at hl 3 rfl) ?_
  refine lv_iload_n hx hb dL_law_211 rfl (lv_at hl 0 rfl) ?_
  refine lv_iconst (v := 1) hx hb dL_law_212 (by decide) ?_
  refine lv_iadd hx hb dL_law_213 ?_
  refine lv_topi (fun v4 ev4 => ?_)
  obtain rfl : 1 = v4 := (ev4.trans (by decide)).symm
  refine va_sld hx hb hX hbl hbA hS (vp_in_iff.mpr (by rw [hL]; decide) : vp_in 1 L) dL_law_214 ?_
  refine lv_topi (fun v5 ev5 => ?_)
  obtain rfl : xs 1 = v5 := ev5.symm
  have hPc := hP.sub (ws' := [(y, .inr (12, (o12 y gy)))]) [0] rfl
  have hKc := hK.sub (tys' := []) [] rfl
  have hDc := hD.sub (ws' := [(y, .inr (12, (o12 y gy)))]) [0] (by decide) rfl
  have hFc := va_free (wc := [(y, .inr (12, (o12 y gy)))]) hD hS hA [0] rfl
  refine va_calli (va_runV (As := [.int (xs 1)]) (rest := [.int (F_go (xs 1))]) ⟨hx, hb, hml, hown, ht⟩ (c_X12_go l dC dI H.size y gy cay (xs 1)) (kV 1 ht m_1365 m_1366 m_1367 m_89 m_1368 rfl rfl hd_X12_go_v ⟨Nat.le_of_ble_eq_true rfl, Nat.le_of_ble_eq_true rfl⟩) (vW hPc hKc hDc (va_recv hKc hPc (ci := 12) (q0 := 0) rfl rfl)) rfl rfl hl.1 rfl (lv_room (Nat.le_of_ble_eq_true rfl)) dL_law_215 ⟨Nat.le_of_ble_eq_true rfl, Nat.le_of_ble_eq_true rfl⟩) hS (fun q _ h => hFc q h) hFc (fun r6 u t H1 locs ht9 hvm hr6 hB hz1 hk1 hS => ?_)
  have hP1 : va_P (dC, dI) classes [] H1 := noP
  have hD1 : va_D (va_A [(y, .inr (12, (o12 y gy)))] H.size) [] := noD
  obtain ⟨hP, hD⟩ := va_join (wr := []) (w1 := []) hP hD [0] [] rfl rfl (by decide) (by decide) hk1 hFc hP1 hD1
  generalize H1 = H at hP hS ⊢
  have hP : va_P (dC, dI) classes [] H := hP
  have hD : va_D A [] := hD
  obtain rfl : (F_go (xs 1)) = r6 := hr6.symm
  refine lv_icmp_eq (tgt := 1511) hx hb dL_law_218 (by decide) (fun c7 => ?_) (fun c7 => ?_)
  · skip
    exact law_tail l hL C0 hA hbA hAs hS hl
  · exact absurd rfl c7
set_option maxHeartbeats 4000000 in
set_option maxRecDepth 100000 in
/-- bale -/
theorem law_1 {p : Program} {e : Env} {s : State} {m : MethodId} {below : List Frame} {meth : Method} {c : Code} (l : Launch) {b L : Nat} {xs : Nat → Int32} (hL : L = 8) (C0 : lw_At p s m meth c b L xs) {dC : Nat → ClassId} {dI : Nat → Nat → Nat} {A : Nat → Prop} (hA : ∀ q : Nat, s.heap.size ≤ q → A q) (hbA : ¬ A b) (hAs : ∀ q : Nat, A q → s.heap.size ≤ q) {x y : Nat} {gx gy : Nat → Nat → Nat} {cax cay : Nat → Nat → ClassId} {H : Heap} {locs : List Loc} (hK : va_K (dC, dI) classes [((cax 0 0), .int), ((cay 12 2), .int), ((cay 12 51), .int), ((cay 12 53), .int)] s) (hP : va_P (dC, dI) classes [(x, .inr (11, (o11 x gx))), ((gx 11 2), .inr (0, (o0 x gx))), ((gx 0 0), .inl ((cax 0 0), 10, .inl (fun _ => 0))), (y, .inr (12, (o12 y gy))), ((gy 12 2), .inl ((cay 12 2), 10, .inl (fun _ => 0))), ((gy 12 51), .inl ((cay 12 51), 10, .inl (fun _ => 0))), ((gy 12 53), .inl ((cay 12 53), 10, .inl (fun _ => 0)))] H) (hD : va_D A [(x, .inr (11, (o11 x gx))), ((gx 11 2), .inr (0, (o0 x gx))), ((gx 0 0), .inl ((cax 0 0), 10, .inl (fun _ => 0))), (y, .inr (12, (o12 y gy))), ((gy 12 2), .inl ((cay 12 2), 10, .inl (fun _ => 0))), ((gy 12 51), .inl ((cay 12 51), 10, .inl (fun _ => 0))), ((gy 12 53), .inl ((cay 12 53), 10, .inl (fun _ => 0)))]) (hS : va_S A s.heap H locs) {ls : Array Slot} (hl : lv_has ls 4 [(3, .int 0), (2, .ref y), (1, .ref x), (0, .ref b)]) : W p l e room_1 s m #[Value.ref b] below meth c H locs 98 5431 (lw_Z below #[Value.ref b] s) (F0 m 223 ls []) := by
  obtain ⟨hx, hb, hr, hml, hown, hts, hX, hbl, hlocks, hgv⟩ := id C0
  have ht := tb_of hts
  refine lv_aload_n hx hb dL_law_223 rfl (lv_at hl 2 rfl) ?_
  refine lv_aload_n hx hb dL_law_224 rfl (lv_at hl 3 rfl) ?_
  refine lv_iload_n hx hb dL_law_225 rfl (lv_at hl 0 rfl) ?_
  refine lv_iconst (v := 1) hx hb dL_law_226 (by decide) ?_
  refine lv_iadd hx hb dL_law_227 ?_
  refine lv_topi (fun v1 ev1 => ?_)
  obtain rfl : 1 = v1 := (ev1.trans (by decide)).symm
  refine va_sld hx hb hX hbl hbA hS (vp_in_iff.mpr (by rw [hL]; decide) : vp_in 1 L) dL_law_228 ?_
  refine lv_topi (fun v2 ev2 => ?_)
  obtain rfl : xs 1 = v2 := ev2.symm
  have hPc := hP.sub (ws' := [(x, .inr (11, (o11 x gx))), ((gx 11 2), .inr (0, (o0 x gx))), ((gx 0 0), .inl ((cax 0 0), 10, .inl (fun _ => 0)))]) [0, 1, 2] rfl
  have hKc := hK.sub (tys' := [((cax 0 0), .int)]) [0] rfl
  have hDc := hD.sub (ws' := [(x, .inr (11, (o11 x gx))), ((gx 11 2), .inr (0, (o0 x gx))), ((gx 0 0), .inl ((cax 0 0), 10, .inl (fun _ => 0)))]) [0, 1, 2] (by decide) rfl
  have hFc := va_free (wc := [(x, .inr (11, (o11 x gx))), ((gx 11 2), .inr (0, (o0 x gx))), ((gx 0 0), .inl ((cax 0 0), 10, .inl (fun _ => 0)))]) hD hS hA [0, 1, 2] rfl
  refine va_calli (va_runV (As := [.int (xs 1)]) (rest := []) ⟨hx, hb, hml, hown, ht⟩ (c_X11_bale l dC dI H.size x gx cax (xs 1)) (kV 1 ht m_458 m_459 m_460 m_77 m_461 rfl rfl hd_X11_bale_v ⟨Nat.le_of_ble_eq_true rfl, Nat.le_of_ble_eq_true rfl⟩) (vW hPc hKc hDc (va_recv hKc hPc (ci := 11) (q0 := 0) rfl rfl)) rfl rfl hl.1 rfl (lv_room (Nat.le_of_ble_eq_true rfl)) dL_law_229 ⟨Nat.le_of_ble_eq_true rfl, Nat.le_of_ble_eq_true rfl⟩) hS (fun q _ h => hFc q h) hFc (fun r3 u t H1 locs ht9 hvm hr3 hB hz1 hk1 hS => ?_)
  have hP1 : va_P (dC, dI) classes [] H1 := noP
  have hD1 : va_D (va_A [(x, .inr (11, (o11 x gx))), ((gx 11 2), .inr (0, (o0 x gx))), ((gx 0 0), .inl ((cax 0 0), 10, .inl (fun _ => 0)))] H.size) [] := noD
  obtain ⟨hP, hD⟩ := va_join (wr := [(y, .inr (12, (o12 y gy))), ((gy 12 2), .inl ((cay 12 2), 10, .inl (fun _ => 0))), ((gy 12 51), .inl ((cay 12 51), 10, .inl (fun _ => 0))), ((gy 12 53), .inl ((cay 12 53), 10, .inl (fun _ => 0)))]) (w1 := []) hP hD [0, 1, 2] [3, 4, 5, 6] rfl rfl (by decide) (by decide) hk1 hFc hP1 hD1
  generalize H1 = H at hP hS ⊢
  have hP : va_P (dC, dI) classes [(y, .inr (12, (o12 y gy))), ((gy 12 2), .inl ((cay 12 2), 10, .inl (fun _ => 0))), ((gy 12 51), .inl ((cay 12 51), 10, .inl (fun _ => 0))), ((gy 12 53), .inl ((cay 12 53), 10, .inl (fun _ => 0)))] H := hP
  have hD : va_D A [(y, .inr (12, (o12 y gy))), ((gy 12 2), .inl ((cay 12 2), 10, .inl (fun _ => 0))), ((gy 12 51), .inl ((cay 12 51), 10, .inl (fun _ => 0))), ((gy 12 53), .inl ((cay 12 53), 10, .inl (fun _ => 0)))] := hD
  obtain rfl : (F_bale (xs 1)) = r3 := hr3.symm
  refine lv_aload_n hx hb dL_law_232 rfl (lv_at hl 1 rfl) ?_
  refine lv_aload_n hx hb dL_law_233 rfl (lv_at hl 3 rfl) ?_
  refine lv_iload_n hx hb dL_law_234 rfl (lv_at hl 0 rfl) ?_
  refine lv_iconst (v := 1) hx hb dL_law_235 (by decide) ?_
  refine lv_iadd hx hb dL_law_236 ?_
  refine lv_topi (fun v4 ev4 => ?_)
  obtain rfl : 1 = v4 := (ev4.trans (by decide)).symm
  refine va_sld hx hb hX hbl hbA hS (vp_in_iff.mpr (by rw [hL]; decide) : vp_in 1 L) dL_law_237 ?_
  refine lv_topi (fun v5 ev5 => ?_)
  obtain rfl : xs 1 = v5 := ev5.symm
  have hPc := hP.sub (ws' := [(y, .inr (12, (o12 y gy))), ((gy 12 2), .inl ((cay 12 2), 10, .inl (fun _ => 0))), ((gy 12 51), .inl ((cay 12 51), 10, .inl (fun _ => 0))), ((gy 12 53), .inl ((cay 12 53), 10, .inl (fun _ => 0)))]) [0, 1, 2, 3] rfl
  have hKc := hK.sub (tys' := [((cay 12 2), .int), ((cay 12 51), .int), ((cay 12 53), .int)]) [1, 2, 3] rfl
  have hDc := hD.sub (ws' := [(y, .inr (12, (o12 y gy))), ((gy 12 2), .inl ((cay 12 2), 10, .inl (fun _ => 0))), ((gy 12 51), .inl ((cay 12 51), 10, .inl (fun _ => 0))), ((gy 12 53), .inl ((cay 12 53), 10, .inl (fun _ => 0)))]) [0, 1, 2, 3] (by decide) rfl
  have hFc := va_free (wc := [(y, .inr (12, (o12 y gy))), ((gy 12 2), .inl ((cay 12 2), 10, .inl (fun _ => 0))), ((gy 12 51), .inl ((cay 12 51), 10, .inl (fun _ => 0))), ((gy 12 53), .inl ((cay 12 53), 10, .inl (fun _ => 0)))]) hD hS hA [0, 1, 2, 3] rfl
  refine va_calli (va_runV (As := [.int (xs 1)]) (rest := [.int (F_bale (xs 1))]) ⟨hx, hb, hml, hown, ht⟩ (c_X12_bale l dC dI H.size y gy cay (xs 1)) (kV 1 ht m_1375 m_1376 m_1377 m_89 m_1378 rfl rfl hd_X12_bale_v ⟨Nat.le_of_ble_eq_true rfl, Nat.le_of_ble_eq_true rfl⟩) (vW hPc hKc hDc (va_recv hKc hPc (ci := 12) (q0 := 0) rfl rfl)) rfl rfl hl.1 rfl (lv_room (Nat.le_of_ble_eq_true rfl)) dL_law_238 ⟨Nat.le_of_ble_eq_true rfl, Nat.le_of_ble_eq_true rfl⟩) hS (fun q _ h => hFc q h) hFc (fun r6 u t H1 locs ht9 hvm hr6 hB hz1 hk1 hS => ?_)
  have hP1 : va_P (dC, dI) classes [] H1 := noP
  have hD1 : va_D (va_A [(y, .inr (12, (o12 y gy))), ((gy 12 2), .inl ((cay 12 2), 10, .inl (fun _ => 0))), ((gy 12 51), .inl ((cay 12 51), 10, .inl (fun _ => 0))), ((gy 12 53), .inl ((cay 12 53), 10, .inl (fun _ => 0)))] H.size) [] := noD
  obtain ⟨hP, hD⟩ := va_join (wr := []) (w1 := []) hP hD [0, 1, 2, 3] [] rfl rfl (by decide) (by decide) hk1 hFc hP1 hD1
  generalize H1 = H at hP hS ⊢
  have hP : va_P (dC, dI) classes [] H := hP
  have hD : va_D A [] := hD
  obtain rfl : (F_bale (xs 1)) = r6 := hr6.symm
  refine lv_icmp_eq (tgt := 1511) hx hb dL_law_241 (by decide) (fun c7 => ?_) (fun c7 => ?_)
  · skip
    exact law_tail l hL C0 hA hbA hAs hS hl
  · exact absurd rfl c7
set_option maxHeartbeats 4000000 in
set_option maxRecDepth 100000 in
/-- skein -/
theorem law_2 {p : Program} {e : Env} {s : State} {m : MethodId} {below : List Frame} {meth : Method} {c : Code} (l : Launch) {b L : Nat} {xs : Nat → Int32} (hL : L = 8) (C0 : lw_At p s m meth c b L xs) {dC : Nat → ClassId} {dI : Nat → Nat → Nat} {A : Nat → Prop} (hA : ∀ q : Nat, s.heap.size ≤ q → A q) (hbA : ¬ A b) (hAs : ∀ q : Nat, A q → s.heap.size ≤ q) {x y : Nat} {gx gy : Nat → Nat → Nat} {cax cay : Nat → Nat → ClassId} {H : Heap} {locs : List Loc} (hK : va_K (dC, dI) classes [] s) (hP : va_P (dC, dI) classes [(x, .inr (11, (o11 x gx))), ((gx 11 2), .inr (0, (o0 x gx))), (y, .inr (12, (o12 y gy)))] H) (hD : va_D A [(x, .inr (11, (o11 x gx))), ((gx 11 2), .inr (0, (o0 x gx))), (y, .inr (12, (o12 y gy)))]) (hS : va_S A s.heap H locs) {ls : Array Slot} (hl : lv_has ls 4 [(3, .int 0), (2, .ref y), (1, .ref x), (0, .ref b)]) : W p l e room_1 s m #[Value.ref b] below meth c H locs 98 5431 (lw_Z below #[Value.ref b] s) (F0 m 246 ls []) := by
  obtain ⟨hx, hb, hr, hml, hown, hts, hX, hbl, hlocks, hgv⟩ := id C0
  have ht := tb_of hts
  refine lv_aload_n hx hb dL_law_246 rfl (lv_at hl 2 rfl) ?_
  refine lv_aload_n hx hb dL_law_247 rfl (lv_at hl 3 rfl) ?_
  refine lv_iload_n hx hb dL_law_248 rfl (lv_at hl 0 rfl) ?_
  refine lv_iconst (v := 1) hx hb dL_law_249 (by decide) ?_
  refine lv_iadd hx hb dL_law_250 ?_
  refine lv_topi (fun v1 ev1 => ?_)
  obtain rfl : 1 = v1 := (ev1.trans (by decide)).symm
  refine va_sld hx hb hX hbl hbA hS (vp_in_iff.mpr (by rw [hL]; decide) : vp_in 1 L) dL_law_251 ?_
  refine lv_topi (fun v2 ev2 => ?_)
  obtain rfl : xs 1 = v2 := ev2.symm
  refine lv_aload_n hx hb dL_law_252 rfl (lv_at hl 3 rfl) ?_
  refine lv_iload_n hx hb dL_law_253 rfl (lv_at hl 0 rfl) ?_
  refine lv_iconst (v := 2) hx hb dL_law_254 (by decide) ?_
  refine lv_iadd hx hb dL_law_255 ?_
  refine lv_topi (fun v3 ev3 => ?_)
  obtain rfl : 2 = v3 := (ev3.trans (by decide)).symm
  refine va_sld hx hb hX hbl hbA hS (vp_in_iff.mpr (by rw [hL]; decide) : vp_in 2 L) dL_law_256 ?_
  refine lv_topi (fun v4 ev4 => ?_)
  obtain rfl : xs 2 = v4 := ev4.symm
  refine lv_aload_n hx hb dL_law_257 rfl (lv_at hl 3 rfl) ?_
  refine lv_iload_n hx hb dL_law_258 rfl (lv_at hl 0 rfl) ?_
  refine lv_iconst (v := 3) hx hb dL_law_259 (by decide) ?_
  refine lv_iadd hx hb dL_law_260 ?_
  refine lv_topi (fun v5 ev5 => ?_)
  obtain rfl : 3 = v5 := (ev5.trans (by decide)).symm
  refine va_sld hx hb hX hbl hbA hS (vp_in_iff.mpr (by rw [hL]; decide) : vp_in 3 L) dL_law_261 ?_
  refine lv_topi (fun v6 ev6 => ?_)
  obtain rfl : xs 3 = v6 := ev6.symm
  refine lv_aload_n hx hb dL_law_262 rfl (lv_at hl 3 rfl) ?_
  refine lv_iload_n hx hb dL_law_263 rfl (lv_at hl 0 rfl) ?_
  refine lv_iconst (v := 4) hx hb dL_law_264 (by decide) ?_
  refine lv_iadd hx hb dL_law_265 ?_
  refine lv_topi (fun v7 ev7 => ?_)
  obtain rfl : 4 = v7 := (ev7.trans (by decide)).symm
  refine va_sld hx hb hX hbl hbA hS (vp_in_iff.mpr (by rw [hL]; decide) : vp_in 4 L) dL_law_266 ?_
  refine lv_topi (fun v8 ev8 => ?_)
  obtain rfl : xs 4 = v8 := ev8.symm
  refine lv_aload_n hx hb dL_law_267 rfl (lv_at hl 3 rfl) ?_
  refine lv_iload_n hx hb dL_law_268 rfl (lv_at hl 0 rfl) ?_
  refine lv_iconst (v := 5) hx hb dL_law_269 (by decide) ?_
  refine lv_iadd hx hb dL_law_270 ?_
  refine lv_topi (fun v9 ev9 => ?_)
  obtain rfl : 5 = v9 := (ev9.trans (by decide)).symm
  refine va_sld hx hb hX hbl hbA hS (vp_in_iff.mpr (by rw [hL]; decide) : vp_in 5 L) dL_law_271 ?_
  refine lv_topi (fun v10 ev10 => ?_)
  obtain rfl : xs 5 = v10 := ev10.symm
  refine lv_aload_n hx hb dL_law_272 rfl (lv_at hl 3 rfl) ?_
  refine lv_iload_n hx hb dL_law_273 rfl (lv_at hl 0 rfl) ?_
  refine lv_bipush (v := 6) hx hb dL_law_274 (by decide) ?_
  refine lv_iadd hx hb dL_law_276 ?_
  refine lv_topi (fun v11 ev11 => ?_)
  obtain rfl : 6 = v11 := (ev11.trans (by decide)).symm
  refine va_sld hx hb hX hbl hbA hS (vp_in_iff.mpr (by rw [hL]; decide) : vp_in 6 L) dL_law_277 ?_
  refine lv_topi (fun v12 ev12 => ?_)
  obtain rfl : xs 6 = v12 := ev12.symm
  refine lv_aload_n hx hb dL_law_278 rfl (lv_at hl 3 rfl) ?_
  refine lv_iload_n hx hb dL_law_279 rfl (lv_at hl 0 rfl) ?_
  refine lv_bipush (v := 7) hx hb dL_law_280 (by decide) ?_
  refine lv_iadd hx hb dL_law_282 ?_
  refine lv_topi (fun v13 ev13 => ?_)
  obtain rfl : 7 = v13 := (ev13.trans (by decide)).symm
  refine va_sld hx hb hX hbl hbA hS (vp_in_iff.mpr (by rw [hL]; decide) : vp_in 7 L) dL_law_283 ?_
  refine lv_topi (fun v14 ev14 => ?_)
  obtain rfl : xs 7 = v14 := ev14.symm
  have hPc := hP.sub (ws' := [(x, .inr (11, (o11 x gx))), ((gx 11 2), .inr (0, (o0 x gx)))]) [0, 1] rfl
  have hKc := hK.sub (tys' := []) [] rfl
  refine vp_callSi (W.runV (As := [.int (xs 1), .int (xs 2), .int (xs 3), .int (xs 4), .int (xs 5), .int (xs 6), .int (xs 7)]) (rest := []) ⟨hx, hb, hml, hown, ht⟩ (c_X11_skein l dC dI x gx cax (xs 1) (xs 2) (xs 3) (xs 4) (xs 5) (xs 6) (xs 7)) (kV 7 ht m_468 m_469 m_470 m_77 m_471 rfl rfl hd_X11_skein_v ⟨Nat.le_of_ble_eq_true rfl, Nat.le_of_ble_eq_true rfl⟩) (vR hPc hKc (va_recv hKc hPc (ci := 11) (q0 := 0) rfl rfl)) rfl rfl hl.1 rfl (lv_room (Nat.le_of_ble_eq_true rfl)) dL_law_284 ⟨Nat.le_of_ble_eq_true rfl, Nat.le_of_ble_eq_true rfl⟩) (fun r15 hr15 => ?_)
  obtain rfl : (-100001) = r15 := hr15.symm
  refine lv_aload_n hx hb dL_law_287 rfl (lv_at hl 1 rfl) ?_
  refine lv_aload_n hx hb dL_law_288 rfl (lv_at hl 3 rfl) ?_
  refine lv_iload_n hx hb dL_law_289 rfl (lv_at hl 0 rfl) ?_
  refine lv_iconst (v := 1) hx hb dL_law_290 (by decide) ?_
  refine lv_iadd hx hb dL_law_291 ?_
  refine lv_topi (fun v16 ev16 => ?_)
  obtain rfl : 1 = v16 := (ev16.trans (by decide)).symm
  refine va_sld hx hb hX hbl hbA hS (vp_in_iff.mpr (by rw [hL]; decide) : vp_in 1 L) dL_law_292 ?_
  refine lv_topi (fun v17 ev17 => ?_)
  obtain rfl : xs 1 = v17 := ev17.symm
  refine lv_aload_n hx hb dL_law_293 rfl (lv_at hl 3 rfl) ?_
  refine lv_iload_n hx hb dL_law_294 rfl (lv_at hl 0 rfl) ?_
  refine lv_iconst (v := 2) hx hb dL_law_295 (by decide) ?_
  refine lv_iadd hx hb dL_law_296 ?_
  refine lv_topi (fun v18 ev18 => ?_)
  obtain rfl : 2 = v18 := (ev18.trans (by decide)).symm
  refine va_sld hx hb hX hbl hbA hS (vp_in_iff.mpr (by rw [hL]; decide) : vp_in 2 L) dL_law_297 ?_
  refine lv_topi (fun v19 ev19 => ?_)
  obtain rfl : xs 2 = v19 := ev19.symm
  refine lv_aload_n hx hb dL_law_298 rfl (lv_at hl 3 rfl) ?_
  refine lv_iload_n hx hb dL_law_299 rfl (lv_at hl 0 rfl) ?_
  refine lv_iconst (v := 3) hx hb dL_law_300 (by decide) ?_
  refine lv_iadd hx hb dL_law_301 ?_
  refine lv_topi (fun v20 ev20 => ?_)
  obtain rfl : 3 = v20 := (ev20.trans (by decide)).symm
  refine va_sld hx hb hX hbl hbA hS (vp_in_iff.mpr (by rw [hL]; decide) : vp_in 3 L) dL_law_302 ?_
  refine lv_topi (fun v21 ev21 => ?_)
  obtain rfl : xs 3 = v21 := ev21.symm
  refine lv_aload_n hx hb dL_law_303 rfl (lv_at hl 3 rfl) ?_
  refine lv_iload_n hx hb dL_law_304 rfl (lv_at hl 0 rfl) ?_
  refine lv_iconst (v := 4) hx hb dL_law_305 (by decide) ?_
  refine lv_iadd hx hb dL_law_306 ?_
  refine lv_topi (fun v22 ev22 => ?_)
  obtain rfl : 4 = v22 := (ev22.trans (by decide)).symm
  refine va_sld hx hb hX hbl hbA hS (vp_in_iff.mpr (by rw [hL]; decide) : vp_in 4 L) dL_law_307 ?_
  refine lv_topi (fun v23 ev23 => ?_)
  obtain rfl : xs 4 = v23 := ev23.symm
  refine lv_aload_n hx hb dL_law_308 rfl (lv_at hl 3 rfl) ?_
  refine lv_iload_n hx hb dL_law_309 rfl (lv_at hl 0 rfl) ?_
  refine lv_iconst (v := 5) hx hb dL_law_310 (by decide) ?_
  refine lv_iadd hx hb dL_law_311 ?_
  refine lv_topi (fun v24 ev24 => ?_)
  obtain rfl : 5 = v24 := (ev24.trans (by decide)).symm
  refine va_sld hx hb hX hbl hbA hS (vp_in_iff.mpr (by rw [hL]; decide) : vp_in 5 L) dL_law_312 ?_
  refine lv_topi (fun v25 ev25 => ?_)
  obtain rfl : xs 5 = v25 := ev25.symm
  refine lv_aload_n hx hb dL_law_313 rfl (lv_at hl 3 rfl) ?_
  refine lv_iload_n hx hb dL_law_314 rfl (lv_at hl 0 rfl) ?_
  refine lv_bipush (v := 6) hx hb dL_law_315 (by decide) ?_
  refine lv_iadd hx hb dL_law_317 ?_
  refine lv_topi (fun v26 ev26 => ?_)
  obtain rfl : 6 = v26 := (ev26.trans (by decide)).symm
  refine va_sld hx hb hX hbl hbA hS (vp_in_iff.mpr (by rw [hL]; decide) : vp_in 6 L) dL_law_318 ?_
  refine lv_topi (fun v27 ev27 => ?_)
  obtain rfl : xs 6 = v27 := ev27.symm
  refine lv_aload_n hx hb dL_law_319 rfl (lv_at hl 3 rfl) ?_
  refine lv_iload_n hx hb dL_law_320 rfl (lv_at hl 0 rfl) ?_
  refine lv_bipush (v := 7) hx hb dL_law_321 (by decide) ?_
  refine lv_iadd hx hb dL_law_323 ?_
  refine lv_topi (fun v28 ev28 => ?_)
  obtain rfl : 7 = v28 := (ev28.trans (by decide)).symm
  refine va_sld hx hb hX hbl hbA hS (vp_in_iff.mpr (by rw [hL]; decide) : vp_in 7 L) dL_law_324 ?_
  refine lv_topi (fun v29 ev29 => ?_)
  obtain rfl : xs 7 = v29 := ev29.symm
  have hPc := hP.sub (ws' := [(y, .inr (12, (o12 y gy)))]) [2] rfl
  have hKc := hK.sub (tys' := []) [] rfl
  refine vp_callSi (W.runV (As := [.int (xs 1), .int (xs 2), .int (xs 3), .int (xs 4), .int (xs 5), .int (xs 6), .int (xs 7)]) (rest := [.int (-100001)]) ⟨hx, hb, hml, hown, ht⟩ (c_X12_skein l dC dI y gy cay (xs 1) (xs 2) (xs 3) (xs 4) (xs 5) (xs 6) (xs 7)) (kV 7 ht m_1381 m_1382 m_1383 m_89 m_1384 rfl rfl hd_X12_skein_v ⟨Nat.le_of_ble_eq_true rfl, Nat.le_of_ble_eq_true rfl⟩) (vR hPc hKc (va_recv hKc hPc (ci := 12) (q0 := 0) rfl rfl)) rfl rfl hl.1 rfl (lv_room (Nat.le_of_ble_eq_true rfl)) dL_law_325 ⟨Nat.le_of_ble_eq_true rfl, Nat.le_of_ble_eq_true rfl⟩) (fun r30 hr30 => ?_)
  obtain rfl : (-100001) = r30 := hr30.symm
  refine lv_icmp_eq (tgt := 1511) hx hb dL_law_328 (by decide) (fun c31 => ?_) (fun c31 => ?_)
  · skip
    exact law_tail l hL C0 hA hbA hAs hS hl
  · exact absurd rfl c31
set_option maxHeartbeats 4000000 in
set_option maxRecDepth 100000 in
/-- lose -/
theorem law_3 {p : Program} {e : Env} {s : State} {m : MethodId} {below : List Frame} {meth : Method} {c : Code} (l : Launch) {b L : Nat} {xs : Nat → Int32} (hL : L = 8) (C0 : lw_At p s m meth c b L xs) {dC : Nat → ClassId} {dI : Nat → Nat → Nat} {A : Nat → Prop} (hA : ∀ q : Nat, s.heap.size ≤ q → A q) (hbA : ¬ A b) (hAs : ∀ q : Nat, A q → s.heap.size ≤ q) {x y : Nat} {gx gy : Nat → Nat → Nat} {cax cay : Nat → Nat → ClassId} {H : Heap} {locs : List Loc} (hK : va_K (dC, dI) classes [] s) (hP : va_P (dC, dI) classes [(x, .inr (11, (o11 x gx))), ((gx 11 0), .inr (10, (o10 x gx))), (y, .inr (12, (o12 y gy)))] H) (hD : va_D A [(x, .inr (11, (o11 x gx))), ((gx 11 0), .inr (10, (o10 x gx))), (y, .inr (12, (o12 y gy)))]) (hS : va_S A s.heap H locs) {ls : Array Slot} (hl : lv_has ls 4 [(3, .int 0), (2, .ref y), (1, .ref x), (0, .ref b)]) : W p l e room_1 s m #[Value.ref b] below meth c H locs 98 5431 (lw_Z below #[Value.ref b] s) (F0 m 333 ls []) := by
  obtain ⟨hx, hb, hr, hml, hown, hts, hX, hbl, hlocks, hgv⟩ := id C0
  have ht := tb_of hts
  refine lv_aload_n hx hb dL_law_333 rfl (lv_at hl 2 rfl) ?_
  refine lv_aload_n hx hb dL_law_334 rfl (lv_at hl 3 rfl) ?_
  refine lv_iload_n hx hb dL_law_335 rfl (lv_at hl 0 rfl) ?_
  refine lv_iconst (v := 1) hx hb dL_law_336 (by decide) ?_
  refine lv_iadd hx hb dL_law_337 ?_
  refine lv_topi (fun v1 ev1 => ?_)
  obtain rfl : 1 = v1 := (ev1.trans (by decide)).symm
  refine va_sld hx hb hX hbl hbA hS (vp_in_iff.mpr (by rw [hL]; decide) : vp_in 1 L) dL_law_338 ?_
  refine lv_topi (fun v2 ev2 => ?_)
  obtain rfl : xs 1 = v2 := ev2.symm
  have hPc := hP.sub (ws' := [(x, .inr (11, (o11 x gx))), ((gx 11 0), .inr (10, (o10 x gx)))]) [0, 1] rfl
  have hKc := hK.sub (tys' := []) [] rfl
  refine vp_callSi (W.runV (As := [.int (xs 1)]) (rest := []) ⟨hx, hb, hml, hown, ht⟩ (c_X11_lose l dC dI x gx cax (xs 1)) (kV 1 ht m_505 m_506 m_507 m_77 m_508 rfl rfl hd_X11_lose_v ⟨Nat.le_of_ble_eq_true rfl, Nat.le_of_ble_eq_true rfl⟩) (vR hPc hKc (va_recv hKc hPc (ci := 11) (q0 := 0) rfl rfl)) rfl rfl hl.1 rfl (lv_room (Nat.le_of_ble_eq_true rfl)) dL_law_339 ⟨Nat.le_of_ble_eq_true rfl, Nat.le_of_ble_eq_true rfl⟩) (fun r3 hr3 => ?_)
  obtain rfl : (-100001) = r3 := hr3.symm
  refine lv_aload_n hx hb dL_law_342 rfl (lv_at hl 1 rfl) ?_
  refine lv_aload_n hx hb dL_law_343 rfl (lv_at hl 3 rfl) ?_
  refine lv_iload_n hx hb dL_law_344 rfl (lv_at hl 0 rfl) ?_
  refine lv_iconst (v := 1) hx hb dL_law_345 (by decide) ?_
  refine lv_iadd hx hb dL_law_346 ?_
  refine lv_topi (fun v4 ev4 => ?_)
  obtain rfl : 1 = v4 := (ev4.trans (by decide)).symm
  refine va_sld hx hb hX hbl hbA hS (vp_in_iff.mpr (by rw [hL]; decide) : vp_in 1 L) dL_law_347 ?_
  refine lv_topi (fun v5 ev5 => ?_)
  obtain rfl : xs 1 = v5 := ev5.symm
  have hPc := hP.sub (ws' := [(y, .inr (12, (o12 y gy)))]) [2] rfl
  have hKc := hK.sub (tys' := []) [] rfl
  refine vp_callSi (W.runV (As := [.int (xs 1)]) (rest := [.int (-100001)]) ⟨hx, hb, hml, hown, ht⟩ (c_X12_lose l dC dI y gy cay (xs 1)) (kV 1 ht m_1399 m_1400 m_1401 m_89 m_1402 rfl rfl hd_X12_lose_v ⟨Nat.le_of_ble_eq_true rfl, Nat.le_of_ble_eq_true rfl⟩) (vR hPc hKc (va_recv hKc hPc (ci := 12) (q0 := 0) rfl rfl)) rfl rfl hl.1 rfl (lv_room (Nat.le_of_ble_eq_true rfl)) dL_law_348 ⟨Nat.le_of_ble_eq_true rfl, Nat.le_of_ble_eq_true rfl⟩) (fun r6 hr6 => ?_)
  obtain rfl : (-100001) = r6 := hr6.symm
  refine lv_icmp_eq (tgt := 1511) hx hb dL_law_351 (by decide) (fun c7 => ?_) (fun c7 => ?_)
  · skip
    exact law_tail l hL C0 hA hbA hAs hS hl
  · exact absurd rfl c7
set_option maxHeartbeats 4000000 in
set_option maxRecDepth 100000 in
/-- told -/
theorem law_4 {p : Program} {e : Env} {s : State} {m : MethodId} {below : List Frame} {meth : Method} {c : Code} (l : Launch) {b L : Nat} {xs : Nat → Int32} (hL : L = 8) (C0 : lw_At p s m meth c b L xs) {dC : Nat → ClassId} {dI : Nat → Nat → Nat} {A : Nat → Prop} (hA : ∀ q : Nat, s.heap.size ≤ q → A q) (hbA : ¬ A b) (hAs : ∀ q : Nat, A q → s.heap.size ≤ q) {x y : Nat} {gx gy : Nat → Nat → Nat} {cax cay : Nat → Nat → ClassId} {H : Heap} {locs : List Loc} (hK : va_K (dC, dI) classes [] s) (hP : va_P (dC, dI) classes [(x, .inr (11, (o11 x gx))), ((gx 11 0), .inr (10, (o10 x gx))), (y, .inr (12, (o12 y gy)))] H) (hD : va_D A [(x, .inr (11, (o11 x gx))), ((gx 11 0), .inr (10, (o10 x gx))), (y, .inr (12, (o12 y gy)))]) (hS : va_S A s.heap H locs) {ls : Array Slot} (hl : lv_has ls 4 [(3, .int 0), (2, .ref y), (1, .ref x), (0, .ref b)]) : W p l e room_1 s m #[Value.ref b] below meth c H locs 98 5431 (lw_Z below #[Value.ref b] s) (F0 m 356 ls []) := by
  obtain ⟨hx, hb, hr, hml, hown, hts, hX, hbl, hlocks, hgv⟩ := id C0
  have ht := tb_of hts
  refine lv_aload_n hx hb dL_law_356 rfl (lv_at hl 2 rfl) ?_
  refine lv_aload_n hx hb dL_law_357 rfl (lv_at hl 3 rfl) ?_
  refine lv_iload_n hx hb dL_law_358 rfl (lv_at hl 0 rfl) ?_
  refine lv_iconst (v := 1) hx hb dL_law_359 (by decide) ?_
  refine lv_iadd hx hb dL_law_360 ?_
  refine lv_topi (fun v1 ev1 => ?_)
  obtain rfl : 1 = v1 := (ev1.trans (by decide)).symm
  refine va_sld hx hb hX hbl hbA hS (vp_in_iff.mpr (by rw [hL]; decide) : vp_in 1 L) dL_law_361 ?_
  refine lv_topi (fun v2 ev2 => ?_)
  obtain rfl : xs 1 = v2 := ev2.symm
  refine lv_aload_n hx hb dL_law_362 rfl (lv_at hl 3 rfl) ?_
  refine lv_iload_n hx hb dL_law_363 rfl (lv_at hl 0 rfl) ?_
  refine lv_iconst (v := 2) hx hb dL_law_364 (by decide) ?_
  refine lv_iadd hx hb dL_law_365 ?_
  refine lv_topi (fun v3 ev3 => ?_)
  obtain rfl : 2 = v3 := (ev3.trans (by decide)).symm
  refine va_sld hx hb hX hbl hbA hS (vp_in_iff.mpr (by rw [hL]; decide) : vp_in 2 L) dL_law_366 ?_
  refine lv_topi (fun v4 ev4 => ?_)
  obtain rfl : xs 2 = v4 := ev4.symm
  have hPc := hP.sub (ws' := [(x, .inr (11, (o11 x gx))), ((gx 11 0), .inr (10, (o10 x gx)))]) [0, 1] rfl
  have hKc := hK.sub (tys' := []) [] rfl
  refine vp_callSi (W.runV (As := [.int (xs 1), .int (xs 2)]) (rest := []) ⟨hx, hb, hml, hown, ht⟩ (c_X11_told l dC dI x gx cax (xs 1) (xs 2)) (kV 2 ht m_518 m_519 m_520 m_77 m_521 rfl rfl hd_X11_told_v ⟨Nat.le_of_ble_eq_true rfl, Nat.le_of_ble_eq_true rfl⟩) (vR hPc hKc (va_recv hKc hPc (ci := 11) (q0 := 0) rfl rfl)) rfl rfl hl.1 rfl (lv_room (Nat.le_of_ble_eq_true rfl)) dL_law_367 ⟨Nat.le_of_ble_eq_true rfl, Nat.le_of_ble_eq_true rfl⟩) (fun r5 hr5 => ?_)
  obtain rfl : (-100001) = r5 := hr5.symm
  refine lv_aload_n hx hb dL_law_370 rfl (lv_at hl 1 rfl) ?_
  refine lv_aload_n hx hb dL_law_371 rfl (lv_at hl 3 rfl) ?_
  refine lv_iload_n hx hb dL_law_372 rfl (lv_at hl 0 rfl) ?_
  refine lv_iconst (v := 1) hx hb dL_law_373 (by decide) ?_
  refine lv_iadd hx hb dL_law_374 ?_
  refine lv_topi (fun v6 ev6 => ?_)
  obtain rfl : 1 = v6 := (ev6.trans (by decide)).symm
  refine va_sld hx hb hX hbl hbA hS (vp_in_iff.mpr (by rw [hL]; decide) : vp_in 1 L) dL_law_375 ?_
  refine lv_topi (fun v7 ev7 => ?_)
  obtain rfl : xs 1 = v7 := ev7.symm
  refine lv_aload_n hx hb dL_law_376 rfl (lv_at hl 3 rfl) ?_
  refine lv_iload_n hx hb dL_law_377 rfl (lv_at hl 0 rfl) ?_
  refine lv_iconst (v := 2) hx hb dL_law_378 (by decide) ?_
  refine lv_iadd hx hb dL_law_379 ?_
  refine lv_topi (fun v8 ev8 => ?_)
  obtain rfl : 2 = v8 := (ev8.trans (by decide)).symm
  refine va_sld hx hb hX hbl hbA hS (vp_in_iff.mpr (by rw [hL]; decide) : vp_in 2 L) dL_law_380 ?_
  refine lv_topi (fun v9 ev9 => ?_)
  obtain rfl : xs 2 = v9 := ev9.symm
  have hPc := hP.sub (ws' := [(y, .inr (12, (o12 y gy)))]) [2] rfl
  have hKc := hK.sub (tys' := []) [] rfl
  refine vp_callSi (W.runV (As := [.int (xs 1), .int (xs 2)]) (rest := [.int (-100001)]) ⟨hx, hb, hml, hown, ht⟩ (c_X12_told l dC dI y gy cay (xs 1) (xs 2)) (kV 2 ht m_1407 m_1408 m_1409 m_89 m_1410 rfl rfl hd_X12_told_v ⟨Nat.le_of_ble_eq_true rfl, Nat.le_of_ble_eq_true rfl⟩) (vR hPc hKc (va_recv hKc hPc (ci := 12) (q0 := 0) rfl rfl)) rfl rfl hl.1 rfl (lv_room (Nat.le_of_ble_eq_true rfl)) dL_law_381 ⟨Nat.le_of_ble_eq_true rfl, Nat.le_of_ble_eq_true rfl⟩) (fun r10 hr10 => ?_)
  obtain rfl : (-100001) = r10 := hr10.symm
  refine lv_icmp_eq (tgt := 1511) hx hb dL_law_384 (by decide) (fun c11 => ?_) (fun c11 => ?_)
  · skip
    exact law_tail l hL C0 hA hbA hAs hS hl
  · exact absurd rfl c11
set_option maxHeartbeats 4000000 in
set_option maxRecDepth 100000 in
/-- test -/
theorem law_5 {p : Program} {e : Env} {s : State} {m : MethodId} {below : List Frame} {meth : Method} {c : Code} (l : Launch) {b L : Nat} {xs : Nat → Int32} (hL : L = 8) (C0 : lw_At p s m meth c b L xs) {dC : Nat → ClassId} {dI : Nat → Nat → Nat} {A : Nat → Prop} (hA : ∀ q : Nat, s.heap.size ≤ q → A q) (hbA : ¬ A b) (hAs : ∀ q : Nat, A q → s.heap.size ≤ q) {x y : Nat} {gx gy : Nat → Nat → Nat} {cax cay : Nat → Nat → ClassId} {H : Heap} {locs : List Loc} (hK : va_K (dC, dI) classes [((cax 9 0), .int), ((cax 9 1), .int), ((cax 9 2), .int), ((cay 12 14), .int), ((cay 12 15), .int), ((cay 12 16), .int)] s) (hP : va_P (dC, dI) classes [(x, .inr (11, (o11 x gx))), ((gx 11 1), .inr (9, (o9 x gx))), ((gx 9 0), .inl ((cax 9 0), 30, .inl (fun _ => 0))), ((gx 9 1), .inl ((cax 9 1), 30, .inl (fun _ => 0))), ((gx 9 2), .inl ((cax 9 2), 30, .inl (fun _ => 0))), (y, .inr (12, (o12 y gy))), ((gy 12 14), .inl ((cay 12 14), 30, .inl (fun _ => 0))), ((gy 12 15), .inl ((cay 12 15), 30, .inl (fun _ => 0))), ((gy 12 16), .inl ((cay 12 16), 30, .inl (fun _ => 0)))] H) (hD : va_D A [(x, .inr (11, (o11 x gx))), ((gx 11 1), .inr (9, (o9 x gx))), ((gx 9 0), .inl ((cax 9 0), 30, .inl (fun _ => 0))), ((gx 9 1), .inl ((cax 9 1), 30, .inl (fun _ => 0))), ((gx 9 2), .inl ((cax 9 2), 30, .inl (fun _ => 0))), (y, .inr (12, (o12 y gy))), ((gy 12 14), .inl ((cay 12 14), 30, .inl (fun _ => 0))), ((gy 12 15), .inl ((cay 12 15), 30, .inl (fun _ => 0))), ((gy 12 16), .inl ((cay 12 16), 30, .inl (fun _ => 0)))]) (hS : va_S A s.heap H locs) {ls : Array Slot} (hl : lv_has ls 4 [(3, .int 0), (2, .ref y), (1, .ref x), (0, .ref b)]) : W p l e room_1 s m #[Value.ref b] below meth c H locs 98 5431 (lw_Z below #[Value.ref b] s) (F0 m 389 ls []) := by
  obtain ⟨hx, hb, hr, hml, hown, hts, hX, hbl, hlocks, hgv⟩ := id C0
  have ht := tb_of hts
  refine lv_aload_n hx hb dL_law_389 rfl (lv_at hl 2 rfl) ?_
  refine lv_aload_n hx hb dL_law_390 rfl (lv_at hl 3 rfl) ?_
  refine lv_iload_n hx hb dL_law_391 rfl (lv_at hl 0 rfl) ?_
  refine lv_iconst (v := 1) hx hb dL_law_392 (by decide) ?_
  refine lv_iadd hx hb dL_law_393 ?_
  refine lv_topi (fun v1 ev1 => ?_)
  obtain rfl : 1 = v1 := (ev1.trans (by decide)).symm
  refine va_sld hx hb hX hbl hbA hS (vp_in_iff.mpr (by rw [hL]; decide) : vp_in 1 L) dL_law_394 ?_
  refine lv_topi (fun v2 ev2 => ?_)
  obtain rfl : xs 1 = v2 := ev2.symm
  refine lv_aload_n hx hb dL_law_395 rfl (lv_at hl 3 rfl) ?_
  refine lv_iload_n hx hb dL_law_396 rfl (lv_at hl 0 rfl) ?_
  refine lv_iconst (v := 2) hx hb dL_law_397 (by decide) ?_
  refine lv_iadd hx hb dL_law_398 ?_
  refine lv_topi (fun v3 ev3 => ?_)
  obtain rfl : 2 = v3 := (ev3.trans (by decide)).symm
  refine va_sld hx hb hX hbl hbA hS (vp_in_iff.mpr (by rw [hL]; decide) : vp_in 2 L) dL_law_399 ?_
  refine lv_topi (fun v4 ev4 => ?_)
  obtain rfl : xs 2 = v4 := ev4.symm
  refine lv_aload_n hx hb dL_law_400 rfl (lv_at hl 3 rfl) ?_
  refine lv_iload_n hx hb dL_law_401 rfl (lv_at hl 0 rfl) ?_
  refine lv_iconst (v := 3) hx hb dL_law_402 (by decide) ?_
  refine lv_iadd hx hb dL_law_403 ?_
  refine lv_topi (fun v5 ev5 => ?_)
  obtain rfl : 3 = v5 := (ev5.trans (by decide)).symm
  refine va_sld hx hb hX hbl hbA hS (vp_in_iff.mpr (by rw [hL]; decide) : vp_in 3 L) dL_law_404 ?_
  refine lv_topi (fun v6 ev6 => ?_)
  obtain rfl : xs 3 = v6 := ev6.symm
  have hPc := hP.sub (ws' := [(x, .inr (11, (o11 x gx))), ((gx 11 1), .inr (9, (o9 x gx))), ((gx 9 0), .inl ((cax 9 0), 30, .inl (fun _ => 0))), ((gx 9 1), .inl ((cax 9 1), 30, .inl (fun _ => 0))), ((gx 9 2), .inl ((cax 9 2), 30, .inl (fun _ => 0)))]) [0, 1, 2, 3, 4] rfl
  have hKc := hK.sub (tys' := [((cax 9 0), .int), ((cax 9 1), .int), ((cax 9 2), .int)]) [0, 1, 2] rfl
  have hDc := hD.sub (ws' := [(x, .inr (11, (o11 x gx))), ((gx 11 1), .inr (9, (o9 x gx))), ((gx 9 0), .inl ((cax 9 0), 30, .inl (fun _ => 0))), ((gx 9 1), .inl ((cax 9 1), 30, .inl (fun _ => 0))), ((gx 9 2), .inl ((cax 9 2), 30, .inl (fun _ => 0)))]) [0, 1, 2, 3, 4] (by decide) rfl
  have hFc := va_free (wc := [(x, .inr (11, (o11 x gx))), ((gx 11 1), .inr (9, (o9 x gx))), ((gx 9 0), .inl ((cax 9 0), 30, .inl (fun _ => 0))), ((gx 9 1), .inl ((cax 9 1), 30, .inl (fun _ => 0))), ((gx 9 2), .inl ((cax 9 2), 30, .inl (fun _ => 0)))]) hD hS hA [0, 1, 2, 3, 4] rfl
  refine va_calli (va_runV (As := [.int (xs 1), .int (xs 2), .int (xs 3)]) (rest := []) ⟨hx, hb, hml, hown, ht⟩ (c_X11_test l dC dI H.size x gx cax (xs 1) (xs 2) (xs 3)) (kV 3 ht m_522 m_523 m_524 m_77 m_525 rfl rfl hd_X11_test_v ⟨Nat.le_of_ble_eq_true rfl, Nat.le_of_ble_eq_true rfl⟩) (vW hPc hKc hDc (va_recv hKc hPc (ci := 11) (q0 := 0) rfl rfl)) rfl rfl hl.1 rfl (lv_room (Nat.le_of_ble_eq_true rfl)) dL_law_405 ⟨Nat.le_of_ble_eq_true rfl, Nat.le_of_ble_eq_true rfl⟩) hS (fun q _ h => hFc q h) hFc (fun r7 u t H1 locs ht9 hvm hr7 hB hz1 hk1 hS => ?_)
  have hP1 : va_P (dC, dI) classes [] H1 := noP
  have hD1 : va_D (va_A [(x, .inr (11, (o11 x gx))), ((gx 11 1), .inr (9, (o9 x gx))), ((gx 9 0), .inl ((cax 9 0), 30, .inl (fun _ => 0))), ((gx 9 1), .inl ((cax 9 1), 30, .inl (fun _ => 0))), ((gx 9 2), .inl ((cax 9 2), 30, .inl (fun _ => 0)))] H.size) [] := noD
  obtain ⟨hP, hD⟩ := va_join (wr := [(y, .inr (12, (o12 y gy))), ((gy 12 14), .inl ((cay 12 14), 30, .inl (fun _ => 0))), ((gy 12 15), .inl ((cay 12 15), 30, .inl (fun _ => 0))), ((gy 12 16), .inl ((cay 12 16), 30, .inl (fun _ => 0)))]) (w1 := []) hP hD [0, 1, 2, 3, 4] [5, 6, 7, 8] rfl rfl (by decide) (by decide) hk1 hFc hP1 hD1
  generalize H1 = H at hP hS ⊢
  have hP : va_P (dC, dI) classes [(y, .inr (12, (o12 y gy))), ((gy 12 14), .inl ((cay 12 14), 30, .inl (fun _ => 0))), ((gy 12 15), .inl ((cay 12 15), 30, .inl (fun _ => 0))), ((gy 12 16), .inl ((cay 12 16), 30, .inl (fun _ => 0)))] H := hP
  have hD : va_D A [(y, .inr (12, (o12 y gy))), ((gy 12 14), .inl ((cay 12 14), 30, .inl (fun _ => 0))), ((gy 12 15), .inl ((cay 12 15), 30, .inl (fun _ => 0))), ((gy 12 16), .inl ((cay 12 16), 30, .inl (fun _ => 0)))] := hD
  obtain rfl : (F_test (xs 1) (xs 2) (xs 3)) = r7 := hr7.symm
  refine lv_aload_n hx hb dL_law_408 rfl (lv_at hl 1 rfl) ?_
  refine lv_aload_n hx hb dL_law_409 rfl (lv_at hl 3 rfl) ?_
  refine lv_iload_n hx hb dL_law_410 rfl (lv_at hl 0 rfl) ?_
  refine lv_iconst (v := 1) hx hb dL_law_411 (by decide) ?_
  refine lv_iadd hx hb dL_law_412 ?_
  refine lv_topi (fun v8 ev8 => ?_)
  obtain rfl : 1 = v8 := (ev8.trans (by decide)).symm
  refine va_sld hx hb hX hbl hbA hS (vp_in_iff.mpr (by rw [hL]; decide) : vp_in 1 L) dL_law_413 ?_
  refine lv_topi (fun v9 ev9 => ?_)
  obtain rfl : xs 1 = v9 := ev9.symm
  refine lv_aload_n hx hb dL_law_414 rfl (lv_at hl 3 rfl) ?_
  refine lv_iload_n hx hb dL_law_415 rfl (lv_at hl 0 rfl) ?_
  refine lv_iconst (v := 2) hx hb dL_law_416 (by decide) ?_
  refine lv_iadd hx hb dL_law_417 ?_
  refine lv_topi (fun v10 ev10 => ?_)
  obtain rfl : 2 = v10 := (ev10.trans (by decide)).symm
  refine va_sld hx hb hX hbl hbA hS (vp_in_iff.mpr (by rw [hL]; decide) : vp_in 2 L) dL_law_418 ?_
  refine lv_topi (fun v11 ev11 => ?_)
  obtain rfl : xs 2 = v11 := ev11.symm
  refine lv_aload_n hx hb dL_law_419 rfl (lv_at hl 3 rfl) ?_
  refine lv_iload_n hx hb dL_law_420 rfl (lv_at hl 0 rfl) ?_
  refine lv_iconst (v := 3) hx hb dL_law_421 (by decide) ?_
  refine lv_iadd hx hb dL_law_422 ?_
  refine lv_topi (fun v12 ev12 => ?_)
  obtain rfl : 3 = v12 := (ev12.trans (by decide)).symm
  refine va_sld hx hb hX hbl hbA hS (vp_in_iff.mpr (by rw [hL]; decide) : vp_in 3 L) dL_law_423 ?_
  refine lv_topi (fun v13 ev13 => ?_)
  obtain rfl : xs 3 = v13 := ev13.symm
  have hPc := hP.sub (ws' := [(y, .inr (12, (o12 y gy))), ((gy 12 14), .inl ((cay 12 14), 30, .inl (fun _ => 0))), ((gy 12 15), .inl ((cay 12 15), 30, .inl (fun _ => 0))), ((gy 12 16), .inl ((cay 12 16), 30, .inl (fun _ => 0)))]) [0, 1, 2, 3] rfl
  have hKc := hK.sub (tys' := [((cay 12 14), .int), ((cay 12 15), .int), ((cay 12 16), .int)]) [3, 4, 5] rfl
  have hDc := hD.sub (ws' := [(y, .inr (12, (o12 y gy))), ((gy 12 14), .inl ((cay 12 14), 30, .inl (fun _ => 0))), ((gy 12 15), .inl ((cay 12 15), 30, .inl (fun _ => 0))), ((gy 12 16), .inl ((cay 12 16), 30, .inl (fun _ => 0)))]) [0, 1, 2, 3] (by decide) rfl
  have hFc := va_free (wc := [(y, .inr (12, (o12 y gy))), ((gy 12 14), .inl ((cay 12 14), 30, .inl (fun _ => 0))), ((gy 12 15), .inl ((cay 12 15), 30, .inl (fun _ => 0))), ((gy 12 16), .inl ((cay 12 16), 30, .inl (fun _ => 0)))]) hD hS hA [0, 1, 2, 3] rfl
  refine va_calli (va_runV (As := [.int (xs 1), .int (xs 2), .int (xs 3)]) (rest := [.int (F_test (xs 1) (xs 2) (xs 3))]) ⟨hx, hb, hml, hown, ht⟩ (c_X12_test l dC dI H.size y gy cay (xs 1) (xs 2) (xs 3)) (kV 3 ht m_1411 m_1412 m_1413 m_89 m_1414 rfl rfl hd_X12_test_v ⟨Nat.le_of_ble_eq_true rfl, Nat.le_of_ble_eq_true rfl⟩) (vW hPc hKc hDc (va_recv hKc hPc (ci := 12) (q0 := 0) rfl rfl)) rfl rfl hl.1 rfl (lv_room (Nat.le_of_ble_eq_true rfl)) dL_law_424 ⟨Nat.le_of_ble_eq_true rfl, Nat.le_of_ble_eq_true rfl⟩) hS (fun q _ h => hFc q h) hFc (fun r14 u t H1 locs ht9 hvm hr14 hB hz1 hk1 hS => ?_)
  have hP1 : va_P (dC, dI) classes [] H1 := noP
  have hD1 : va_D (va_A [(y, .inr (12, (o12 y gy))), ((gy 12 14), .inl ((cay 12 14), 30, .inl (fun _ => 0))), ((gy 12 15), .inl ((cay 12 15), 30, .inl (fun _ => 0))), ((gy 12 16), .inl ((cay 12 16), 30, .inl (fun _ => 0)))] H.size) [] := noD
  obtain ⟨hP, hD⟩ := va_join (wr := []) (w1 := []) hP hD [0, 1, 2, 3] [] rfl rfl (by decide) (by decide) hk1 hFc hP1 hD1
  generalize H1 = H at hP hS ⊢
  have hP : va_P (dC, dI) classes [] H := hP
  have hD : va_D A [] := hD
  obtain rfl : (F_test (xs 1) (xs 2) (xs 3)) = r14 := hr14.symm
  refine lv_icmp_eq (tgt := 1511) hx hb dL_law_427 (by decide) (fun c15 => ?_) (fun c15 => ?_)
  · skip
    exact law_tail l hL C0 hA hbA hAs hS hl
  · exact absurd rfl c15
set_option maxHeartbeats 4000000 in
set_option maxRecDepth 100000 in
/-- error -/
theorem law_6 {p : Program} {e : Env} {s : State} {m : MethodId} {below : List Frame} {meth : Method} {c : Code} (l : Launch) {b L : Nat} {xs : Nat → Int32} (hL : L = 8) (C0 : lw_At p s m meth c b L xs) {dC : Nat → ClassId} {dI : Nat → Nat → Nat} {A : Nat → Prop} (hA : ∀ q : Nat, s.heap.size ≤ q → A q) (hbA : ¬ A b) (hAs : ∀ q : Nat, A q → s.heap.size ≤ q) {x y : Nat} {gx gy : Nat → Nat → Nat} {cax cay : Nat → Nat → ClassId} {H : Heap} {locs : List Loc} (hK : va_K (dC, dI) classes [] s) (hP : va_P (dC, dI) classes [(x, .inr (11, (o11 x gx))), ((gx 11 1), .inr (9, (o9 x gx))), (y, .inr (12, (o12 y gy)))] H) (hD : va_D A [(x, .inr (11, (o11 x gx))), ((gx 11 1), .inr (9, (o9 x gx))), (y, .inr (12, (o12 y gy)))]) (hS : va_S A s.heap H locs) {ls : Array Slot} (hl : lv_has ls 4 [(3, .int 0), (2, .ref y), (1, .ref x), (0, .ref b)]) : W p l e room_1 s m #[Value.ref b] below meth c H locs 98 5431 (lw_Z below #[Value.ref b] s) (F0 m 432 ls []) := by
  obtain ⟨hx, hb, hr, hml, hown, hts, hX, hbl, hlocks, hgv⟩ := id C0
  have ht := tb_of hts
  refine lv_aload_n hx hb dL_law_432 rfl (lv_at hl 2 rfl) ?_
  refine lv_aload_n hx hb dL_law_433 rfl (lv_at hl 3 rfl) ?_
  refine lv_iload_n hx hb dL_law_434 rfl (lv_at hl 0 rfl) ?_
  refine lv_iconst (v := 1) hx hb dL_law_435 (by decide) ?_
  refine lv_iadd hx hb dL_law_436 ?_
  refine lv_topi (fun v1 ev1 => ?_)
  obtain rfl : 1 = v1 := (ev1.trans (by decide)).symm
  refine va_sld hx hb hX hbl hbA hS (vp_in_iff.mpr (by rw [hL]; decide) : vp_in 1 L) dL_law_437 ?_
  refine lv_topi (fun v2 ev2 => ?_)
  obtain rfl : xs 1 = v2 := ev2.symm
  refine lv_aload_n hx hb dL_law_438 rfl (lv_at hl 3 rfl) ?_
  refine lv_iload_n hx hb dL_law_439 rfl (lv_at hl 0 rfl) ?_
  refine lv_iconst (v := 2) hx hb dL_law_440 (by decide) ?_
  refine lv_iadd hx hb dL_law_441 ?_
  refine lv_topi (fun v3 ev3 => ?_)
  obtain rfl : 2 = v3 := (ev3.trans (by decide)).symm
  refine va_sld hx hb hX hbl hbA hS (vp_in_iff.mpr (by rw [hL]; decide) : vp_in 2 L) dL_law_442 ?_
  refine lv_topi (fun v4 ev4 => ?_)
  obtain rfl : xs 2 = v4 := ev4.symm
  refine lv_aload_n hx hb dL_law_443 rfl (lv_at hl 3 rfl) ?_
  refine lv_iload_n hx hb dL_law_444 rfl (lv_at hl 0 rfl) ?_
  refine lv_iconst (v := 3) hx hb dL_law_445 (by decide) ?_
  refine lv_iadd hx hb dL_law_446 ?_
  refine lv_topi (fun v5 ev5 => ?_)
  obtain rfl : 3 = v5 := (ev5.trans (by decide)).symm
  refine va_sld hx hb hX hbl hbA hS (vp_in_iff.mpr (by rw [hL]; decide) : vp_in 3 L) dL_law_447 ?_
  refine lv_topi (fun v6 ev6 => ?_)
  obtain rfl : xs 3 = v6 := ev6.symm
  have hPc := hP.sub (ws' := [(x, .inr (11, (o11 x gx))), ((gx 11 1), .inr (9, (o9 x gx)))]) [0, 1] rfl
  have hKc := hK.sub (tys' := []) [] rfl
  refine vp_callSi (W.runV (As := [.int (xs 1), .int (xs 2), .int (xs 3)]) (rest := []) ⟨hx, hb, hml, hown, ht⟩ (c_X11_error l dC dI x gx cax (xs 1) (xs 2) (xs 3)) (kV 3 ht m_530 m_531 m_532 m_77 m_533 rfl rfl hd_X11_error_v ⟨Nat.le_of_ble_eq_true rfl, Nat.le_of_ble_eq_true rfl⟩) (vR hPc hKc (va_recv hKc hPc (ci := 11) (q0 := 0) rfl rfl)) rfl rfl hl.1 rfl (lv_room (Nat.le_of_ble_eq_true rfl)) dL_law_448 ⟨Nat.le_of_ble_eq_true rfl, Nat.le_of_ble_eq_true rfl⟩) (fun r7 hr7 => ?_)
  obtain rfl : (F_error (xs 1) (xs 2) (xs 3)) = r7 := hr7.symm
  refine lv_aload_n hx hb dL_law_451 rfl (lv_at hl 1 rfl) ?_
  refine lv_aload_n hx hb dL_law_452 rfl (lv_at hl 3 rfl) ?_
  refine lv_iload_n hx hb dL_law_453 rfl (lv_at hl 0 rfl) ?_
  refine lv_iconst (v := 1) hx hb dL_law_454 (by decide) ?_
  refine lv_iadd hx hb dL_law_455 ?_
  refine lv_topi (fun v8 ev8 => ?_)
  obtain rfl : 1 = v8 := (ev8.trans (by decide)).symm
  refine va_sld hx hb hX hbl hbA hS (vp_in_iff.mpr (by rw [hL]; decide) : vp_in 1 L) dL_law_456 ?_
  refine lv_topi (fun v9 ev9 => ?_)
  obtain rfl : xs 1 = v9 := ev9.symm
  refine lv_aload_n hx hb dL_law_457 rfl (lv_at hl 3 rfl) ?_
  refine lv_iload_n hx hb dL_law_458 rfl (lv_at hl 0 rfl) ?_
  refine lv_iconst (v := 2) hx hb dL_law_459 (by decide) ?_
  refine lv_iadd hx hb dL_law_460 ?_
  refine lv_topi (fun v10 ev10 => ?_)
  obtain rfl : 2 = v10 := (ev10.trans (by decide)).symm
  refine va_sld hx hb hX hbl hbA hS (vp_in_iff.mpr (by rw [hL]; decide) : vp_in 2 L) dL_law_461 ?_
  refine lv_topi (fun v11 ev11 => ?_)
  obtain rfl : xs 2 = v11 := ev11.symm
  refine lv_aload_n hx hb dL_law_462 rfl (lv_at hl 3 rfl) ?_
  refine lv_iload_n hx hb dL_law_463 rfl (lv_at hl 0 rfl) ?_
  refine lv_iconst (v := 3) hx hb dL_law_464 (by decide) ?_
  refine lv_iadd hx hb dL_law_465 ?_
  refine lv_topi (fun v12 ev12 => ?_)
  obtain rfl : 3 = v12 := (ev12.trans (by decide)).symm
  refine va_sld hx hb hX hbl hbA hS (vp_in_iff.mpr (by rw [hL]; decide) : vp_in 3 L) dL_law_466 ?_
  refine lv_topi (fun v13 ev13 => ?_)
  obtain rfl : xs 3 = v13 := ev13.symm
  have hPc := hP.sub (ws' := [(y, .inr (12, (o12 y gy)))]) [2] rfl
  have hKc := hK.sub (tys' := []) [] rfl
  refine vp_callSi (W.runV (As := [.int (xs 1), .int (xs 2), .int (xs 3)]) (rest := [.int (F_error (xs 1) (xs 2) (xs 3))]) ⟨hx, hb, hml, hown, ht⟩ (c_X12_error l dC dI y gy cay (xs 1) (xs 2) (xs 3)) (kV 3 ht m_1418 m_1419 m_1420 m_89 m_1421 rfl rfl hd_X12_error_v ⟨Nat.le_of_ble_eq_true rfl, Nat.le_of_ble_eq_true rfl⟩) (vR hPc hKc (va_recv hKc hPc (ci := 12) (q0 := 0) rfl rfl)) rfl rfl hl.1 rfl (lv_room (Nat.le_of_ble_eq_true rfl)) dL_law_467 ⟨Nat.le_of_ble_eq_true rfl, Nat.le_of_ble_eq_true rfl⟩) (fun r14 hr14 => ?_)
  obtain rfl : (F_error (xs 1) (xs 2) (xs 3)) = r14 := hr14.symm
  refine lv_icmp_eq (tgt := 1511) hx hb dL_law_470 (by decide) (fun c15 => ?_) (fun c15 => ?_)
  · skip
    exact law_tail l hL C0 hA hbA hAs hS hl
  · exact absurd rfl c15
set_option maxHeartbeats 4000000 in
set_option maxRecDepth 100000 in
/-- ratio -/
theorem law_7 {p : Program} {e : Env} {s : State} {m : MethodId} {below : List Frame} {meth : Method} {c : Code} (l : Launch) {b L : Nat} {xs : Nat → Int32} (hL : L = 8) (C0 : lw_At p s m meth c b L xs) {dC : Nat → ClassId} {dI : Nat → Nat → Nat} {A : Nat → Prop} (hA : ∀ q : Nat, s.heap.size ≤ q → A q) (hbA : ¬ A b) (hAs : ∀ q : Nat, A q → s.heap.size ≤ q) {x y : Nat} {gx gy : Nat → Nat → Nat} {cax cay : Nat → Nat → ClassId} {H : Heap} {locs : List Loc} (hK : va_K (dC, dI) classes [] s) (hP : va_P (dC, dI) classes [(x, .inr (11, (o11 x gx))), ((gx 11 2), .inr (0, (o0 x gx))), (y, .inr (12, (o12 y gy)))] H) (hD : va_D A [(x, .inr (11, (o11 x gx))), ((gx 11 2), .inr (0, (o0 x gx))), (y, .inr (12, (o12 y gy)))]) (hS : va_S A s.heap H locs) {ls : Array Slot} (hl : lv_has ls 4 [(3, .int 0), (2, .ref y), (1, .ref x), (0, .ref b)]) : W p l e room_1 s m #[Value.ref b] below meth c H locs 98 5431 (lw_Z below #[Value.ref b] s) (F0 m 475 ls []) := by
  obtain ⟨hx, hb, hr, hml, hown, hts, hX, hbl, hlocks, hgv⟩ := id C0
  have ht := tb_of hts
  refine lv_aload_n hx hb dL_law_475 rfl (lv_at hl 2 rfl) ?_
  refine lv_aload_n hx hb dL_law_476 rfl (lv_at hl 3 rfl) ?_
  refine lv_iload_n hx hb dL_law_477 rfl (lv_at hl 0 rfl) ?_
  refine lv_iconst (v := 1) hx hb dL_law_478 (by decide) ?_
  refine lv_iadd hx hb dL_law_479 ?_
  refine lv_topi (fun v1 ev1 => ?_)
  obtain rfl : 1 = v1 := (ev1.trans (by decide)).symm
  refine va_sld hx hb hX hbl hbA hS (vp_in_iff.mpr (by rw [hL]; decide) : vp_in 1 L) dL_law_480 ?_
  refine lv_topi (fun v2 ev2 => ?_)
  obtain rfl : xs 1 = v2 := ev2.symm
  refine lv_aload_n hx hb dL_law_481 rfl (lv_at hl 3 rfl) ?_
  refine lv_iload_n hx hb dL_law_482 rfl (lv_at hl 0 rfl) ?_
  refine lv_iconst (v := 2) hx hb dL_law_483 (by decide) ?_
  refine lv_iadd hx hb dL_law_484 ?_
  refine lv_topi (fun v3 ev3 => ?_)
  obtain rfl : 2 = v3 := (ev3.trans (by decide)).symm
  refine va_sld hx hb hX hbl hbA hS (vp_in_iff.mpr (by rw [hL]; decide) : vp_in 2 L) dL_law_485 ?_
  refine lv_topi (fun v4 ev4 => ?_)
  obtain rfl : xs 2 = v4 := ev4.symm
  refine lv_aload_n hx hb dL_law_486 rfl (lv_at hl 3 rfl) ?_
  refine lv_iload_n hx hb dL_law_487 rfl (lv_at hl 0 rfl) ?_
  refine lv_iconst (v := 3) hx hb dL_law_488 (by decide) ?_
  refine lv_iadd hx hb dL_law_489 ?_
  refine lv_topi (fun v5 ev5 => ?_)
  obtain rfl : 3 = v5 := (ev5.trans (by decide)).symm
  refine va_sld hx hb hX hbl hbA hS (vp_in_iff.mpr (by rw [hL]; decide) : vp_in 3 L) dL_law_490 ?_
  refine lv_topi (fun v6 ev6 => ?_)
  obtain rfl : xs 3 = v6 := ev6.symm
  have hPc := hP.sub (ws' := [(x, .inr (11, (o11 x gx))), ((gx 11 2), .inr (0, (o0 x gx)))]) [0, 1] rfl
  have hKc := hK.sub (tys' := []) [] rfl
  refine vp_callSi (W.runV (As := [.int (xs 1), .int (xs 2), .int (xs 3)]) (rest := []) ⟨hx, hb, hml, hown, ht⟩ (c_X11_ratio l dC dI x gx cax (xs 1) (xs 2) (xs 3)) (kV 3 ht m_560 m_561 m_562 m_77 m_563 rfl rfl hd_X11_ratio_v ⟨Nat.le_of_ble_eq_true rfl, Nat.le_of_ble_eq_true rfl⟩) (vR hPc hKc (va_recv hKc hPc (ci := 11) (q0 := 0) rfl rfl)) rfl rfl hl.1 rfl (lv_room (Nat.le_of_ble_eq_true rfl)) dL_law_491 ⟨Nat.le_of_ble_eq_true rfl, Nat.le_of_ble_eq_true rfl⟩) (fun r7 hr7 => ?_)
  obtain rfl : (-100001) = r7 := hr7.symm
  refine lv_aload_n hx hb dL_law_494 rfl (lv_at hl 1 rfl) ?_
  refine lv_aload_n hx hb dL_law_495 rfl (lv_at hl 3 rfl) ?_
  refine lv_iload_n hx hb dL_law_496 rfl (lv_at hl 0 rfl) ?_
  refine lv_iconst (v := 1) hx hb dL_law_497 (by decide) ?_
  refine lv_iadd hx hb dL_law_498 ?_
  refine lv_topi (fun v8 ev8 => ?_)
  obtain rfl : 1 = v8 := (ev8.trans (by decide)).symm
  refine va_sld hx hb hX hbl hbA hS (vp_in_iff.mpr (by rw [hL]; decide) : vp_in 1 L) dL_law_499 ?_
  refine lv_topi (fun v9 ev9 => ?_)
  obtain rfl : xs 1 = v9 := ev9.symm
  refine lv_aload_n hx hb dL_law_500 rfl (lv_at hl 3 rfl) ?_
  refine lv_iload_n hx hb dL_law_501 rfl (lv_at hl 0 rfl) ?_
  refine lv_iconst (v := 2) hx hb dL_law_502 (by decide) ?_
  refine lv_iadd hx hb dL_law_503 ?_
  refine lv_topi (fun v10 ev10 => ?_)
  obtain rfl : 2 = v10 := (ev10.trans (by decide)).symm
  refine va_sld hx hb hX hbl hbA hS (vp_in_iff.mpr (by rw [hL]; decide) : vp_in 2 L) dL_law_504 ?_
  refine lv_topi (fun v11 ev11 => ?_)
  obtain rfl : xs 2 = v11 := ev11.symm
  refine lv_aload_n hx hb dL_law_505 rfl (lv_at hl 3 rfl) ?_
  refine lv_iload_n hx hb dL_law_506 rfl (lv_at hl 0 rfl) ?_
  refine lv_iconst (v := 3) hx hb dL_law_507 (by decide) ?_
  refine lv_iadd hx hb dL_law_508 ?_
  refine lv_topi (fun v12 ev12 => ?_)
  obtain rfl : 3 = v12 := (ev12.trans (by decide)).symm
  refine va_sld hx hb hX hbl hbA hS (vp_in_iff.mpr (by rw [hL]; decide) : vp_in 3 L) dL_law_509 ?_
  refine lv_topi (fun v13 ev13 => ?_)
  obtain rfl : xs 3 = v13 := ev13.symm
  have hPc := hP.sub (ws' := [(y, .inr (12, (o12 y gy)))]) [2] rfl
  have hKc := hK.sub (tys' := []) [] rfl
  refine vp_callSi (W.runV (As := [.int (xs 1), .int (xs 2), .int (xs 3)]) (rest := [.int (-100001)]) ⟨hx, hb, hml, hown, ht⟩ (c_X12_ratio l dC dI y gy cay (xs 1) (xs 2) (xs 3)) (kV 3 ht m_1430 m_1431 m_1432 m_89 m_1433 rfl rfl hd_X12_ratio_v ⟨Nat.le_of_ble_eq_true rfl, Nat.le_of_ble_eq_true rfl⟩) (vR hPc hKc (va_recv hKc hPc (ci := 12) (q0 := 0) rfl rfl)) rfl rfl hl.1 rfl (lv_room (Nat.le_of_ble_eq_true rfl)) dL_law_510 ⟨Nat.le_of_ble_eq_true rfl, Nat.le_of_ble_eq_true rfl⟩) (fun r14 hr14 => ?_)
  obtain rfl : (-100001) = r14 := hr14.symm
  refine lv_icmp_eq (tgt := 1511) hx hb dL_law_513 (by decide) (fun c15 => ?_) (fun c15 => ?_)
  · skip
    exact law_tail l hL C0 hA hbA hAs hS hl
  · exact absurd rfl c15
