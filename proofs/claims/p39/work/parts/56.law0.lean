/-! ===== law0 ===== -/
-- ===== end of PART A; then your names; then what follows =====
/-! THE CLAIM OUT OF ONE WALK OF THE LAW'S BODY. Your part is whole_start (and what it stands on); all else here is the same for every law, but numbers. -/
def R_law : String := "SilkHouseLaw"
def lw_P (b : Addr) (xs : List Int32) (args : Array Value) (s : State) : Prop := args = #[.ref b] ∧ s.IntsAt b xs ∧ xs.length ≤ 4096 ∧ (Jvm.Cond.and given_1 narrow_1).before args s = true
def lw_Q (_ : Array Value) (s : State) (o : Outcome) (t : State) : Prop := o = .returned (some (.int 1)) ∧ Framed s o t [] 600000 7302250
def lw_Z (below : List Frame) (a : Array Value) (s : State) : State → Prop := fun t => ∃ o, t.status = .running ∧ Ended t below o ∧ lw_Q a s o t
/-- the law's own end, with 1 on the stack, nothing written that was there before, its room as the claim has it -/
theorem lw_ret {p : Program} {l : Launch} {e : Env} {s : State} {m : MethodId} {below : List Frame} {meth : Method} {c : Code} {b : Nat} (hx : p.tables.exec = Jvm.exec) (hb : c.code = code) (hr : meth.sig.returnType = ret) (hlocks : meth.locks = false) {pc : Nat} {H : Heap} {ls : Array Slot} (hdg : decode code pc = .ok (.ireturn, 1)) : W p l e room_1 s m #[Value.ref b] below meth c H [] 600000 7302250 (lw_Z below #[Value.ref b] s) (F0 m pc ls [.int 1]) := by
  intro T hT X
  obtain ⟨fs, hret, hrun, hended, hW, hframe⟩ := X.leave (v := some (.int 1)) (hlocks := hlocks) (fun h => by rw [hr] at h; cases h)
  have hmeth' : T.vm.method? m = some meth := X.method'
  refine ⟨T.setFrames fs, ?_, .returned (some (.int 1)), hrun, hended, rfl, ⟨_, rfl⟩, hW, hframe⟩
  jvm_step X.here [X.here.top, hx, hb, hdg, hmeth', hr, ret, narrow_b1]
  (try refine ⟨rfl, ?_⟩); (try refine ⟨rfl, ?_⟩)
  first | (intro acts; rw [hret _ acts rfl rfl rfl]) | rw [hret _ _ rfl rfl rfl]
  exact Steps.refl _
/-- what holds at the law's entry: the machine, the code, the tables' words (any of lw_tbl by 'hts w (by decide +kernel)'), the script of L ints xs at the cell b, what the Statement gives of the start (any of its parts by flat_of_before) -/
def lw_At (p : Program) (s : State) (m : MethodId) (meth : Method) (c : Code) (b L : Nat) (xs : Nat → Int32) : Prop :=
  p.tables.exec = Jvm.exec ∧ c.code = code ∧ meth.sig.returnType = ret ∧ c.maxLocals = 4 ∧ s.vm.findClass R_law = some m.cls ∧ (∀ w ∈ lw_tbl, w.before #[Value.ref b] s = true) ∧ va_X b L xs s s.heap ∧ b < s.heap.size ∧ meth.locks = false ∧ (Jvm.Cond.and given_1 narrow_1).before #[Value.ref b] s = true
def AdX (h : Nat) (g : Nat → Nat → Nat) : List Nat := [h, (g 11 0), (g 11 1), (g 11 2), (g 11 3), (g 11 4), (g 11 5), (g 11 6), (g 11 7), (g 11 8), (g 11 9), (g 3 2), (g 2 1), (g 10 0), (g 9 0), (g 9 1), (g 9 2), (g 0 0), (g 0 1), (g 0 2), (g 0 3), (g 0 4), (g 0 5), (g 0 6), (g 1 0), (g 1 1), (g 1 2), (g 1 3), (g 1 4), (g 1 5), (g 1 6), (g 8 1), (g 2 2), (g 5 0), (g 5 1), (g 5 2), (g 5 3), (g 4 0), (g 4 1), (g 6 0), (g 6 1), (g 6 2), (g 6 3), (g 6 4), (g 6 5), (g 6 6), (g 30 0), (g 30 1), (g 30 2), (g 20 0), (g 20 1), (g 20 2)]
theorem wmX {h : Nat} {g : Nat → Nat → Nat} {ca : Nat → Nat → ClassId} {iv : Nat → Nat → Int32} {lv : Nat → Nat → Int64} {fa : Nat → Nat → Nat → Int32} {la : Nat → Nat → Nat → Int64} : (WX h g ca iv lv fa la).map (fun q => q.1) = AdX h g := rfl
def AdM (h : Nat) (g : Nat → Nat → Nat) : List Nat := [h, (g 12 2), (g 12 4), (g 12 5), (g 12 6), (g 12 7), (g 12 8), (g 12 9), (g 12 10), (g 12 11), (g 12 12), (g 12 14), (g 12 15), (g 12 16), (g 12 24), (g 12 25), (g 12 26), (g 12 27), (g 12 28), (g 12 29), (g 12 30), (g 12 31), (g 12 32), (g 12 39), (g 12 40), (g 12 42), (g 12 43), (g 12 49), (g 12 50), (g 12 51), (g 12 52), (g 12 53), (g 12 54), (g 12 55), (g 12 56), (g 12 58), (g 12 59), (g 12 63), (g 12 64), (g 12 68), (g 12 69), (g 12 70), (g 12 71), (g 12 72), (g 12 73), (g 12 74)]
theorem wmM {h : Nat} {g : Nat → Nat → Nat} {ca : Nat → Nat → ClassId} {iv : Nat → Nat → Int32} {lv : Nat → Nat → Int64} {fa : Nat → Nat → Nat → Int32} {la : Nat → Nat → Nat → Int64} : (WM h g ca iv lv fa la).map (fun q => q.1) = AdM h g := rfl
theorem P_kept {D : va_G} {cl : List vw_C} {ws wo : va_W} {H H1 : Heap} {la lb : List Nat} (hP : va_P D cl ws H) (hw : ws.map (fun q => q.1) = la) (ho : wo.map (fun q => q.1) = lb) (hd : ∀ a ∈ la, ∀ b ∈ lb, a ≠ b) (hk : ∀ q : Nat, q < H.size → ¬ va_A wo H.size q → H1[q]? = H[q]?) : va_P D cl ws H1 := by
  refine hP.kept (fun k q hq => hk q.1 (hP k q hq).lt ?_)
  intro h
  have h1 : q.1 ∈ la := by rw [← hw]; exact List.mem_map.mpr ⟨q, List.mem_of_getElem? hq, rfl⟩
  rcases h with ⟨j, e, h⟩ | h
  · have h2 : q.1 ∈ lb := by rw [← ho]; exact List.mem_map.mpr ⟨(q.1, e), List.mem_of_getElem? h, rfl⟩
    exact hd _ h1 _ h2 rfl
  · exact absurd (hP k q hq).lt (Nat.not_lt.mpr h)
theorem D_dis {A : Nat → Prop} {w1 w2 : va_W} (h : va_D A (w1 ++ w2)) : ∀ a ∈ w1.map (fun q => q.1), ∀ b ∈ w2.map (fun q => q.1), a ≠ b := by
  intro a ha b hb e
  obtain ⟨p, hp, rfl⟩ := List.mem_map.mp ha
  obtain ⟨q, hq, rfl⟩ := List.mem_map.mp hb
  obtain ⟨i, hi⟩ := List.getElem?_of_mem hp
  obtain ⟨j, hj⟩ := List.getElem?_of_mem hq
  have hl : i < w1.length := (List.getElem?_eq_some_iff.mp hi).1
  have e1 : (w1 ++ w2)[i]? = some p := by rw [List.getElem?_append_left hl]; exact hi
  have e2 : (w1 ++ w2)[w1.length + j]? = some q := by rw [List.getElem?_append_right (by omega)]; rw [show w1.length + j - w1.length = j from by omega]; exact hj
  have := h.1 _ _ p q e1 e2 e
  omega
theorem ofNat_toInt {L : Nat} {v : Int32} (h : v = Int32.ofNat L) (hL : L ≤ 4096) : v.toInt = L := by
  rw [h, Int32.toInt_ofNat_of_lt (by omega)]
section AW
variable {p : Program} {l : Launch} {e : Env} {R : Room} {s : State} {m : MethodId} {args : Array Value} {below : List Frame} {meth : Method} {c : Code} {H H0 : Heap} {locs : List Loc} {cells slots : Nat} {Q : State → Prop}
variable {cc : ByteArray} {pc : Nat} {ls : Array Slot} {rest : List Value}
theorem aw_iconst (hx : p.tables.exec = Jvm.exec) (hb : c.code = cc) {b L : Nat} {xs : Nat → Int32} {A : Nat → Prop} (hX : va_X b L xs s H0) (hbl : b < H0.size) (hbA : ¬ A b) (hS : va_S A H0 H locs) {i : Int32} {x y : Nat} (hl : lv_has ls 4 [(3, .int i), (2, .ref y), (1, .ref x), (0, .ref b)]) (hi : 0 ≤ i.toInt ∧ i.toInt ≤ 4088) (hi8 : i.toInt + 8 ≤ (L : Int)) {n : Int} {v : Int32} (hn : Int32.ofInt n = v) (h1 : 0 ≤ v.toInt ∧ v.toInt ≤ 7)
    (d0 : decode cc pc = .ok (.aload_n 0, 1)) (d1 : decode cc (pc + 1) = .ok (.iload_n 3, 1)) (d2 : decode cc (pc + 2) = .ok (.iconst n, 1)) (d3 : decode cc (pc + 3) = .ok (.iadd, 1)) (d4 : decode cc (pc + 4) = .ok (.iaload, 1))
    (kk : ∀ j : Int32, j = i + v → ∀ w : Int32, w = xs j.toNatClampNeg → W p l e R s m args below meth c H locs cells slots Q (F0 m (pc + 5) ls (.int w :: rest))) : W p l e R s m args below meth c H locs cells slots Q (F0 m pc ls rest) := by
  refine lv_aload_n hx hb d0 rfl (lv_at hl 3 rfl) ?_
  refine lv_iload_n hx hb d1 rfl (lv_at hl 0 rfl) ?_
  refine lv_iconst (v := v) hx hb d2 hn ?_
  refine lv_iadd hx hb d3 ?_
  refine lv_topi (fun j ej => ?_)
  have tj := z_add ej (rfl : (i).toInt = _) (rfl : (v).toInt = _) (by omega) (by omega)
  refine va_sld hx hb hX hbl hbA hS (vp_in_iff.mpr ⟨by omega, by omega⟩ : vp_in j L) d4 ?_
  exact lv_topi (fun w ew => kk j ej w ew)
theorem aw_bipush (hx : p.tables.exec = Jvm.exec) (hb : c.code = cc) {b L : Nat} {xs : Nat → Int32} {A : Nat → Prop} (hX : va_X b L xs s H0) (hbl : b < H0.size) (hbA : ¬ A b) (hS : va_S A H0 H locs) {i : Int32} {x y : Nat} (hl : lv_has ls 4 [(3, .int i), (2, .ref y), (1, .ref x), (0, .ref b)]) (hi : 0 ≤ i.toInt ∧ i.toInt ≤ 4088) (hi8 : i.toInt + 8 ≤ (L : Int)) {n : Int} {v : Int32} (hn : (Int8.ofInt n).toInt32 = v) (h1 : 0 ≤ v.toInt ∧ v.toInt ≤ 7)
    (d0 : decode cc pc = .ok (.aload_n 0, 1)) (d1 : decode cc (pc + 1) = .ok (.iload_n 3, 1)) (d2 : decode cc (pc + 2) = .ok (.bipush n, 2)) (d3 : decode cc (pc + 4) = .ok (.iadd, 1)) (d4 : decode cc (pc + 5) = .ok (.iaload, 1))
    (kk : ∀ j : Int32, j = i + v → ∀ w : Int32, w = xs j.toNatClampNeg → W p l e R s m args below meth c H locs cells slots Q (F0 m (pc + 6) ls (.int w :: rest))) : W p l e R s m args below meth c H locs cells slots Q (F0 m pc ls rest) := by
  refine lv_aload_n hx hb d0 rfl (lv_at hl 3 rfl) ?_
  refine lv_iload_n hx hb d1 rfl (lv_at hl 0 rfl) ?_
  refine lv_bipush (v := v) hx hb d2 hn ?_
  refine lv_iadd hx hb d3 ?_
  refine lv_topi (fun j ej => ?_)
  have tj := z_add ej (rfl : (i).toInt = _) (rfl : (v).toInt = _) (by omega) (by omega)
  refine va_sld hx hb hX hbl hbA hS (vp_in_iff.mpr ⟨by omega, by omega⟩ : vp_in j L) d4 ?_
  exact lv_topi (fun w ew => kk j ej w ew)
end AW
def z0 : Nat → Nat → Int32 := fun _ _ => 0
def lv0 : Nat → Nat → Int64 := fun _ _ => 0
def fa0 : Nat → Nat → Nat → Int32 := fun _ _ _ => 0
def la0 : Nat → Nat → Nat → Int64 := fun _ _ _ => 0
def iv0x : Nat → Nat → Int32 := u2 z0 8 3 (-1)
def iv0y : Nat → Nat → Int32 := u2 (u2 (u2 (u2 z0 12 20 (-1)) 12 21 (-1)) 12 22 (-1)) 12 36 (-1)
theorem bI_zero (c k : Nat) : (bI c k).1 ≤ 0 ∧ 0 ≤ (bI c k).2 := by
  unfold bI; split <;> decide
theorem bA_zero (c k j : Nat) : (bA c k j).1 ≤ 0 ∧ 0 ≤ (bA c k j).2 := by
  unfold bA; split
  · split <;> decide
  all_goals decide
theorem i00 : IX z0 fa0 := ⟨fun c k => bI_zero c k, fun c k j => bA_zero c k j⟩
theorem i0x : IX iv0x fa0 := IX_i (c := 8) (k := 3) i00 ⟨by decide, by decide⟩
theorem i0y : IX iv0y fa0 := IX_i (c := 12) (k := 36) (IX_i (c := 12) (k := 22) (IX_i (c := 12) (k := 21) (IX_i (c := 12) (k := 20) i00 ⟨by decide, by decide⟩) ⟨by decide, by decide⟩) ⟨by decide, by decide⟩) ⟨by decide, by decide⟩
theorem j0C : JCf (iv0y 12 23).toInt (fa0 12 25) (fa0 12 26) (fa0 12 27) (fa0 12 28) := by
  intro k c h1 h2
  have h0 : (iv0y 12 23).toInt = 0 := by decide
  omega
theorem j0R : JRf (iv0y 12 3).toInt (fa0 12 7) := by
  intro j hj
  have h0 : (iv0y 12 3).toInt = 0 := by decide
  omega
theorem j0N : JNf (iv0y 12 3).toInt (fa0 12 4) (fa0 12 5) := by
  intro b l
  have h0 : (iv0y 12 3).toInt.toNat = 0 := by decide
  rw [h0]; exact Nat.zero_le _
theorem j0O : (iv0y 12 20).toInt = -1 ∧ (iv0y 12 21).toInt = -1 ∧ (iv0y 12 22).toInt = -1 := ⟨by decide, by decide, by decide⟩
set_option maxRecDepth 100000 in
theorem z_of_start {args : Array Value} {s : State} {A : Nat → Prop} (hts : ∀ w ∈ lw_tbl, w.before args s = true) (hgv : (Jvm.Cond.and given_1 narrow_1).before args s = true) (hA0 : ∀ a : Nat, a < s.heap.size → ¬ A a) : ∃ ak av : Nat → Nat, zC ak av A s s.heap := by
  have hs := flat_of_before _ hgv
  obtain ⟨t0, a0, b0⟩ := va_Tof (args := args) (s := s) (tm := .static "SilkHouse$Book" "AT_FIRST" "[I") (ty := .int) (N := 6) (f := fun j => .int (C_AF j)) (A := A) (by decide) (hs _ (by decide +kernel)) (va_eqt (hs (Cond.eq (.length (.static "SilkHouse$Book" "AT_FIRST" "[I")) (.int 6)) (by decide +kernel))) (fun j hj => by
    rcases (show j = 0 ∨ j = 1 ∨ j = 2 ∨ j = 3 ∨ j = 4 ∨ j = 5 by omega) with rfl | rfl | rfl | rfl | rfl | rfl
    · exact va_eqt (hs (Cond.eq (.elem (.static "SilkHouse$Book" "AT_FIRST" "[I") (.int 0)) (.int 110)) (by decide +kernel))
    · exact va_eqt (hs (Cond.eq (.elem (.static "SilkHouse$Book" "AT_FIRST" "[I") (.int 1)) (.int 3)) (by decide +kernel))
    · exact va_eqt (hs (Cond.eq (.elem (.static "SilkHouse$Book" "AT_FIRST" "[I") (.int 2)) (.int 5)) (by decide +kernel))
    · exact va_eqt (hs (Cond.eq (.elem (.static "SilkHouse$Book" "AT_FIRST" "[I") (.int 3)) (.int 2)) (by decide +kernel))
    · exact va_eqt (hs (Cond.eq (.elem (.static "SilkHouse$Book" "AT_FIRST" "[I") (.int 4)) (.int 10)) (by decide +kernel))
    · exact va_eqt (hs (Cond.eq (.elem (.static "SilkHouse$Book" "AT_FIRST" "[I") (.int 5)) (.int 0)) (by decide +kernel))) hA0
  have z0 := va_Zof (A := A) (hts (.laysStatic "SilkHouse$Book" "AT_FIRST" "[I") (List.mem_of_getElem? (i := 617) rfl)) (hts (.initialized "SilkHouse$Book") (List.mem_of_getElem? (i := 81) rfl)) a0 hA0
  obtain ⟨t1, a1, b1⟩ := va_Tof (args := args) (s := s) (tm := .static "SilkHouse$Reader" "LEAST_OF_NAME" "[I") (ty := .int) (N := 5) (f := fun j => .int (C_LN j)) (A := A) (by decide) (hs _ (by decide +kernel)) (va_eqt (hs (Cond.eq (.length (.static "SilkHouse$Reader" "LEAST_OF_NAME" "[I")) (.int 5)) (by decide +kernel))) (fun j hj => by
    rcases (show j = 0 ∨ j = 1 ∨ j = 2 ∨ j = 3 ∨ j = 4 by omega) with rfl | rfl | rfl | rfl | rfl
    · exact va_eqt (hs (Cond.eq (.elem (.static "SilkHouse$Reader" "LEAST_OF_NAME" "[I") (.int 0)) (.int 0)) (by decide +kernel))
    · exact va_eqt (hs (Cond.eq (.elem (.static "SilkHouse$Reader" "LEAST_OF_NAME" "[I") (.int 1)) (.int 1)) (by decide +kernel))
    · exact va_eqt (hs (Cond.eq (.elem (.static "SilkHouse$Reader" "LEAST_OF_NAME" "[I") (.int 2)) (.int 0)) (by decide +kernel))
    · exact va_eqt (hs (Cond.eq (.elem (.static "SilkHouse$Reader" "LEAST_OF_NAME" "[I") (.int 3)) (.int 1)) (by decide +kernel))
    · exact va_eqt (hs (Cond.eq (.elem (.static "SilkHouse$Reader" "LEAST_OF_NAME" "[I") (.int 4)) (.int 0)) (by decide +kernel))) hA0
  have z1 := va_Zof (A := A) (hts (.laysStatic "SilkHouse$Reader" "LEAST_OF_NAME" "[I") (List.mem_of_getElem? (i := 767) rfl)) (hts (.initialized "SilkHouse$Reader") (List.mem_of_getElem? (i := 82) rfl)) a1 hA0
  obtain ⟨t2, a2, b2⟩ := va_Tof (args := args) (s := s) (tm := .static "SilkHouse$Reader" "MOST_OF_NAME" "[I") (ty := .int) (N := 5) (f := fun j => .int (C_MN j)) (A := A) (by decide) (hs _ (by decide +kernel)) (va_eqt (hs (Cond.eq (.length (.static "SilkHouse$Reader" "MOST_OF_NAME" "[I")) (.int 5)) (by decide +kernel))) (fun j hj => by
    rcases (show j = 0 ∨ j = 1 ∨ j = 2 ∨ j = 3 ∨ j = 4 by omega) with rfl | rfl | rfl | rfl | rfl
    · exact va_eqt (hs (Cond.eq (.elem (.static "SilkHouse$Reader" "MOST_OF_NAME" "[I") (.int 0)) (.int 300)) (by decide +kernel))
    · exact va_eqt (hs (Cond.eq (.elem (.static "SilkHouse$Reader" "MOST_OF_NAME" "[I") (.int 1)) (.int 9)) (by decide +kernel))
    · exact va_eqt (hs (Cond.eq (.elem (.static "SilkHouse$Reader" "MOST_OF_NAME" "[I") (.int 2)) (.int 200)) (by decide +kernel))
    · exact va_eqt (hs (Cond.eq (.elem (.static "SilkHouse$Reader" "MOST_OF_NAME" "[I") (.int 3)) (.int 2)) (by decide +kernel))
    · exact va_eqt (hs (Cond.eq (.elem (.static "SilkHouse$Reader" "MOST_OF_NAME" "[I") (.int 4)) (.int 999)) (by decide +kernel))) hA0
  have z2 := va_Zof (A := A) (hts (.laysStatic "SilkHouse$Reader" "MOST_OF_NAME" "[I") (List.mem_of_getElem? (i := 769) rfl)) (hts (.initialized "SilkHouse$Reader") (List.mem_of_getElem? (i := 82) rfl)) a2 hA0
  have zc := va_Zof (A := A) (hts (.laysStatic "java/lang/String" "COMPACT_STRINGS" "Z") (List.mem_of_getElem? (i := 714) rfl)) (hts (.initialized "java/lang/String") (List.mem_of_getElem? (i := 91) rfl)) (va_eqi (hs (Cond.eq (.static "java/lang/String" "COMPACT_STRINGS" "Z") (.int 1)) (by decide +kernel))) hA0
  have zq := va_Zqof (A := A) (hts (.laysStatic "jdk/internal/util/Preconditions" "SIOOBE_FORMATTER" "Ljava/util/function/BiFunction;") (List.mem_of_getElem? (i := 730) rfl)) (hts (.initialized "jdk/internal/util/Preconditions") (List.mem_of_getElem? (i := 93) rfl)) (hs (Cond.isRef (.static "jdk/internal/util/Preconditions" "SIOOBE_FORMATTER" "Ljava/util/function/BiFunction;")) (by decide +kernel)) hA0
  obtain ⟨ak, av, hk, he⟩ := vk_Sof (args := args) (s := s) (N := 4) (tm := fun i => .string "SilkHouse$Reader" (([44, 69, 89, 94] : List Nat).getD i 0)) (len := S_len) (byt := S_byt) (A := A) (by decide)
    (fun i hi => by
    rcases (show i = 0 ∨ i = 1 ∨ i = 2 ∨ i = 3 by omega) with rfl | rfl | rfl | rfl
    · exact hs (Cond.exactly (.string "SilkHouse$Reader" 44) "java/lang/String") (by decide +kernel)
    · exact hs (Cond.exactly (.string "SilkHouse$Reader" 69) "java/lang/String") (by decide +kernel)
    · exact hs (Cond.exactly (.string "SilkHouse$Reader" 89) "java/lang/String") (by decide +kernel)
    · exact hs (Cond.exactly (.string "SilkHouse$Reader" 94) "java/lang/String") (by decide +kernel))
    (fun i hi => by
    rcases (show i = 0 ∨ i = 1 ∨ i = 2 ∨ i = 3 by omega) with rfl | rfl | rfl | rfl
    · exact hs (Cond.eq (.field (.string "SilkHouse$Reader" 44) "java/lang/String" "coder" "B") (.int 0)) (by decide +kernel)
    · exact hs (Cond.eq (.field (.string "SilkHouse$Reader" 69) "java/lang/String" "coder" "B") (.int 0)) (by decide +kernel)
    · exact hs (Cond.eq (.field (.string "SilkHouse$Reader" 89) "java/lang/String" "coder" "B") (.int 0)) (by decide +kernel)
    · exact hs (Cond.eq (.field (.string "SilkHouse$Reader" 94) "java/lang/String" "coder" "B") (.int 0)) (by decide +kernel))
    (fun i hi => by
    rcases (show i = 0 ∨ i = 1 ∨ i = 2 ∨ i = 3 by omega) with rfl | rfl | rfl | rfl
    · exact hs (Cond.arrayOf (.field (.string "SilkHouse$Reader" 44) "java/lang/String" "value" "[B") .byte) (by decide +kernel)
    · exact hs (Cond.arrayOf (.field (.string "SilkHouse$Reader" 69) "java/lang/String" "value" "[B") .byte) (by decide +kernel)
    · exact hs (Cond.arrayOf (.field (.string "SilkHouse$Reader" 89) "java/lang/String" "value" "[B") .byte) (by decide +kernel)
    · exact hs (Cond.arrayOf (.field (.string "SilkHouse$Reader" 94) "java/lang/String" "value" "[B") .byte) (by decide +kernel))
    (fun i hi => by
    rcases (show i = 0 ∨ i = 1 ∨ i = 2 ∨ i = 3 by omega) with rfl | rfl | rfl | rfl
    · exact hs (Cond.eq (.length (.field (.string "SilkHouse$Reader" 44) "java/lang/String" "value" "[B")) (.int 21)) (by decide +kernel)
    · exact hs (Cond.eq (.length (.field (.string "SilkHouse$Reader" 69) "java/lang/String" "value" "[B")) (.int 28)) (by decide +kernel)
    · exact hs (Cond.eq (.length (.field (.string "SilkHouse$Reader" 89) "java/lang/String" "value" "[B")) (.int 18)) (by decide +kernel)
    · exact hs (Cond.eq (.length (.field (.string "SilkHouse$Reader" 94) "java/lang/String" "value" "[B")) (.int 3)) (by decide +kernel))
    (fun i hi => by
    rcases (show i = 0 ∨ i = 1 ∨ i = 2 ∨ i = 3 by omega) with rfl | rfl | rfl | rfl
    · intro k hk
      have hk : k < 21 := hk
      rcases (show k = 0 ∨ k = 1 ∨ k = 2 ∨ k = 3 ∨ k = 4 ∨ k = 5 ∨ k = 6 ∨ k = 7 ∨ k = 8 ∨ k = 9 ∨ k = 10 ∨ k = 11 ∨ k = 12 ∨ k = 13 ∨ k = 14 ∨ k = 15 ∨ k = 16 ∨ k = 17 ∨ k = 18 ∨ k = 19 ∨ k = 20 by omega) with rfl | rfl | rfl | rfl | rfl | rfl | rfl | rfl | rfl | rfl | rfl | rfl | rfl | rfl | rfl | rfl | rfl | rfl | rfl | rfl | rfl
      · exact hs (Cond.eq (.elem (.field (.string "SilkHouse$Reader" 44) "java/lang/String" "value" "[B") (.int 0)) (.int 108)) (by decide +kernel)
      · exact hs (Cond.eq (.elem (.field (.string "SilkHouse$Reader" 44) "java/lang/String" "value" "[B") (.int 1)) (.int 101)) (by decide +kernel)
      · exact hs (Cond.eq (.elem (.field (.string "SilkHouse$Reader" 44) "java/lang/String" "value" "[B") (.int 2)) (.int 116)) (by decide +kernel)
      · exact hs (Cond.eq (.elem (.field (.string "SilkHouse$Reader" 44) "java/lang/String" "value" "[B") (.int 3)) (.int 32)) (by decide +kernel)
      · exact hs (Cond.eq (.elem (.field (.string "SilkHouse$Reader" 44) "java/lang/String" "value" "[B") (.int 4)) (.int 116)) (by decide +kernel)
      · exact hs (Cond.eq (.elem (.field (.string "SilkHouse$Reader" 44) "java/lang/String" "value" "[B") (.int 5)) (.int 97)) (by decide +kernel)
      · exact hs (Cond.eq (.elem (.field (.string "SilkHouse$Reader" 44) "java/lang/String" "value" "[B") (.int 6)) (.int 107)) (by decide +kernel)
      · exact hs (Cond.eq (.elem (.field (.string "SilkHouse$Reader" 44) "java/lang/String" "value" "[B") (.int 7)) (.int 101)) (by decide +kernel)
      · exact hs (Cond.eq (.elem (.field (.string "SilkHouse$Reader" 44) "java/lang/String" "value" "[B") (.int 8)) (.int 32)) (by decide +kernel)
      · exact hs (Cond.eq (.elem (.field (.string "SilkHouse$Reader" 44) "java/lang/String" "value" "[B") (.int 9)) (.int 110)) (by decide +kernel)
      · exact hs (Cond.eq (.elem (.field (.string "SilkHouse$Reader" 44) "java/lang/String" "value" "[B") (.int 10)) (.int 97)) (by decide +kernel)
      · exact hs (Cond.eq (.elem (.field (.string "SilkHouse$Reader" 44) "java/lang/String" "value" "[B") (.int 11)) (.int 109)) (by decide +kernel)
      · exact hs (Cond.eq (.elem (.field (.string "SilkHouse$Reader" 44) "java/lang/String" "value" "[B") (.int 12)) (.int 101)) (by decide +kernel)
      · exact hs (Cond.eq (.elem (.field (.string "SilkHouse$Reader" 44) "java/lang/String" "value" "[B") (.int 13)) (.int 32)) (by decide +kernel)
      · exact hs (Cond.eq (.elem (.field (.string "SilkHouse$Reader" 44) "java/lang/String" "value" "[B") (.int 14)) (.int 115)) (by decide +kernel)
      · exact hs (Cond.eq (.elem (.field (.string "SilkHouse$Reader" 44) "java/lang/String" "value" "[B") (.int 15)) (.int 116)) (by decide +kernel)
      · exact hs (Cond.eq (.elem (.field (.string "SilkHouse$Reader" 44) "java/lang/String" "value" "[B") (.int 16)) (.int 114)) (by decide +kernel)
      · exact hs (Cond.eq (.elem (.field (.string "SilkHouse$Reader" 44) "java/lang/String" "value" "[B") (.int 17)) (.int 105)) (by decide +kernel)
      · exact hs (Cond.eq (.elem (.field (.string "SilkHouse$Reader" 44) "java/lang/String" "value" "[B") (.int 18)) (.int 107)) (by decide +kernel)
      · exact hs (Cond.eq (.elem (.field (.string "SilkHouse$Reader" 44) "java/lang/String" "value" "[B") (.int 19)) (.int 101)) (by decide +kernel)
      · exact hs (Cond.eq (.elem (.field (.string "SilkHouse$Reader" 44) "java/lang/String" "value" "[B") (.int 20)) (.int 32)) (by decide +kernel)
    · intro k hk
      have hk : k < 28 := hk
      rcases (show k = 0 ∨ k = 1 ∨ k = 2 ∨ k = 3 ∨ k = 4 ∨ k = 5 ∨ k = 6 ∨ k = 7 ∨ k = 8 ∨ k = 9 ∨ k = 10 ∨ k = 11 ∨ k = 12 ∨ k = 13 ∨ k = 14 ∨ k = 15 ∨ k = 16 ∨ k = 17 ∨ k = 18 ∨ k = 19 ∨ k = 20 ∨ k = 21 ∨ k = 22 ∨ k = 23 ∨ k = 24 ∨ k = 25 ∨ k = 26 ∨ k = 27 by omega) with rfl | rfl | rfl | rfl | rfl | rfl | rfl | rfl | rfl | rfl | rfl | rfl | rfl | rfl | rfl | rfl | rfl | rfl | rfl | rfl | rfl | rfl | rfl | rfl | rfl | rfl | rfl | rfl
      · exact hs (Cond.eq (.elem (.field (.string "SilkHouse$Reader" 69) "java/lang/String" "value" "[B") (.int 0)) (.int 119)) (by decide +kernel)
      · exact hs (Cond.eq (.elem (.field (.string "SilkHouse$Reader" 69) "java/lang/String" "value" "[B") (.int 1)) (.int 97)) (by decide +kernel)
      · exact hs (Cond.eq (.elem (.field (.string "SilkHouse$Reader" 69) "java/lang/String" "value" "[B") (.int 2)) (.int 116)) (by decide +kernel)
      · exact hs (Cond.eq (.elem (.field (.string "SilkHouse$Reader" 69) "java/lang/String" "value" "[B") (.int 3)) (.int 101)) (by decide +kernel)
      · exact hs (Cond.eq (.elem (.field (.string "SilkHouse$Reader" 69) "java/lang/String" "value" "[B") (.int 4)) (.int 114)) (by decide +kernel)
      · exact hs (Cond.eq (.elem (.field (.string "SilkHouse$Reader" 69) "java/lang/String" "value" "[B") (.int 5)) (.int 32)) (by decide +kernel)
      · exact hs (Cond.eq (.elem (.field (.string "SilkHouse$Reader" 69) "java/lang/String" "value" "[B") (.int 6)) (.int 115)) (by decide +kernel)
      · exact hs (Cond.eq (.elem (.field (.string "SilkHouse$Reader" 69) "java/lang/String" "value" "[B") (.int 7)) (.int 107)) (by decide +kernel)
      · exact hs (Cond.eq (.elem (.field (.string "SilkHouse$Reader" 69) "java/lang/String" "value" "[B") (.int 8)) (.int 101)) (by decide +kernel)
      · exact hs (Cond.eq (.elem (.field (.string "SilkHouse$Reader" 69) "java/lang/String" "value" "[B") (.int 9)) (.int 105)) (by decide +kernel)
      · exact hs (Cond.eq (.elem (.field (.string "SilkHouse$Reader" 69) "java/lang/String" "value" "[B") (.int 10)) (.int 110)) (by decide +kernel)
      · exact hs (Cond.eq (.elem (.field (.string "SilkHouse$Reader" 69) "java/lang/String" "value" "[B") (.int 11)) (.int 115)) (by decide +kernel)
      · exact hs (Cond.eq (.elem (.field (.string "SilkHouse$Reader" 69) "java/lang/String" "value" "[B") (.int 12)) (.int 32)) (by decide +kernel)
      · exact hs (Cond.eq (.elem (.field (.string "SilkHouse$Reader" 69) "java/lang/String" "value" "[B") (.int 13)) (.int 112)) (by decide +kernel)
      · exact hs (Cond.eq (.elem (.field (.string "SilkHouse$Reader" 69) "java/lang/String" "value" "[B") (.int 14)) (.int 97)) (by decide +kernel)
      · exact hs (Cond.eq (.elem (.field (.string "SilkHouse$Reader" 69) "java/lang/String" "value" "[B") (.int 15)) (.int 114)) (by decide +kernel)
      · exact hs (Cond.eq (.elem (.field (.string "SilkHouse$Reader" 69) "java/lang/String" "value" "[B") (.int 16)) (.int 116)) (by decide +kernel)
      · exact hs (Cond.eq (.elem (.field (.string "SilkHouse$Reader" 69) "java/lang/String" "value" "[B") (.int 17)) (.int 32)) (by decide +kernel)
      · exact hs (Cond.eq (.elem (.field (.string "SilkHouse$Reader" 69) "java/lang/String" "value" "[B") (.int 18)) (.int 108)) (by decide +kernel)
      · exact hs (Cond.eq (.elem (.field (.string "SilkHouse$Reader" 69) "java/lang/String" "value" "[B") (.int 19)) (.int 111)) (by decide +kernel)
      · exact hs (Cond.eq (.elem (.field (.string "SilkHouse$Reader" 69) "java/lang/String" "value" "[B") (.int 20)) (.int 111)) (by decide +kernel)
      · exact hs (Cond.eq (.elem (.field (.string "SilkHouse$Reader" 69) "java/lang/String" "value" "[B") (.int 21)) (.int 107)) (by decide +kernel)
      · exact hs (Cond.eq (.elem (.field (.string "SilkHouse$Reader" 69) "java/lang/String" "value" "[B") (.int 22)) (.int 115)) (by decide +kernel)
      · exact hs (Cond.eq (.elem (.field (.string "SilkHouse$Reader" 69) "java/lang/String" "value" "[B") (.int 23)) (.int 32)) (by decide +kernel)
      · exact hs (Cond.eq (.elem (.field (.string "SilkHouse$Reader" 69) "java/lang/String" "value" "[B") (.int 24)) (.int 102)) (by decide +kernel)
      · exact hs (Cond.eq (.elem (.field (.string "SilkHouse$Reader" 69) "java/lang/String" "value" "[B") (.int 25)) (.int 101)) (by decide +kernel)
      · exact hs (Cond.eq (.elem (.field (.string "SilkHouse$Reader" 69) "java/lang/String" "value" "[B") (.int 26)) (.int 101)) (by decide +kernel)
      · exact hs (Cond.eq (.elem (.field (.string "SilkHouse$Reader" 69) "java/lang/String" "value" "[B") (.int 27)) (.int 32)) (by decide +kernel)
    · intro k hk
      have hk : k < 18 := hk
      rcases (show k = 0 ∨ k = 1 ∨ k = 2 ∨ k = 3 ∨ k = 4 ∨ k = 5 ∨ k = 6 ∨ k = 7 ∨ k = 8 ∨ k = 9 ∨ k = 10 ∨ k = 11 ∨ k = 12 ∨ k = 13 ∨ k = 14 ∨ k = 15 ∨ k = 16 ∨ k = 17 by omega) with rfl | rfl | rfl | rfl | rfl | rfl | rfl | rfl | rfl | rfl | rfl | rfl | rfl | rfl | rfl | rfl | rfl | rfl
      · exact hs (Cond.eq (.elem (.field (.string "SilkHouse$Reader" 89) "java/lang/String" "value" "[B") (.int 0)) (.int 109)) (by decide +kernel)
      · exact hs (Cond.eq (.elem (.field (.string "SilkHouse$Reader" 89) "java/lang/String" "value" "[B") (.int 1)) (.int 101)) (by decide +kernel)
      · exact hs (Cond.eq (.elem (.field (.string "SilkHouse$Reader" 89) "java/lang/String" "value" "[B") (.int 2)) (.int 97)) (by decide +kernel)
      · exact hs (Cond.eq (.elem (.field (.string "SilkHouse$Reader" 89) "java/lang/String" "value" "[B") (.int 3)) (.int 110)) (by decide +kernel)
      · exact hs (Cond.eq (.elem (.field (.string "SilkHouse$Reader" 89) "java/lang/String" "value" "[B") (.int 4)) (.int 32)) (by decide +kernel)
      · exact hs (Cond.eq (.elem (.field (.string "SilkHouse$Reader" 89) "java/lang/String" "value" "[B") (.int 5)) (.int 108)) (by decide +kernel)
      · exact hs (Cond.eq (.elem (.field (.string "SilkHouse$Reader" 89) "java/lang/String" "value" "[B") (.int 6)) (.int 101)) (by decide +kernel)
      · exact hs (Cond.eq (.elem (.field (.string "SilkHouse$Reader" 89) "java/lang/String" "value" "[B") (.int 7)) (.int 97)) (by decide +kernel)
      · exact hs (Cond.eq (.elem (.field (.string "SilkHouse$Reader" 89) "java/lang/String" "value" "[B") (.int 8)) (.int 115)) (by decide +kernel)
      · exact hs (Cond.eq (.elem (.field (.string "SilkHouse$Reader" 89) "java/lang/String" "value" "[B") (.int 9)) (.int 116)) (by decide +kernel)
      · exact hs (Cond.eq (.elem (.field (.string "SilkHouse$Reader" 89) "java/lang/String" "value" "[B") (.int 10)) (.int 32)) (by decide +kernel)
      · exact hs (Cond.eq (.elem (.field (.string "SilkHouse$Reader" 89) "java/lang/String" "value" "[B") (.int 11)) (.int 109)) (by decide +kernel)
      · exact hs (Cond.eq (.elem (.field (.string "SilkHouse$Reader" 89) "java/lang/String" "value" "[B") (.int 12)) (.int 105)) (by decide +kernel)
      · exact hs (Cond.eq (.elem (.field (.string "SilkHouse$Reader" 89) "java/lang/String" "value" "[B") (.int 13)) (.int 100)) (by decide +kernel)
      · exact hs (Cond.eq (.elem (.field (.string "SilkHouse$Reader" 89) "java/lang/String" "value" "[B") (.int 14)) (.int 100)) (by decide +kernel)
      · exact hs (Cond.eq (.elem (.field (.string "SilkHouse$Reader" 89) "java/lang/String" "value" "[B") (.int 15)) (.int 108)) (by decide +kernel)
      · exact hs (Cond.eq (.elem (.field (.string "SilkHouse$Reader" 89) "java/lang/String" "value" "[B") (.int 16)) (.int 101)) (by decide +kernel)
      · exact hs (Cond.eq (.elem (.field (.string "SilkHouse$Reader" 89) "java/lang/String" "value" "[B") (.int 17)) (.int 32)) (by decide +kernel)
    · intro k hk
      have hk : k < 3 := hk
      rcases (show k = 0 ∨ k = 1 ∨ k = 2 by omega) with rfl | rfl | rfl
      · exact hs (Cond.eq (.elem (.field (.string "SilkHouse$Reader" 94) "java/lang/String" "value" "[B") (.int 0)) (.int 116)) (by decide +kernel)
      · exact hs (Cond.eq (.elem (.field (.string "SilkHouse$Reader" 94) "java/lang/String" "value" "[B") (.int 1)) (.int 111)) (by decide +kernel)
      · exact hs (Cond.eq (.elem (.field (.string "SilkHouse$Reader" 94) "java/lang/String" "value" "[B") (.int 2)) (.int 32)) (by decide +kernel))
    (fun i j hi hj hij => by
      rcases (show i = 0 ∨ i = 1 ∨ i = 2 ∨ i = 3 by omega) with rfl | rfl | rfl | rfl
      · rcases (show j = 0 ∨ j = 1 ∨ j = 2 ∨ j = 3 by omega) with rfl | rfl | rfl | rfl
        · exact absurd rfl hij
        · exact Or.inl (hs (Cond.not (Cond.eq (.string "SilkHouse$Reader" 44) (.string "SilkHouse$Reader" 69))) (by decide +kernel))
        · exact Or.inl (hs (Cond.not (Cond.eq (.string "SilkHouse$Reader" 44) (.string "SilkHouse$Reader" 89))) (by decide +kernel))
        · exact Or.inl (hs (Cond.not (Cond.eq (.string "SilkHouse$Reader" 44) (.string "SilkHouse$Reader" 94))) (by decide +kernel))
      · rcases (show j = 0 ∨ j = 1 ∨ j = 2 ∨ j = 3 by omega) with rfl | rfl | rfl | rfl
        · exact Or.inr (hs (Cond.not (Cond.eq (.string "SilkHouse$Reader" 44) (.string "SilkHouse$Reader" 69))) (by decide +kernel))
        · exact absurd rfl hij
        · exact Or.inl (hs (Cond.not (Cond.eq (.string "SilkHouse$Reader" 69) (.string "SilkHouse$Reader" 89))) (by decide +kernel))
        · exact Or.inl (hs (Cond.not (Cond.eq (.string "SilkHouse$Reader" 69) (.string "SilkHouse$Reader" 94))) (by decide +kernel))
      · rcases (show j = 0 ∨ j = 1 ∨ j = 2 ∨ j = 3 by omega) with rfl | rfl | rfl | rfl
        · exact Or.inr (hs (Cond.not (Cond.eq (.string "SilkHouse$Reader" 44) (.string "SilkHouse$Reader" 89))) (by decide +kernel))
        · exact Or.inr (hs (Cond.not (Cond.eq (.string "SilkHouse$Reader" 69) (.string "SilkHouse$Reader" 89))) (by decide +kernel))
        · exact absurd rfl hij
        · exact Or.inl (hs (Cond.not (Cond.eq (.string "SilkHouse$Reader" 89) (.string "SilkHouse$Reader" 94))) (by decide +kernel))
      · rcases (show j = 0 ∨ j = 1 ∨ j = 2 ∨ j = 3 by omega) with rfl | rfl | rfl | rfl
        · exact Or.inr (hs (Cond.not (Cond.eq (.string "SilkHouse$Reader" 44) (.string "SilkHouse$Reader" 94))) (by decide +kernel))
        · exact Or.inr (hs (Cond.not (Cond.eq (.string "SilkHouse$Reader" 69) (.string "SilkHouse$Reader" 94))) (by decide +kernel))
        · exact Or.inr (hs (Cond.not (Cond.eq (.string "SilkHouse$Reader" 89) (.string "SilkHouse$Reader" 94))) (by decide +kernel))
        · exact absurd rfl hij) hA0
  refine ⟨ak, av, ⟨⟨t0, z0, b0⟩, ⟨t1, z1, b1⟩, ⟨t2, z2, b2⟩, zc, zq, hk⟩, vk_R.of (hts (.stringRef "SilkHouse$Reader" 44 "let take name strike ") (List.mem_of_getElem? (i := 696) rfl)) (he 0 (by decide)), vk_R.of (hts (.stringRef "SilkHouse$Reader" 69 "water skeins part looks fee ") (List.mem_of_getElem? (i := 765) rfl)) (he 1 (by decide)), vk_R.of (hts (.stringRef "SilkHouse$Reader" 89 "mean least middle ") (List.mem_of_getElem? (i := 787) rfl)) (he 2 (by decide)), vk_R.of (hts (.stringRef "SilkHouse$Reader" 94 "to ") (List.mem_of_getElem? (i := 800) rfl)) (he 3 (by decide)), va_Nw.of rfl (hts (.methodLinkNest "SilkHouse$Reader" 120 yX11_within "SilkHouse") (List.mem_of_getElem? (i := 774) rfl)), va_Nw.of rfl (hts (.methodLinkNest "SilkHouse$Doubts" 92 yX11_within "SilkHouse") (List.mem_of_getElem? (i := 908) rfl))⟩
