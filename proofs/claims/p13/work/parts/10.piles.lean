/-! ===== piles ===== -/
theorem m_261 : Cond.fieldLink RX7 7 "SilkHouse$Piles" "raw" "[J" ∈ tb := mb_1_4 _ (List.mem_of_getElem? (i := 17) rfl)
theorem m_264 : Cond.fieldLink RX7 13 "SilkHouse$Piles" "dry" "[J" ∈ tb := mb_1_4 _ (List.mem_of_getElem? (i := 20) rfl)
theorem m_267 : Cond.fieldLink RX7 16 "SilkHouse$Piles" "skeins" "[I" ∈ tb := mb_1_4 _ (List.mem_of_getElem? (i := 23) rfl)
set_option maxRecDepth 100000 in
theorem dvX7_clear_0 : ([(0, .iconst 0, 1), (1, .istore_n 1, 1), (2, .iload_n 1, 1), (3, .iconst 3, 1), (4, .if_icmp .ge 30, 3), (7, .aload_n 0, 1), (8, .getfield 7, 3), (11, .iload_n 1, 1), (12, .lconst 0, 1), (13, .lastore, 1), (14, .aload_n 0, 1), (15, .getfield 13, 3), (18, .iload_n 1, 1), (19, .lconst 0, 1), (20, .lastore, 1), (21, .aload_n 0, 1), (22, .getfield 16, 3), (25, .iload_n 1, 1), (26, .iconst 0, 1), (27, .iastore, 1), (28, .iinc 1 1, 3), (31, .goto (-29), 3), (34, .return_, 1)] : List (Nat × Instr × Nat)).all (fun q => decide (decode cX7_clear q.1 = .ok (q.2.1, q.2.2))) = true := by decide +kernel
theorem dX7_clear_0 : decode cX7_clear 0 = .ok (.iconst 0, 1) := all_at dvX7_clear_0 0 rfl
theorem dX7_clear_1 : decode cX7_clear 1 = .ok (.istore_n 1, 1) := all_at dvX7_clear_0 1 rfl
theorem dX7_clear_2 : decode cX7_clear 2 = .ok (.iload_n 1, 1) := all_at dvX7_clear_0 2 rfl
theorem dX7_clear_3 : decode cX7_clear 3 = .ok (.iconst 3, 1) := all_at dvX7_clear_0 3 rfl
theorem dX7_clear_4 : decode cX7_clear 4 = .ok (.if_icmp .ge 30, 3) := all_at dvX7_clear_0 4 rfl
theorem dX7_clear_7 : decode cX7_clear 7 = .ok (.aload_n 0, 1) := all_at dvX7_clear_0 5 rfl
theorem dX7_clear_8 : decode cX7_clear 8 = .ok (.getfield 7, 3) := all_at dvX7_clear_0 6 rfl
theorem dX7_clear_11 : decode cX7_clear 11 = .ok (.iload_n 1, 1) := all_at dvX7_clear_0 7 rfl
theorem dX7_clear_12 : decode cX7_clear 12 = .ok (.lconst 0, 1) := all_at dvX7_clear_0 8 rfl
theorem dX7_clear_13 : decode cX7_clear 13 = .ok (.lastore, 1) := all_at dvX7_clear_0 9 rfl
theorem dX7_clear_14 : decode cX7_clear 14 = .ok (.aload_n 0, 1) := all_at dvX7_clear_0 10 rfl
theorem dX7_clear_15 : decode cX7_clear 15 = .ok (.getfield 13, 3) := all_at dvX7_clear_0 11 rfl
theorem dX7_clear_18 : decode cX7_clear 18 = .ok (.iload_n 1, 1) := all_at dvX7_clear_0 12 rfl
theorem dX7_clear_19 : decode cX7_clear 19 = .ok (.lconst 0, 1) := all_at dvX7_clear_0 13 rfl
theorem dX7_clear_20 : decode cX7_clear 20 = .ok (.lastore, 1) := all_at dvX7_clear_0 14 rfl
theorem dX7_clear_21 : decode cX7_clear 21 = .ok (.aload_n 0, 1) := all_at dvX7_clear_0 15 rfl
theorem dX7_clear_22 : decode cX7_clear 22 = .ok (.getfield 16, 3) := all_at dvX7_clear_0 16 rfl
theorem dX7_clear_25 : decode cX7_clear 25 = .ok (.iload_n 1, 1) := all_at dvX7_clear_0 17 rfl
theorem dX7_clear_26 : decode cX7_clear 26 = .ok (.iconst 0, 1) := all_at dvX7_clear_0 18 rfl
theorem dX7_clear_27 : decode cX7_clear 27 = .ok (.iastore, 1) := all_at dvX7_clear_0 19 rfl
theorem dX7_clear_28 : decode cX7_clear 28 = .ok (.iinc 1 1, 3) := all_at dvX7_clear_0 20 rfl
theorem dX7_clear_31 : decode cX7_clear 31 = .ok (.goto (-29), 3) := all_at dvX7_clear_0 21 rfl
theorem dX7_clear_34 : decode cX7_clear 34 = .ok (.return_, 1) := all_at dvX7_clear_0 22 rfl
set_option maxRecDepth 100000 in
theorem dvX7_level_0 : ([(0, .aload_n 0, 1), (1, .getfield 13, 3), (4, .iload_n 1, 1), (5, .laload, 1), (6, .aload_n 0, 1), (7, .getfield 7, 3), (10, .iload_n 1, 1), (11, .iconst 1, 1), (12, .iadd, 1), (13, .iconst 3, 1), (14, .irem, 1), (15, .laload, 1), (16, .lmul, 1), (17, .aload_n 0, 1), (18, .getfield 7, 3), (21, .iload_n 1, 1), (22, .iconst 2, 1), (23, .iadd, 1), (24, .iconst 3, 1), (25, .irem, 1), (26, .laload, 1), (27, .lmul, 1), (28, .lreturn, 1)] : List (Nat × Instr × Nat)).all (fun q => decide (decode cX7_level q.1 = .ok (q.2.1, q.2.2))) = true := by decide +kernel
theorem dX7_level_0 : decode cX7_level 0 = .ok (.aload_n 0, 1) := all_at dvX7_level_0 0 rfl
theorem dX7_level_1 : decode cX7_level 1 = .ok (.getfield 13, 3) := all_at dvX7_level_0 1 rfl
theorem dX7_level_4 : decode cX7_level 4 = .ok (.iload_n 1, 1) := all_at dvX7_level_0 2 rfl
theorem dX7_level_5 : decode cX7_level 5 = .ok (.laload, 1) := all_at dvX7_level_0 3 rfl
theorem dX7_level_6 : decode cX7_level 6 = .ok (.aload_n 0, 1) := all_at dvX7_level_0 4 rfl
theorem dX7_level_7 : decode cX7_level 7 = .ok (.getfield 7, 3) := all_at dvX7_level_0 5 rfl
theorem dX7_level_10 : decode cX7_level 10 = .ok (.iload_n 1, 1) := all_at dvX7_level_0 6 rfl
theorem dX7_level_11 : decode cX7_level 11 = .ok (.iconst 1, 1) := all_at dvX7_level_0 7 rfl
theorem dX7_level_12 : decode cX7_level 12 = .ok (.iadd, 1) := all_at dvX7_level_0 8 rfl
theorem dX7_level_13 : decode cX7_level 13 = .ok (.iconst 3, 1) := all_at dvX7_level_0 9 rfl
theorem dX7_level_14 : decode cX7_level 14 = .ok (.irem, 1) := all_at dvX7_level_0 10 rfl
theorem dX7_level_15 : decode cX7_level 15 = .ok (.laload, 1) := all_at dvX7_level_0 11 rfl
theorem dX7_level_16 : decode cX7_level 16 = .ok (.lmul, 1) := all_at dvX7_level_0 12 rfl
theorem dX7_level_17 : decode cX7_level 17 = .ok (.aload_n 0, 1) := all_at dvX7_level_0 13 rfl
theorem dX7_level_18 : decode cX7_level 18 = .ok (.getfield 7, 3) := all_at dvX7_level_0 14 rfl
theorem dX7_level_21 : decode cX7_level 21 = .ok (.iload_n 1, 1) := all_at dvX7_level_0 15 rfl
theorem dX7_level_22 : decode cX7_level 22 = .ok (.iconst 2, 1) := all_at dvX7_level_0 16 rfl
theorem dX7_level_23 : decode cX7_level 23 = .ok (.iadd, 1) := all_at dvX7_level_0 17 rfl
theorem dX7_level_24 : decode cX7_level 24 = .ok (.iconst 3, 1) := all_at dvX7_level_0 18 rfl
theorem dX7_level_25 : decode cX7_level 25 = .ok (.irem, 1) := all_at dvX7_level_0 19 rfl
theorem dX7_level_26 : decode cX7_level 26 = .ok (.laload, 1) := all_at dvX7_level_0 20 rfl
theorem dX7_level_27 : decode cX7_level 27 = .ok (.lmul, 1) := all_at dvX7_level_0 21 rfl
theorem dX7_level_28 : decode cX7_level 28 = .ok (.lreturn, 1) := all_at dvX7_level_0 22 rfl
set_option maxRecDepth 100000 in
theorem dvX7_put_0 : ([(0, .aload_n 0, 1), (1, .getfield 7, 3), (4, .iload_n 1, 1), (5, .dup2, 1), (6, .laload, 1), (7, .iload_n 2, 1), (8, .i2l, 1), (9, .ladd, 1), (10, .lastore, 1), (11, .aload_n 0, 1), (12, .getfield 13, 3), (15, .iload_n 1, 1), (16, .dup2, 1), (17, .laload, 1), (18, .iload_n 3, 1), (19, .i2l, 1), (20, .ladd, 1), (21, .lastore, 1), (22, .aload_n 0, 1), (23, .getfield 16, 3), (26, .iload_n 1, 1), (27, .dup2, 1), (28, .iaload, 1), (29, .iconst 1, 1)] : List (Nat × Instr × Nat)).all (fun q => decide (decode cX7_put q.1 = .ok (q.2.1, q.2.2))) = true := by decide +kernel
theorem dX7_put_0 : decode cX7_put 0 = .ok (.aload_n 0, 1) := all_at dvX7_put_0 0 rfl
theorem dX7_put_1 : decode cX7_put 1 = .ok (.getfield 7, 3) := all_at dvX7_put_0 1 rfl
theorem dX7_put_4 : decode cX7_put 4 = .ok (.iload_n 1, 1) := all_at dvX7_put_0 2 rfl
theorem dX7_put_5 : decode cX7_put 5 = .ok (.dup2, 1) := all_at dvX7_put_0 3 rfl
theorem dX7_put_6 : decode cX7_put 6 = .ok (.laload, 1) := all_at dvX7_put_0 4 rfl
theorem dX7_put_7 : decode cX7_put 7 = .ok (.iload_n 2, 1) := all_at dvX7_put_0 5 rfl
theorem dX7_put_8 : decode cX7_put 8 = .ok (.i2l, 1) := all_at dvX7_put_0 6 rfl
theorem dX7_put_9 : decode cX7_put 9 = .ok (.ladd, 1) := all_at dvX7_put_0 7 rfl
theorem dX7_put_10 : decode cX7_put 10 = .ok (.lastore, 1) := all_at dvX7_put_0 8 rfl
theorem dX7_put_11 : decode cX7_put 11 = .ok (.aload_n 0, 1) := all_at dvX7_put_0 9 rfl
theorem dX7_put_12 : decode cX7_put 12 = .ok (.getfield 13, 3) := all_at dvX7_put_0 10 rfl
theorem dX7_put_15 : decode cX7_put 15 = .ok (.iload_n 1, 1) := all_at dvX7_put_0 11 rfl
theorem dX7_put_16 : decode cX7_put 16 = .ok (.dup2, 1) := all_at dvX7_put_0 12 rfl
theorem dX7_put_17 : decode cX7_put 17 = .ok (.laload, 1) := all_at dvX7_put_0 13 rfl
theorem dX7_put_18 : decode cX7_put 18 = .ok (.iload_n 3, 1) := all_at dvX7_put_0 14 rfl
theorem dX7_put_19 : decode cX7_put 19 = .ok (.i2l, 1) := all_at dvX7_put_0 15 rfl
theorem dX7_put_20 : decode cX7_put 20 = .ok (.ladd, 1) := all_at dvX7_put_0 16 rfl
theorem dX7_put_21 : decode cX7_put 21 = .ok (.lastore, 1) := all_at dvX7_put_0 17 rfl
theorem dX7_put_22 : decode cX7_put 22 = .ok (.aload_n 0, 1) := all_at dvX7_put_0 18 rfl
theorem dX7_put_23 : decode cX7_put 23 = .ok (.getfield 16, 3) := all_at dvX7_put_0 19 rfl
theorem dX7_put_26 : decode cX7_put 26 = .ok (.iload_n 1, 1) := all_at dvX7_put_0 20 rfl
theorem dX7_put_27 : decode cX7_put 27 = .ok (.dup2, 1) := all_at dvX7_put_0 21 rfl
theorem dX7_put_28 : decode cX7_put 28 = .ok (.iaload, 1) := all_at dvX7_put_0 22 rfl
theorem dX7_put_29 : decode cX7_put 29 = .ok (.iconst 1, 1) := all_at dvX7_put_0 23 rfl
theorem dX7_put_30 : decode cX7_put 30 = .ok (.iadd, 1) := by decide +kernel
theorem dX7_put_31 : decode cX7_put 31 = .ok (.iastore, 1) := by decide +kernel
theorem dX7_put_32 : decode cX7_put 32 = .ok (.return_, 1) := by decide +kernel
set_option maxRecDepth 100000 in
theorem dvX7_remove_0 : ([(0, .aload_n 0, 1), (1, .getfield 7, 3), (4, .iload_n 1, 1), (5, .dup2, 1), (6, .laload, 1), (7, .iload_n 2, 1), (8, .i2l, 1), (9, .lsub, 1), (10, .lastore, 1), (11, .aload_n 0, 1), (12, .getfield 13, 3), (15, .iload_n 1, 1), (16, .dup2, 1), (17, .laload, 1), (18, .iload_n 3, 1), (19, .i2l, 1), (20, .lsub, 1), (21, .lastore, 1), (22, .aload_n 0, 1), (23, .getfield 16, 3), (26, .iload_n 1, 1), (27, .dup2, 1), (28, .iaload, 1), (29, .iconst 1, 1)] : List (Nat × Instr × Nat)).all (fun q => decide (decode cX7_remove q.1 = .ok (q.2.1, q.2.2))) = true := by decide +kernel
theorem dX7_remove_0 : decode cX7_remove 0 = .ok (.aload_n 0, 1) := all_at dvX7_remove_0 0 rfl
theorem dX7_remove_1 : decode cX7_remove 1 = .ok (.getfield 7, 3) := all_at dvX7_remove_0 1 rfl
theorem dX7_remove_4 : decode cX7_remove 4 = .ok (.iload_n 1, 1) := all_at dvX7_remove_0 2 rfl
theorem dX7_remove_5 : decode cX7_remove 5 = .ok (.dup2, 1) := all_at dvX7_remove_0 3 rfl
theorem dX7_remove_6 : decode cX7_remove 6 = .ok (.laload, 1) := all_at dvX7_remove_0 4 rfl
theorem dX7_remove_7 : decode cX7_remove 7 = .ok (.iload_n 2, 1) := all_at dvX7_remove_0 5 rfl
theorem dX7_remove_8 : decode cX7_remove 8 = .ok (.i2l, 1) := all_at dvX7_remove_0 6 rfl
theorem dX7_remove_9 : decode cX7_remove 9 = .ok (.lsub, 1) := all_at dvX7_remove_0 7 rfl
theorem dX7_remove_10 : decode cX7_remove 10 = .ok (.lastore, 1) := all_at dvX7_remove_0 8 rfl
theorem dX7_remove_11 : decode cX7_remove 11 = .ok (.aload_n 0, 1) := all_at dvX7_remove_0 9 rfl
theorem dX7_remove_12 : decode cX7_remove 12 = .ok (.getfield 13, 3) := all_at dvX7_remove_0 10 rfl
theorem dX7_remove_15 : decode cX7_remove 15 = .ok (.iload_n 1, 1) := all_at dvX7_remove_0 11 rfl
theorem dX7_remove_16 : decode cX7_remove 16 = .ok (.dup2, 1) := all_at dvX7_remove_0 12 rfl
theorem dX7_remove_17 : decode cX7_remove 17 = .ok (.laload, 1) := all_at dvX7_remove_0 13 rfl
theorem dX7_remove_18 : decode cX7_remove 18 = .ok (.iload_n 3, 1) := all_at dvX7_remove_0 14 rfl
theorem dX7_remove_19 : decode cX7_remove 19 = .ok (.i2l, 1) := all_at dvX7_remove_0 15 rfl
theorem dX7_remove_20 : decode cX7_remove 20 = .ok (.lsub, 1) := all_at dvX7_remove_0 16 rfl
theorem dX7_remove_21 : decode cX7_remove 21 = .ok (.lastore, 1) := all_at dvX7_remove_0 17 rfl
theorem dX7_remove_22 : decode cX7_remove 22 = .ok (.aload_n 0, 1) := all_at dvX7_remove_0 18 rfl
theorem dX7_remove_23 : decode cX7_remove 23 = .ok (.getfield 16, 3) := all_at dvX7_remove_0 19 rfl
theorem dX7_remove_26 : decode cX7_remove 26 = .ok (.iload_n 1, 1) := all_at dvX7_remove_0 20 rfl
theorem dX7_remove_27 : decode cX7_remove 27 = .ok (.dup2, 1) := all_at dvX7_remove_0 21 rfl
theorem dX7_remove_28 : decode cX7_remove 28 = .ok (.iaload, 1) := all_at dvX7_remove_0 22 rfl
theorem dX7_remove_29 : decode cX7_remove 29 = .ok (.iconst 1, 1) := all_at dvX7_remove_0 23 rfl
theorem dX7_remove_30 : decode cX7_remove 30 = .ok (.isub, 1) := by decide +kernel
theorem dX7_remove_31 : decode cX7_remove 31 = .ok (.iastore, 1) := by decide +kernel
theorem dX7_remove_32 : decode cX7_remove 32 = .ok (.return_, 1) := by decide +kernel
set_option maxHeartbeats 4000000 in
set_option maxRecDepth 100000 in
/-- X7_clear -/
theorem c_X7_clear_30 (l : Launch) (dC : Nat → ClassId) (dI : Nat → Nat → Nat) (sz : Nat) (h : Nat) (g : Nat → Nat → Nat) (ca : Nat → Nat → ClassId) (iv : Nat → Nat → Int32) (lv : Nat → Nat → Int64) (fa : Nat → Nat → Nat → Int32) (la : Nat → Nat → Nat → Int64) (hI : IX iv fa) : Met l yX7_clear (wc yX7_clear cX7_clear 2 none) ({ frames := 0, cells := 0, slots := 0, locals := 0 } : Room) (pW (dC, dI) classes (WX h g ca iv lv fa la) (TX ca) sz [.ref (g 3 2)]) (va_Qv (fun (u : SS) => ∃ (na_30_2 : Nat → Int32) (nb_30_0 : Nat → Int64) (nb_30_1 : Nat → Int64), u = (iv, lv, (u2 fa 30 2 na_30_2), (u2 (u2 la 30 0 nb_30_0) 30 1 nb_30_1))) (bX (dC, dI) h g ca (va_A (WX h g ca iv lv fa la) sz)) (va_A (WX h g ca iv lv fa la) sz)) 0 0 (va_A (WX h g ca iv lv fa la) sz) := by
  refine Met.ofW (cc := cX7_clear) (maxL := 2) (ret := none) (by decide) rfl ?_
  intro p e s m args below meth c s₁ B hml hv
  obtain ⟨rfl, hsz, hP, hK, hD0⟩ := hv
  have hx := B.exec
  have hb := B.bytes
  have hr := B.returns
  have ht := tb_tl (atoms_spec (ws := wc yX7_clear cX7_clear 2 none) B.pre)
  have hown : s.vm.findClass RX7 = some m.cls := findClass_of_methodNamed B.named
  have hlocks := B.notSynchronized
  subst hsz
  have hD := hD0.self (sz := s.heap.size)
  generalize hAe : va_A (WX h g ca iv lv fa la) s.heap.size = A at hD ⊢
  have hA : ∀ q : Nat, s.heap.size ≤ q → A q := fun q h => by rw [← hAe]; exact Or.inr h
  have hS : va_S A s.heap s.heap [] := va_S.rf
  have hl := lv_entry [.ref (g 3 2)] (n := 2) (Nat.le_of_ble_eq_true rfl)
  rw [lg_entry_eq]
  generalize (lg_sl [.ref (g 3 2)] ++ List.replicate (2 - (lg_sl [.ref (g 3 2)]).length) Slot.unset).toArray = ls at hl ⊢
  have hl : lv_has ls 2 [(0, .ref (g 3 2))] := hl
  refine lv_iconst (v := 0) hx hb dX7_clear_0 (by decide) ?_
  refine lv_istore_n (lv' := [(1, .int 0), (0, .ref (g 3 2))]) hx hb dX7_clear_1 rfl hl (by decide) rfl (fun ls hl => ?_)
  have lp26 : ∀ (nn26 : Nat) (x25_1 : Int32) (w25_a_30_2 : Nat → Int32) (w25_b_30_0 : Nat → Int64) (w25_b_30_1 : Nat → Int64), 0 ≤ x25_1.toInt ∧ x25_1.toInt ≤ 3 → (∀ j, inb (bA 30 2 j) (w25_a_30_2 j)) → 3 - x25_1.toInt < (nn26 : Int) → ∀ (H : Heap) (locs : List Loc), ∀ (ls : Array Slot), va_P (dC, dI) classes (WX h g ca iv lv (u2 fa 30 2 w25_a_30_2) (u2 (u2 la 30 0 w25_b_30_0) 30 1 w25_b_30_1)) H → va_D A (WX h g ca iv lv (u2 fa 30 2 w25_a_30_2) (u2 (u2 la 30 0 w25_b_30_0) 30 1 w25_b_30_1)) → va_S A s.heap H locs → lv_has ls 2 [(1, .int x25_1), (0, .ref (g 3 2))] → W p l e ({ frames := 0, cells := 0, slots := 0, locals := 0 } : Room) s m ([.ref (g 3 2)] : List Value).toArray below meth c H locs 0 0 (MQ below (va_Qv (fun (u : SS) => ∃ (na_30_2 : Nat → Int32) (nb_30_0 : Nat → Int64) (nb_30_1 : Nat → Int64), u = (iv, lv, (u2 fa 30 2 na_30_2), (u2 (u2 la 30 0 nb_30_0) 30 1 nb_30_1))) (bX (dC, dI) h g ca A) A) ([.ref (g 3 2)] : List Value).toArray s 0 0 A) (F0 m 2 ls []) := by
    intro nn26
    induction nn26 with
    | zero => intro x25_1 w25_a_30_2 w25_b_30_0 w25_b_30_1 hx25_1 hw25_a_30_2 hm26; exfalso; omega
    | succ nn26 ih26 =>
      intro x25_1 w25_a_30_2 w25_b_30_0 w25_b_30_1 hx25_1 hw25_a_30_2 hm26 H locs ls hP hD hS hl
      refine lv_iload_n hx hb dX7_clear_2 rfl (lv_at hl 0 rfl) ?_
      refine lv_iconst (v := 3) hx hb dX7_clear_3 (by decide) ?_
      refine lv_icmp_ge (tgt := 34) hx hb dX7_clear_4 (by decide) (fun c27 => ?_) (fun c27 => ?_)
      · have fc27 := z_le (by decide : (3 : Int32).toInt = 3) (rfl : (x25_1).toInt = _) c27
        have hP9 : va_P (dC, dI) classes (WX h g ca iv lv (u2 fa 30 2 w25_a_30_2) (u2 (u2 la 30 0 w25_b_30_0) 30 1 w25_b_30_1)) H := hP
        have hD9 : va_D A (WX h g ca iv lv (u2 fa 30 2 w25_a_30_2) (u2 (u2 la 30 0 w25_b_30_0) 30 1 w25_b_30_1)) := hD
        exact W.vret hx hb hr (fun t ht9 hW => ⟨⟨(iv, lv, (u2 fa 30 2 w25_a_30_2), (u2 (u2 la 30 0 w25_b_30_0) 30 1 w25_b_30_1)), rfl, ⟨w25_a_30_2, w25_b_30_0, w25_b_30_1, rfl⟩, by rw [ht9]; exact hP9, hD9⟩, hS.F ht9⟩) hS.2.2 dX7_clear_34
      · have fc27 := z_nle (by decide : (3 : Int32).toInt = 3) (rfl : (x25_1).toInt = _) c27
        refine lv_aload_n hx hb dX7_clear_7 rfl (lv_at hl 1 rfl) ?_
        refine gX_30_0 hx hb ht hown hK hP m_261 dX7_clear_8 ?_
        refine lv_iload_n hx hb dX7_clear_11 rfl (lv_at hl 0 rfl) ?_
        refine lv_lconst (v := 0) hx hb dX7_clear_12 (by decide) ?_
        refine tX_30_0 hx hb hK hP hD hS (f0 := w25_b_30_0) rfl (i := x25_1) (x := 0) (vp_in_iff.mpr ⟨by omega, by omega⟩) dX7_clear_13 (fun f28 ef28 H locs hP hD hS => ?_)
        have hP : va_P (dC, dI) classes (WX h g ca iv lv (u2 fa 30 2 w25_a_30_2) (u2 (u2 la 30 0 f28) 30 1 w25_b_30_1)) H := hP
        have hD : va_D A (WX h g ca iv lv (u2 fa 30 2 w25_a_30_2) (u2 (u2 la 30 0 f28) 30 1 w25_b_30_1)) := hD
        refine lv_aload_n hx hb dX7_clear_14 rfl (lv_at hl 1 rfl) ?_
        refine gX_30_1 hx hb ht hown hK hP m_264 dX7_clear_15 ?_
        refine lv_iload_n hx hb dX7_clear_18 rfl (lv_at hl 0 rfl) ?_
        refine lv_lconst (v := 0) hx hb dX7_clear_19 (by decide) ?_
        refine tX_30_1 hx hb hK hP hD hS (f0 := w25_b_30_1) rfl (i := x25_1) (x := 0) (vp_in_iff.mpr ⟨by omega, by omega⟩) dX7_clear_20 (fun f29 ef29 H locs hP hD hS => ?_)
        have hP : va_P (dC, dI) classes (WX h g ca iv lv (u2 fa 30 2 w25_a_30_2) (u2 (u2 la 30 0 f28) 30 1 f29)) H := hP
        have hD : va_D A (WX h g ca iv lv (u2 fa 30 2 w25_a_30_2) (u2 (u2 la 30 0 f28) 30 1 f29)) := hD
        refine lv_aload_n hx hb dX7_clear_21 rfl (lv_at hl 1 rfl) ?_
        refine gX_30_2 hx hb ht hown hK hP m_267 dX7_clear_22 ?_
        refine lv_iload_n hx hb dX7_clear_25 rfl (lv_at hl 0 rfl) ?_
        refine lv_iconst (v := 0) hx hb dX7_clear_26 (by decide) ?_
        refine tX_30_2 hx hb hK hP hD hS (f0 := w25_a_30_2) rfl (i := x25_1) (x := 0) (vp_in_iff.mpr ⟨by omega, by omega⟩) dX7_clear_27 (fun f30 ef30 H locs hP hD hS => ?_)
        have hf30 : ∀ j, inb (bA 30 2 j) (f30 j) := fun j => full_i _
        have hP : va_P (dC, dI) classes (WX h g ca iv lv (u2 fa 30 2 f30) (u2 (u2 la 30 0 f28) 30 1 f29)) H := hP
        have hD : va_D A (WX h g ca iv lv (u2 fa 30 2 f30) (u2 (u2 la 30 0 f28) 30 1 f29)) := hD
        obtain ⟨v31, ev31⟩ : ∃ y : Int32, y = x25_1 + 1 := ⟨_, rfl⟩
        have tv31 := z_add ev31 rfl (by decide : (1 : Int32).toInt = 1) (by omega) (by omega)
        refine lv_iinc (v := v31) (lv' := [(1, .int v31), (0, .ref (g 3 2))]) hx hb dX7_clear_28 hl (k := 0) rfl (by rw [ev31]; rfl) (by decide) rfl (fun ls hl => ?_)
        refine lv_goto (tgt := 2) hx hb dX7_clear_31 (by decide) ?_
        exact ih26 v31 f30 f28 f29 ⟨by omega, by omega⟩ hf30 (by omega) _ _ ls hP hD hS (lv_sub hl [0, 1] rfl)
  exact lp26 4 0 (fa 30 2) (la 30 0) (la 30 1) ⟨by decide, by decide⟩ (hI.2 30 2) (by first | decide | omega) _ _ ls hP hD hS (lv_sub hl [0, 1] rfl)
set_option maxHeartbeats 4000000 in
set_option maxRecDepth 100000 in
/-- X7_put -/
theorem c_X7_put_30 (l : Launch) (dC : Nat → ClassId) (dI : Nat → Nat → Nat) (sz : Nat) (h : Nat) (g : Nat → Nat → Nat) (ca : Nat → Nat → ClassId) (iv : Nat → Nat → Int32) (lv : Nat → Nat → Int64) (fa : Nat → Nat → Nat → Int32) (la : Nat → Nat → Nat → Int64) (hI : IX iv fa) (a : Int32) (b : Int32) (d : Int32) (h_a : 0 ≤ a.toInt ∧ a.toInt ≤ 2) : Met l yX7_put (wc yX7_put cX7_put 4 none) ({ frames := 0, cells := 0, slots := 0, locals := 0 } : Room) (pW (dC, dI) classes (WX h g ca iv lv fa la) (TX ca) sz [.ref (g 3 2), .int a, .int b, .int d]) (va_Qv (fun (u : SS) => ∃ (na_30_2 : Nat → Int32) (nb_30_0 : Nat → Int64) (nb_30_1 : Nat → Int64), u = (iv, lv, (u2 fa 30 2 na_30_2), (u2 (u2 la 30 0 nb_30_0) 30 1 nb_30_1))) (bX (dC, dI) h g ca (va_A (WX h g ca iv lv fa la) sz)) (va_A (WX h g ca iv lv fa la) sz)) 0 0 (va_A (WX h g ca iv lv fa la) sz) := by
  refine Met.ofW (cc := cX7_put) (maxL := 4) (ret := none) (by decide) rfl ?_
  intro p e s m args below meth c s₁ B hml hv
  obtain ⟨rfl, hsz, hP, hK, hD0⟩ := hv
  have hx := B.exec
  have hb := B.bytes
  have hr := B.returns
  have ht := tb_tl (atoms_spec (ws := wc yX7_put cX7_put 4 none) B.pre)
  have hown : s.vm.findClass RX7 = some m.cls := findClass_of_methodNamed B.named
  have hlocks := B.notSynchronized
  subst hsz
  have hD := hD0.self (sz := s.heap.size)
  generalize hAe : va_A (WX h g ca iv lv fa la) s.heap.size = A at hD ⊢
  have hA : ∀ q : Nat, s.heap.size ≤ q → A q := fun q h => by rw [← hAe]; exact Or.inr h
  have hS : va_S A s.heap s.heap [] := va_S.rf
  have hl := lv_entry [.ref (g 3 2), .int a, .int b, .int d] (n := 4) (Nat.le_of_ble_eq_true rfl)
  rw [lg_entry_eq]
  generalize (lg_sl [.ref (g 3 2), .int a, .int b, .int d] ++ List.replicate (4 - (lg_sl [.ref (g 3 2), .int a, .int b, .int d]).length) Slot.unset).toArray = ls at hl ⊢
  have hl : lv_has ls 4 [(0, .ref (g 3 2)), (1, .int a), (2, .int b), (3, .int d)] := hl
  refine lv_aload_n hx hb dX7_put_0 rfl (lv_at hl 0 rfl) ?_
  refine gX_30_0 hx hb ht hown hK hP m_261 dX7_put_1 ?_
  refine lv_iload_n hx hb dX7_put_4 rfl (lv_at hl 1 rfl) ?_
  refine lv_dup2_11 hx hb dX7_put_5 rfl rfl ?_
  refine lX_30_0 hx hb hK hP (f := (la 30 0)) rfl (vp_in_iff.mpr ⟨by omega, by omega⟩) dX7_put_6 ?_
  refine lv_topl (fun w1 ew1 => ?_)
  refine lv_iload_n hx hb dX7_put_7 rfl (lv_at hl 2 rfl) ?_
  refine lv_i2l (v := (b.toInt64)) hx hb dX7_put_8 rfl ?_
  refine lv_ladd hx hb dX7_put_9 ?_
  refine lv_topl (fun w2 ew2 => ?_)
  refine tX_30_0 hx hb hK hP hD hS (f0 := (la 30 0)) rfl (i := a) (x := w2) (vp_in_iff.mpr ⟨by omega, by omega⟩) dX7_put_10 (fun f3 ef3 H locs hP hD hS => ?_)
  refine lv_aload_n hx hb dX7_put_11 rfl (lv_at hl 0 rfl) ?_
  refine gX_30_1 hx hb ht hown hK hP m_264 dX7_put_12 ?_
  refine lv_iload_n hx hb dX7_put_15 rfl (lv_at hl 1 rfl) ?_
  refine lv_dup2_11 hx hb dX7_put_16 rfl rfl ?_
  refine lX_30_1 hx hb hK hP (f := (la 30 1)) rfl (vp_in_iff.mpr ⟨by omega, by omega⟩) dX7_put_17 ?_
  refine lv_topl (fun w4 ew4 => ?_)
  refine lv_iload_n hx hb dX7_put_18 rfl (lv_at hl 3 rfl) ?_
  refine lv_i2l (v := (d.toInt64)) hx hb dX7_put_19 rfl ?_
  refine lv_ladd hx hb dX7_put_20 ?_
  refine lv_topl (fun w5 ew5 => ?_)
  refine tX_30_1 hx hb hK hP hD hS (f0 := (la 30 1)) rfl (i := a) (x := w5) (vp_in_iff.mpr ⟨by omega, by omega⟩) dX7_put_21 (fun f6 ef6 H locs hP hD hS => ?_)
  refine lv_aload_n hx hb dX7_put_22 rfl (lv_at hl 0 rfl) ?_
  refine gX_30_2 hx hb ht hown hK hP m_267 dX7_put_23 ?_
  refine lv_iload_n hx hb dX7_put_26 rfl (lv_at hl 1 rfl) ?_
  refine lv_dup2_11 hx hb dX7_put_27 rfl rfl ?_
  refine lX_30_2 hx hb hK hP (f := (fa 30 2)) rfl (vp_in_iff.mpr ⟨by omega, by omega⟩) dX7_put_28 ?_
  refine lv_topi (fun v7 ev7 => ?_)
  refine lv_iconst (v := 1) hx hb dX7_put_29 (by decide) ?_
  refine lv_iadd hx hb dX7_put_30 ?_
  refine lv_topi (fun v8 ev8 => ?_)
  refine tX_30_2 hx hb hK hP hD hS (f0 := (fa 30 2)) rfl (i := a) (x := v8) (vp_in_iff.mpr ⟨by omega, by omega⟩) dX7_put_31 (fun f9 ef9 H locs hP hD hS => ?_)
  have hf9 : ∀ j, inb (bA 30 2 j) (f9 j) := fun j => full_i _
  have hP9 : va_P (dC, dI) classes (WX h g ca iv lv (u2 fa 30 2 f9) (u2 (u2 la 30 0 f3) 30 1 f6)) H := hP
  have hD9 : va_D A (WX h g ca iv lv (u2 fa 30 2 f9) (u2 (u2 la 30 0 f3) 30 1 f6)) := hD
  exact W.vret hx hb hr (fun t ht9 hW => ⟨⟨(iv, lv, (u2 fa 30 2 f9), (u2 (u2 la 30 0 f3) 30 1 f6)), rfl, ⟨f9, f3, f6, rfl⟩, by rw [ht9]; exact hP9, hD9⟩, hS.F ht9⟩) hS.2.2 dX7_put_32
set_option maxHeartbeats 4000000 in
set_option maxRecDepth 100000 in
/-- X7_level -/
theorem c_X7_level_30 (l : Launch) (dC : Nat → ClassId) (dI : Nat → Nat → Nat) (h : Nat) (g : Nat → Nat → Nat) (ca : Nat → Nat → ClassId) (iv : Nat → Nat → Int32) (lv : Nat → Nat → Int64) (fa : Nat → Nat → Nat → Int32) (la : Nat → Nat → Nat → Int64) (hI : IX iv fa) (a : Int32) (h_a : 0 ≤ a.toInt ∧ a.toInt ≤ 2) : Met l yX7_level (wc yX7_level cX7_level 2 (some .long)) ({ frames := 0, cells := 0, slots := 0, locals := 0 } : Room) (pR (dC, dI) classes (WX h g ca iv lv fa la) (TX ca) [.ref (g 3 2), .int a]) (vp_Sl (fun r => True)) 0 0 (fun _ => False) := by
  refine Met.ofW (cc := cX7_level) (maxL := 2) (ret := (some .long)) (by decide) rfl ?_
  intro p e s m args below meth c s₁ B hml hv
  obtain ⟨rfl, hP, hK⟩ := hv
  have hx := B.exec
  have hb := B.bytes
  have hr := B.returns
  have ht := tb_tl (atoms_spec (ws := wc yX7_level cX7_level 2 (some .long)) B.pre)
  have hown : s.vm.findClass RX7 = some m.cls := findClass_of_methodNamed B.named
  have hlocks := B.notSynchronized
  have hl := lv_entry [.ref (g 3 2), .int a] (n := 2) (Nat.le_of_ble_eq_true rfl)
  rw [lg_entry_eq]
  generalize (lg_sl [.ref (g 3 2), .int a] ++ List.replicate (2 - (lg_sl [.ref (g 3 2), .int a]).length) Slot.unset).toArray = ls at hl ⊢
  have hl : lv_has ls 2 [(0, .ref (g 3 2)), (1, .int a)] := hl
  refine lv_aload_n hx hb dX7_level_0 rfl (lv_at hl 0 rfl) ?_
  refine gX_30_1 hx hb ht hown hK hP m_264 dX7_level_1 ?_
  refine lv_iload_n hx hb dX7_level_4 rfl (lv_at hl 1 rfl) ?_
  refine lX_30_1 hx hb hK hP (f := (la 30 1)) rfl (vp_in_iff.mpr ⟨by omega, by omega⟩) dX7_level_5 ?_
  refine lv_topl (fun w1 ew1 => ?_)
  refine lv_aload_n hx hb dX7_level_6 rfl (lv_at hl 0 rfl) ?_
  refine gX_30_0 hx hb ht hown hK hP m_261 dX7_level_7 ?_
  refine lv_iload_n hx hb dX7_level_10 rfl (lv_at hl 1 rfl) ?_
  refine lv_iconst (v := 1) hx hb dX7_level_11 (by decide) ?_
  refine lv_iadd hx hb dX7_level_12 ?_
  refine lv_topi (fun v2 ev2 => ?_)
  have tv2 := z_add ev2 (rfl : (a).toInt = _) (by decide : (1 : Int32).toInt = 1) (by omega) (by omega)
  refine lv_iconst (v := 3) hx hb dX7_level_13 (by decide) ?_
  refine lv_irem hx hb dX7_level_14 (by decide) ?_
  refine lv_topi (fun v3 ev3 => ?_)
  have tv3 := z_remp ev3 (rfl : (v2).toInt = _) (by decide : (3 : Int32).toInt = 3) (by omega) (by omega)
  refine lX_30_0 hx hb hK hP (f := (la 30 0)) rfl (vp_in_iff.mpr ⟨by omega, by omega⟩) dX7_level_15 ?_
  refine lv_topl (fun w4 ew4 => ?_)
  refine lv_lmul hx hb dX7_level_16 ?_
  refine lv_topl (fun w5 ew5 => ?_)
  refine lv_aload_n hx hb dX7_level_17 rfl (lv_at hl 0 rfl) ?_
  refine gX_30_0 hx hb ht hown hK hP m_261 dX7_level_18 ?_
  refine lv_iload_n hx hb dX7_level_21 rfl (lv_at hl 1 rfl) ?_
  refine lv_iconst (v := 2) hx hb dX7_level_22 (by decide) ?_
  refine lv_iadd hx hb dX7_level_23 ?_
  refine lv_topi (fun v6 ev6 => ?_)
  have tv6 := z_add ev6 (rfl : (a).toInt = _) (by decide : (2 : Int32).toInt = 2) (by omega) (by omega)
  refine lv_iconst (v := 3) hx hb dX7_level_24 (by decide) ?_
  refine lv_irem hx hb dX7_level_25 (by decide) ?_
  refine lv_topi (fun v7 ev7 => ?_)
  have tv7 := z_remp ev7 (rfl : (v6).toInt = _) (by decide : (3 : Int32).toInt = 3) (by omega) (by omega)
  refine lX_30_0 hx hb hK hP (f := (la 30 0)) rfl (vp_in_iff.mpr ⟨by omega, by omega⟩) dX7_level_26 ?_
  refine lv_topl (fun w8 ew8 => ?_)
  refine lv_lmul hx hb dX7_level_27 ?_
  refine lv_topl (fun w9 ew9 => ?_)
  exact W.lret (v := w9) hx hb hr (fun t ht9 hW => ⟨w9, rfl, trivial, ht9⟩) (fun q hq => by cases hq) dX7_level_28
set_option maxHeartbeats 4000000 in
set_option maxRecDepth 100000 in
/-- X7_clear -/
theorem c_X7_clear_20 (l : Launch) (dC : Nat → ClassId) (dI : Nat → Nat → Nat) (sz : Nat) (h : Nat) (g : Nat → Nat → Nat) (ca : Nat → Nat → ClassId) (iv : Nat → Nat → Int32) (lv : Nat → Nat → Int64) (fa : Nat → Nat → Nat → Int32) (la : Nat → Nat → Nat → Int64) (hI : IX iv fa) : Met l yX7_clear (wc yX7_clear cX7_clear 2 none) ({ frames := 0, cells := 0, slots := 0, locals := 0 } : Room) (pW (dC, dI) classes (WX h g ca iv lv fa la) (TX ca) sz [.ref (g 2 1)]) (va_Qv (fun (u : SS) => ∃ (na_20_2 : Nat → Int32) (nb_20_0 : Nat → Int64) (nb_20_1 : Nat → Int64), u = (iv, lv, (u2 fa 20 2 na_20_2), (u2 (u2 la 20 0 nb_20_0) 20 1 nb_20_1))) (bX (dC, dI) h g ca (va_A (WX h g ca iv lv fa la) sz)) (va_A (WX h g ca iv lv fa la) sz)) 0 0 (va_A (WX h g ca iv lv fa la) sz) := by
  refine Met.ofW (cc := cX7_clear) (maxL := 2) (ret := none) (by decide) rfl ?_
  intro p e s m args below meth c s₁ B hml hv
  obtain ⟨rfl, hsz, hP, hK, hD0⟩ := hv
  have hx := B.exec
  have hb := B.bytes
  have hr := B.returns
  have ht := tb_tl (atoms_spec (ws := wc yX7_clear cX7_clear 2 none) B.pre)
  have hown : s.vm.findClass RX7 = some m.cls := findClass_of_methodNamed B.named
  have hlocks := B.notSynchronized
  subst hsz
  have hD := hD0.self (sz := s.heap.size)
  generalize hAe : va_A (WX h g ca iv lv fa la) s.heap.size = A at hD ⊢
  have hA : ∀ q : Nat, s.heap.size ≤ q → A q := fun q h => by rw [← hAe]; exact Or.inr h
  have hS : va_S A s.heap s.heap [] := va_S.rf
  have hl := lv_entry [.ref (g 2 1)] (n := 2) (Nat.le_of_ble_eq_true rfl)
  rw [lg_entry_eq]
  generalize (lg_sl [.ref (g 2 1)] ++ List.replicate (2 - (lg_sl [.ref (g 2 1)]).length) Slot.unset).toArray = ls at hl ⊢
  have hl : lv_has ls 2 [(0, .ref (g 2 1))] := hl
  refine lv_iconst (v := 0) hx hb dX7_clear_0 (by decide) ?_
  refine lv_istore_n (lv' := [(1, .int 0), (0, .ref (g 2 1))]) hx hb dX7_clear_1 rfl hl (by decide) rfl (fun ls hl => ?_)
  have lp26 : ∀ (nn26 : Nat) (x25_1 : Int32) (w25_a_20_2 : Nat → Int32) (w25_b_20_0 : Nat → Int64) (w25_b_20_1 : Nat → Int64), 0 ≤ x25_1.toInt ∧ x25_1.toInt ≤ 3 → (∀ j, inb (bA 20 2 j) (w25_a_20_2 j)) → 3 - x25_1.toInt < (nn26 : Int) → ∀ (H : Heap) (locs : List Loc), ∀ (ls : Array Slot), va_P (dC, dI) classes (WX h g ca iv lv (u2 fa 20 2 w25_a_20_2) (u2 (u2 la 20 0 w25_b_20_0) 20 1 w25_b_20_1)) H → va_D A (WX h g ca iv lv (u2 fa 20 2 w25_a_20_2) (u2 (u2 la 20 0 w25_b_20_0) 20 1 w25_b_20_1)) → va_S A s.heap H locs → lv_has ls 2 [(1, .int x25_1), (0, .ref (g 2 1))] → W p l e ({ frames := 0, cells := 0, slots := 0, locals := 0 } : Room) s m ([.ref (g 2 1)] : List Value).toArray below meth c H locs 0 0 (MQ below (va_Qv (fun (u : SS) => ∃ (na_20_2 : Nat → Int32) (nb_20_0 : Nat → Int64) (nb_20_1 : Nat → Int64), u = (iv, lv, (u2 fa 20 2 na_20_2), (u2 (u2 la 20 0 nb_20_0) 20 1 nb_20_1))) (bX (dC, dI) h g ca A) A) ([.ref (g 2 1)] : List Value).toArray s 0 0 A) (F0 m 2 ls []) := by
    intro nn26
    induction nn26 with
    | zero => intro x25_1 w25_a_20_2 w25_b_20_0 w25_b_20_1 hx25_1 hw25_a_20_2 hm26; exfalso; omega
    | succ nn26 ih26 =>
      intro x25_1 w25_a_20_2 w25_b_20_0 w25_b_20_1 hx25_1 hw25_a_20_2 hm26 H locs ls hP hD hS hl
      refine lv_iload_n hx hb dX7_clear_2 rfl (lv_at hl 0 rfl) ?_
      refine lv_iconst (v := 3) hx hb dX7_clear_3 (by decide) ?_
      refine lv_icmp_ge (tgt := 34) hx hb dX7_clear_4 (by decide) (fun c27 => ?_) (fun c27 => ?_)
      · have fc27 := z_le (by decide : (3 : Int32).toInt = 3) (rfl : (x25_1).toInt = _) c27
        have hP9 : va_P (dC, dI) classes (WX h g ca iv lv (u2 fa 20 2 w25_a_20_2) (u2 (u2 la 20 0 w25_b_20_0) 20 1 w25_b_20_1)) H := hP
        have hD9 : va_D A (WX h g ca iv lv (u2 fa 20 2 w25_a_20_2) (u2 (u2 la 20 0 w25_b_20_0) 20 1 w25_b_20_1)) := hD
        exact W.vret hx hb hr (fun t ht9 hW => ⟨⟨(iv, lv, (u2 fa 20 2 w25_a_20_2), (u2 (u2 la 20 0 w25_b_20_0) 20 1 w25_b_20_1)), rfl, ⟨w25_a_20_2, w25_b_20_0, w25_b_20_1, rfl⟩, by rw [ht9]; exact hP9, hD9⟩, hS.F ht9⟩) hS.2.2 dX7_clear_34
      · have fc27 := z_nle (by decide : (3 : Int32).toInt = 3) (rfl : (x25_1).toInt = _) c27
        refine lv_aload_n hx hb dX7_clear_7 rfl (lv_at hl 1 rfl) ?_
        refine gX_20_0 hx hb ht hown hK hP m_261 dX7_clear_8 ?_
        refine lv_iload_n hx hb dX7_clear_11 rfl (lv_at hl 0 rfl) ?_
        refine lv_lconst (v := 0) hx hb dX7_clear_12 (by decide) ?_
        refine tX_20_0 hx hb hK hP hD hS (f0 := w25_b_20_0) rfl (i := x25_1) (x := 0) (vp_in_iff.mpr ⟨by omega, by omega⟩) dX7_clear_13 (fun f28 ef28 H locs hP hD hS => ?_)
        have hP : va_P (dC, dI) classes (WX h g ca iv lv (u2 fa 20 2 w25_a_20_2) (u2 (u2 la 20 0 f28) 20 1 w25_b_20_1)) H := hP
        have hD : va_D A (WX h g ca iv lv (u2 fa 20 2 w25_a_20_2) (u2 (u2 la 20 0 f28) 20 1 w25_b_20_1)) := hD
        refine lv_aload_n hx hb dX7_clear_14 rfl (lv_at hl 1 rfl) ?_
        refine gX_20_1 hx hb ht hown hK hP m_264 dX7_clear_15 ?_
        refine lv_iload_n hx hb dX7_clear_18 rfl (lv_at hl 0 rfl) ?_
        refine lv_lconst (v := 0) hx hb dX7_clear_19 (by decide) ?_
        refine tX_20_1 hx hb hK hP hD hS (f0 := w25_b_20_1) rfl (i := x25_1) (x := 0) (vp_in_iff.mpr ⟨by omega, by omega⟩) dX7_clear_20 (fun f29 ef29 H locs hP hD hS => ?_)
        have hP : va_P (dC, dI) classes (WX h g ca iv lv (u2 fa 20 2 w25_a_20_2) (u2 (u2 la 20 0 f28) 20 1 f29)) H := hP
        have hD : va_D A (WX h g ca iv lv (u2 fa 20 2 w25_a_20_2) (u2 (u2 la 20 0 f28) 20 1 f29)) := hD
        refine lv_aload_n hx hb dX7_clear_21 rfl (lv_at hl 1 rfl) ?_
        refine gX_20_2 hx hb ht hown hK hP m_267 dX7_clear_22 ?_
        refine lv_iload_n hx hb dX7_clear_25 rfl (lv_at hl 0 rfl) ?_
        refine lv_iconst (v := 0) hx hb dX7_clear_26 (by decide) ?_
        refine tX_20_2 hx hb hK hP hD hS (f0 := w25_a_20_2) rfl (i := x25_1) (x := 0) (vp_in_iff.mpr ⟨by omega, by omega⟩) dX7_clear_27 (fun f30 ef30 H locs hP hD hS => ?_)
        have hf30 : ∀ j, inb (bA 20 2 j) (f30 j) := fun j => full_i _
        have hP : va_P (dC, dI) classes (WX h g ca iv lv (u2 fa 20 2 f30) (u2 (u2 la 20 0 f28) 20 1 f29)) H := hP
        have hD : va_D A (WX h g ca iv lv (u2 fa 20 2 f30) (u2 (u2 la 20 0 f28) 20 1 f29)) := hD
        obtain ⟨v31, ev31⟩ : ∃ y : Int32, y = x25_1 + 1 := ⟨_, rfl⟩
        have tv31 := z_add ev31 rfl (by decide : (1 : Int32).toInt = 1) (by omega) (by omega)
        refine lv_iinc (v := v31) (lv' := [(1, .int v31), (0, .ref (g 2 1))]) hx hb dX7_clear_28 hl (k := 0) rfl (by rw [ev31]; rfl) (by decide) rfl (fun ls hl => ?_)
        refine lv_goto (tgt := 2) hx hb dX7_clear_31 (by decide) ?_
        exact ih26 v31 f30 f28 f29 ⟨by omega, by omega⟩ hf30 (by omega) _ _ ls hP hD hS (lv_sub hl [0, 1] rfl)
  exact lp26 4 0 (fa 20 2) (la 20 0) (la 20 1) ⟨by decide, by decide⟩ (hI.2 20 2) (by first | decide | omega) _ _ ls hP hD hS (lv_sub hl [0, 1] rfl)
set_option maxHeartbeats 4000000 in
set_option maxRecDepth 100000 in
/-- X7_put -/
theorem c_X7_put_20 (l : Launch) (dC : Nat → ClassId) (dI : Nat → Nat → Nat) (sz : Nat) (h : Nat) (g : Nat → Nat → Nat) (ca : Nat → Nat → ClassId) (iv : Nat → Nat → Int32) (lv : Nat → Nat → Int64) (fa : Nat → Nat → Nat → Int32) (la : Nat → Nat → Nat → Int64) (hI : IX iv fa) (a : Int32) (b : Int32) (d : Int32) (h_a : 0 ≤ a.toInt ∧ a.toInt ≤ 2) : Met l yX7_put (wc yX7_put cX7_put 4 none) ({ frames := 0, cells := 0, slots := 0, locals := 0 } : Room) (pW (dC, dI) classes (WX h g ca iv lv fa la) (TX ca) sz [.ref (g 2 1), .int a, .int b, .int d]) (va_Qv (fun (u : SS) => ∃ (na_20_2 : Nat → Int32) (nb_20_0 : Nat → Int64) (nb_20_1 : Nat → Int64), u = (iv, lv, (u2 fa 20 2 na_20_2), (u2 (u2 la 20 0 nb_20_0) 20 1 nb_20_1))) (bX (dC, dI) h g ca (va_A (WX h g ca iv lv fa la) sz)) (va_A (WX h g ca iv lv fa la) sz)) 0 0 (va_A (WX h g ca iv lv fa la) sz) := by
  refine Met.ofW (cc := cX7_put) (maxL := 4) (ret := none) (by decide) rfl ?_
  intro p e s m args below meth c s₁ B hml hv
  obtain ⟨rfl, hsz, hP, hK, hD0⟩ := hv
  have hx := B.exec
  have hb := B.bytes
  have hr := B.returns
  have ht := tb_tl (atoms_spec (ws := wc yX7_put cX7_put 4 none) B.pre)
  have hown : s.vm.findClass RX7 = some m.cls := findClass_of_methodNamed B.named
  have hlocks := B.notSynchronized
  subst hsz
  have hD := hD0.self (sz := s.heap.size)
  generalize hAe : va_A (WX h g ca iv lv fa la) s.heap.size = A at hD ⊢
  have hA : ∀ q : Nat, s.heap.size ≤ q → A q := fun q h => by rw [← hAe]; exact Or.inr h
  have hS : va_S A s.heap s.heap [] := va_S.rf
  have hl := lv_entry [.ref (g 2 1), .int a, .int b, .int d] (n := 4) (Nat.le_of_ble_eq_true rfl)
  rw [lg_entry_eq]
  generalize (lg_sl [.ref (g 2 1), .int a, .int b, .int d] ++ List.replicate (4 - (lg_sl [.ref (g 2 1), .int a, .int b, .int d]).length) Slot.unset).toArray = ls at hl ⊢
  have hl : lv_has ls 4 [(0, .ref (g 2 1)), (1, .int a), (2, .int b), (3, .int d)] := hl
  refine lv_aload_n hx hb dX7_put_0 rfl (lv_at hl 0 rfl) ?_
  refine gX_20_0 hx hb ht hown hK hP m_261 dX7_put_1 ?_
  refine lv_iload_n hx hb dX7_put_4 rfl (lv_at hl 1 rfl) ?_
  refine lv_dup2_11 hx hb dX7_put_5 rfl rfl ?_
  refine lX_20_0 hx hb hK hP (f := (la 20 0)) rfl (vp_in_iff.mpr ⟨by omega, by omega⟩) dX7_put_6 ?_
  refine lv_topl (fun w1 ew1 => ?_)
  refine lv_iload_n hx hb dX7_put_7 rfl (lv_at hl 2 rfl) ?_
  refine lv_i2l (v := (b.toInt64)) hx hb dX7_put_8 rfl ?_
  refine lv_ladd hx hb dX7_put_9 ?_
  refine lv_topl (fun w2 ew2 => ?_)
  refine tX_20_0 hx hb hK hP hD hS (f0 := (la 20 0)) rfl (i := a) (x := w2) (vp_in_iff.mpr ⟨by omega, by omega⟩) dX7_put_10 (fun f3 ef3 H locs hP hD hS => ?_)
  refine lv_aload_n hx hb dX7_put_11 rfl (lv_at hl 0 rfl) ?_
  refine gX_20_1 hx hb ht hown hK hP m_264 dX7_put_12 ?_
  refine lv_iload_n hx hb dX7_put_15 rfl (lv_at hl 1 rfl) ?_
  refine lv_dup2_11 hx hb dX7_put_16 rfl rfl ?_
  refine lX_20_1 hx hb hK hP (f := (la 20 1)) rfl (vp_in_iff.mpr ⟨by omega, by omega⟩) dX7_put_17 ?_
  refine lv_topl (fun w4 ew4 => ?_)
  refine lv_iload_n hx hb dX7_put_18 rfl (lv_at hl 3 rfl) ?_
  refine lv_i2l (v := (d.toInt64)) hx hb dX7_put_19 rfl ?_
  refine lv_ladd hx hb dX7_put_20 ?_
  refine lv_topl (fun w5 ew5 => ?_)
  refine tX_20_1 hx hb hK hP hD hS (f0 := (la 20 1)) rfl (i := a) (x := w5) (vp_in_iff.mpr ⟨by omega, by omega⟩) dX7_put_21 (fun f6 ef6 H locs hP hD hS => ?_)
  refine lv_aload_n hx hb dX7_put_22 rfl (lv_at hl 0 rfl) ?_
  refine gX_20_2 hx hb ht hown hK hP m_267 dX7_put_23 ?_
  refine lv_iload_n hx hb dX7_put_26 rfl (lv_at hl 1 rfl) ?_
  refine lv_dup2_11 hx hb dX7_put_27 rfl rfl ?_
  refine lX_20_2 hx hb hK hP (f := (fa 20 2)) rfl (vp_in_iff.mpr ⟨by omega, by omega⟩) dX7_put_28 ?_
  refine lv_topi (fun v7 ev7 => ?_)
  refine lv_iconst (v := 1) hx hb dX7_put_29 (by decide) ?_
  refine lv_iadd hx hb dX7_put_30 ?_
  refine lv_topi (fun v8 ev8 => ?_)
  refine tX_20_2 hx hb hK hP hD hS (f0 := (fa 20 2)) rfl (i := a) (x := v8) (vp_in_iff.mpr ⟨by omega, by omega⟩) dX7_put_31 (fun f9 ef9 H locs hP hD hS => ?_)
  have hf9 : ∀ j, inb (bA 20 2 j) (f9 j) := fun j => full_i _
  have hP9 : va_P (dC, dI) classes (WX h g ca iv lv (u2 fa 20 2 f9) (u2 (u2 la 20 0 f3) 20 1 f6)) H := hP
  have hD9 : va_D A (WX h g ca iv lv (u2 fa 20 2 f9) (u2 (u2 la 20 0 f3) 20 1 f6)) := hD
  exact W.vret hx hb hr (fun t ht9 hW => ⟨⟨(iv, lv, (u2 fa 20 2 f9), (u2 (u2 la 20 0 f3) 20 1 f6)), rfl, ⟨f9, f3, f6, rfl⟩, by rw [ht9]; exact hP9, hD9⟩, hS.F ht9⟩) hS.2.2 dX7_put_32
set_option maxHeartbeats 4000000 in
set_option maxRecDepth 100000 in
/-- X7_remove -/
theorem c_X7_remove_20 (l : Launch) (dC : Nat → ClassId) (dI : Nat → Nat → Nat) (sz : Nat) (h : Nat) (g : Nat → Nat → Nat) (ca : Nat → Nat → ClassId) (iv : Nat → Nat → Int32) (lv : Nat → Nat → Int64) (fa : Nat → Nat → Nat → Int32) (la : Nat → Nat → Nat → Int64) (hI : IX iv fa) (a : Int32) (b : Int32) (d : Int32) (h_a : 0 ≤ a.toInt ∧ a.toInt ≤ 2) : Met l yX7_remove (wc yX7_remove cX7_remove 4 none) ({ frames := 0, cells := 0, slots := 0, locals := 0 } : Room) (pW (dC, dI) classes (WX h g ca iv lv fa la) (TX ca) sz [.ref (g 2 1), .int a, .int b, .int d]) (va_Qv (fun (u : SS) => ∃ (na_20_2 : Nat → Int32) (nb_20_0 : Nat → Int64) (nb_20_1 : Nat → Int64), u = (iv, lv, (u2 fa 20 2 na_20_2), (u2 (u2 la 20 0 nb_20_0) 20 1 nb_20_1))) (bX (dC, dI) h g ca (va_A (WX h g ca iv lv fa la) sz)) (va_A (WX h g ca iv lv fa la) sz)) 0 0 (va_A (WX h g ca iv lv fa la) sz) := by
  refine Met.ofW (cc := cX7_remove) (maxL := 4) (ret := none) (by decide) rfl ?_
  intro p e s m args below meth c s₁ B hml hv
  obtain ⟨rfl, hsz, hP, hK, hD0⟩ := hv
  have hx := B.exec
  have hb := B.bytes
  have hr := B.returns
  have ht := tb_tl (atoms_spec (ws := wc yX7_remove cX7_remove 4 none) B.pre)
  have hown : s.vm.findClass RX7 = some m.cls := findClass_of_methodNamed B.named
  have hlocks := B.notSynchronized
  subst hsz
  have hD := hD0.self (sz := s.heap.size)
  generalize hAe : va_A (WX h g ca iv lv fa la) s.heap.size = A at hD ⊢
  have hA : ∀ q : Nat, s.heap.size ≤ q → A q := fun q h => by rw [← hAe]; exact Or.inr h
  have hS : va_S A s.heap s.heap [] := va_S.rf
  have hl := lv_entry [.ref (g 2 1), .int a, .int b, .int d] (n := 4) (Nat.le_of_ble_eq_true rfl)
  rw [lg_entry_eq]
  generalize (lg_sl [.ref (g 2 1), .int a, .int b, .int d] ++ List.replicate (4 - (lg_sl [.ref (g 2 1), .int a, .int b, .int d]).length) Slot.unset).toArray = ls at hl ⊢
  have hl : lv_has ls 4 [(0, .ref (g 2 1)), (1, .int a), (2, .int b), (3, .int d)] := hl
  refine lv_aload_n hx hb dX7_remove_0 rfl (lv_at hl 0 rfl) ?_
  refine gX_20_0 hx hb ht hown hK hP m_261 dX7_remove_1 ?_
  refine lv_iload_n hx hb dX7_remove_4 rfl (lv_at hl 1 rfl) ?_
  refine lv_dup2_11 hx hb dX7_remove_5 rfl rfl ?_
  refine lX_20_0 hx hb hK hP (f := (la 20 0)) rfl (vp_in_iff.mpr ⟨by omega, by omega⟩) dX7_remove_6 ?_
  refine lv_topl (fun w1 ew1 => ?_)
  refine lv_iload_n hx hb dX7_remove_7 rfl (lv_at hl 2 rfl) ?_
  refine lv_i2l (v := (b.toInt64)) hx hb dX7_remove_8 rfl ?_
  refine lv_lsub hx hb dX7_remove_9 ?_
  refine lv_topl (fun w2 ew2 => ?_)
  refine tX_20_0 hx hb hK hP hD hS (f0 := (la 20 0)) rfl (i := a) (x := w2) (vp_in_iff.mpr ⟨by omega, by omega⟩) dX7_remove_10 (fun f3 ef3 H locs hP hD hS => ?_)
  refine lv_aload_n hx hb dX7_remove_11 rfl (lv_at hl 0 rfl) ?_
  refine gX_20_1 hx hb ht hown hK hP m_264 dX7_remove_12 ?_
  refine lv_iload_n hx hb dX7_remove_15 rfl (lv_at hl 1 rfl) ?_
  refine lv_dup2_11 hx hb dX7_remove_16 rfl rfl ?_
  refine lX_20_1 hx hb hK hP (f := (la 20 1)) rfl (vp_in_iff.mpr ⟨by omega, by omega⟩) dX7_remove_17 ?_
  refine lv_topl (fun w4 ew4 => ?_)
  refine lv_iload_n hx hb dX7_remove_18 rfl (lv_at hl 3 rfl) ?_
  refine lv_i2l (v := (d.toInt64)) hx hb dX7_remove_19 rfl ?_
  refine lv_lsub hx hb dX7_remove_20 ?_
  refine lv_topl (fun w5 ew5 => ?_)
  refine tX_20_1 hx hb hK hP hD hS (f0 := (la 20 1)) rfl (i := a) (x := w5) (vp_in_iff.mpr ⟨by omega, by omega⟩) dX7_remove_21 (fun f6 ef6 H locs hP hD hS => ?_)
  refine lv_aload_n hx hb dX7_remove_22 rfl (lv_at hl 0 rfl) ?_
  refine gX_20_2 hx hb ht hown hK hP m_267 dX7_remove_23 ?_
  refine lv_iload_n hx hb dX7_remove_26 rfl (lv_at hl 1 rfl) ?_
  refine lv_dup2_11 hx hb dX7_remove_27 rfl rfl ?_
  refine lX_20_2 hx hb hK hP (f := (fa 20 2)) rfl (vp_in_iff.mpr ⟨by omega, by omega⟩) dX7_remove_28 ?_
  refine lv_topi (fun v7 ev7 => ?_)
  refine lv_iconst (v := 1) hx hb dX7_remove_29 (by decide) ?_
  refine lv_isub hx hb dX7_remove_30 ?_
  refine lv_topi (fun v8 ev8 => ?_)
  refine tX_20_2 hx hb hK hP hD hS (f0 := (fa 20 2)) rfl (i := a) (x := v8) (vp_in_iff.mpr ⟨by omega, by omega⟩) dX7_remove_31 (fun f9 ef9 H locs hP hD hS => ?_)
  have hf9 : ∀ j, inb (bA 20 2 j) (f9 j) := fun j => full_i _
  have hP9 : va_P (dC, dI) classes (WX h g ca iv lv (u2 fa 20 2 f9) (u2 (u2 la 20 0 f3) 20 1 f6)) H := hP
  have hD9 : va_D A (WX h g ca iv lv (u2 fa 20 2 f9) (u2 (u2 la 20 0 f3) 20 1 f6)) := hD
  exact W.vret hx hb hr (fun t ht9 hW => ⟨⟨(iv, lv, (u2 fa 20 2 f9), (u2 (u2 la 20 0 f3) 20 1 f6)), rfl, ⟨f9, f3, f6, rfl⟩, by rw [ht9]; exact hP9, hD9⟩, hS.F ht9⟩) hS.2.2 dX7_remove_32
