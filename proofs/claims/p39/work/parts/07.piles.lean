/-! ===== piles ===== -/
theorem m_261 : Cond.fieldLink RX7 7 "SilkHouse$Piles" "raw" "[J" ∈ tb := mb_1_4 _ (List.mem_of_getElem? (i := 17) rfl)
theorem m_264 : Cond.fieldLink RX7 13 "SilkHouse$Piles" "dry" "[J" ∈ tb := mb_1_4 _ (List.mem_of_getElem? (i := 20) rfl)
theorem m_267 : Cond.fieldLink RX7 16 "SilkHouse$Piles" "skeins" "[I" ∈ tb := mb_1_4 _ (List.mem_of_getElem? (i := 23) rfl)
set_option maxRecDepth 100000 in
theorem dvX7_clear_0 : ([(0, .iconst 0, 1), (1, .istore_n 1, 1), (2, .iload_n 1, 1), (3, .iconst 3, 1), (4, .if_icmp .ge 30, 3), (7, .aload_n 0, 1), (8, .getfield 7, 3), (11, .iload_n 1, 1), (12, .lconst 0, 1), (13, .lastore, 1), (14, .aload_n 0, 1), (15, .getfield 13, 3), (18, .iload_n 1, 1), (19, .lconst 0, 1), (20, .lastore, 1), (21, .aload_n 0, 1), (22, .getfield 16, 3), (25, .iload_n 1, 1), (26, .iconst 0, 1), (27, .iastore, 1), (28, .iinc 1 1, 3), (31, .goto (-29), 3), (34, .return_, 1)] : List (Nat × Instr × Nat)).all (fun q => decide (decode cX7_clear q.1 = .ok (q.2.1, q.2.2))) = true := by decide +kernel
theorem dX7_clear_0 : decode cX7_clear 0 = .ok (.iconst 0, 1) := all_at dvX7_clear_0 0 rfl
theorem dX7_clear_1 : decode cX7_clear 1 = .ok (.istore_n 1, 1) := all_at dvX7_clear_0 1 rfl
theorem dX7_clear_2 : decode cX7_clear 2 = .ok (.iload_n 1, 1) := all_at dvX7_clear_0 2 rfl
theorem dX7_clear_3 : decode cX7_clear 3 = .ok (.iconst 3, 1) := all_at dvX7_clear_0 3 rfl
theorem dX7_clear_4 : decode cX7_clear 4 = .ok (.if_icmp .ge 30, 3) := all_at dvX7_clear_0 4 rfl
theorem dX7_clear_7 : decode cX7_clear 7 = .ok (.aload_n 0, 1) := all_at dvX7_clear_0 5 rfl
theorem dX7_clear_8 : decode cX7_clear 8 = .ok (.getfield 7, 3) := all_at dvX7_clear_0 6 rfl
theorem dX7_clear_11 : decode cX7_clear 11 = .ok (.iload_n 1, 1) := all_at dvX7_clear_0 7 rfl
theorem dX7_clear_12 : decode cX7_clear 12 = .ok (.lconst 0, 1) := all_at dvX7_clear_0 8 rfl
theorem dX7_clear_13 : decode cX7_clear 13 = .ok (.lastore, 1) := all_at dvX7_clear_0 9 rfl
theorem dX7_clear_14 : decode cX7_clear 14 = .ok (.aload_n 0, 1) := all_at dvX7_clear_0 10 rfl
theorem dX7_clear_15 : decode cX7_clear 15 = .ok (.getfield 13, 3) := all_at dvX7_clear_0 11 rfl
theorem dX7_clear_18 : decode cX7_clear 18 = .ok (.iload_n 1, 1) := all_at dvX7_clear_0 12 rfl
theorem dX7_clear_19 : decode cX7_clear 19 = .ok (.lconst 0, 1) := all_at dvX7_clear_0 13 rfl
theorem dX7_clear_20 : decode cX7_clear 20 = .ok (.lastore, 1) := all_at dvX7_clear_0 14 rfl
theorem dX7_clear_21 : decode cX7_clear 21 = .ok (.aload_n 0, 1) := all_at dvX7_clear_0 15 rfl
theorem dX7_clear_22 : decode cX7_clear 22 = .ok (.getfield 16, 3) := all_at dvX7_clear_0 16 rfl
theorem dX7_clear_25 : decode cX7_clear 25 = .ok (.iload_n 1, 1) := all_at dvX7_clear_0 17 rfl
theorem dX7_clear_26 : decode cX7_clear 26 = .ok (.iconst 0, 1) := all_at dvX7_clear_0 18 rfl
theorem dX7_clear_27 : decode cX7_clear 27 = .ok (.iastore, 1) := all_at dvX7_clear_0 19 rfl
theorem dX7_clear_28 : decode cX7_clear 28 = .ok (.iinc 1 1, 3) := all_at dvX7_clear_0 20 rfl
theorem dX7_clear_31 : decode cX7_clear 31 = .ok (.goto (-29), 3) := all_at dvX7_clear_0 21 rfl
theorem dX7_clear_34 : decode cX7_clear 34 = .ok (.return_, 1) := all_at dvX7_clear_0 22 rfl
set_option maxRecDepth 100000 in
theorem dvX7_level_0 : ([(0, .aload_n 0, 1), (1, .getfield 13, 3), (4, .iload_n 1, 1), (5, .laload, 1), (6, .aload_n 0, 1), (7, .getfield 7, 3), (10, .iload_n 1, 1), (11, .iconst 1, 1), (12, .iadd, 1), (13, .iconst 3, 1), (14, .irem, 1), (15, .laload, 1), (16, .lmul, 1), (17, .aload_n 0, 1), (18, .getfield 7, 3), (21, .iload_n 1, 1), (22, .iconst 2, 1), (23, .iadd, 1), (24, .iconst 3, 1), (25, .irem, 1), (26, .laload, 1), (27, .lmul, 1), (28, .lreturn, 1)] : List (Nat × Instr × Nat)).all (fun q => decide (decode cX7_level q.1 = .ok (q.2.1, q.2.2))) = true := by decide +kernel
theorem dX7_level_0 : decode cX7_level 0 = .ok (.aload_n 0, 1) := all_at dvX7_level_0 0 rfl
theorem dX7_level_1 : decode cX7_level 1 = .ok (.getfield 13, 3) := all_at dvX7_level_0 1 rfl
theorem dX7_level_4 : decode cX7_level 4 = .ok (.iload_n 1, 1) := all_at dvX7_level_0 2 rfl
theorem dX7_level_5 : decode cX7_level 5 = .ok (.laload, 1) := all_at dvX7_level_0 3 rfl
theorem dX7_level_6 : decode cX7_level 6 = .ok (.aload_n 0, 1) := all_at dvX7_level_0 4 rfl
theorem dX7_level_7 : decode cX7_level 7 = .ok (.getfield 7, 3) := all_at dvX7_level_0 5 rfl
theorem dX7_level_10 : decode cX7_level 10 = .ok (.iload_n 1, 1) := all_at dvX7_level_0 6 rfl
theorem dX7_level_11 : decode cX7_level 11 = .ok (.iconst 1, 1) := all_at dvX7_level_0 7 rfl
theorem dX7_level_12 : decode cX7_level 12 = .ok (.iadd, 1) := all_at dvX7_level_0 8 rfl
theorem dX7_level_13 : decode cX7_level 13 = .ok (.iconst 3, 1) := all_at dvX7_level_0 9 rfl
theorem dX7_level_14 : decode cX7_level 14 = .ok (.irem, 1) := all_at dvX7_level_0 10 rfl
theorem dX7_level_15 : decode cX7_level 15 = .ok (.laload, 1) := all_at dvX7_level_0 11 rfl
theorem dX7_level_16 : decode cX7_level 16 = .ok (.lmul, 1) := all_at dvX7_level_0 12 rfl
theorem dX7_level_17 : decode cX7_level 17 = .ok (.aload_n 0, 1) := all_at dvX7_level_0 13 rfl
theorem dX7_level_18 : decode cX7_level 18 = .ok (.getfield 7, 3) := all_at dvX7_level_0 14 rfl
theorem dX7_level_21 : decode cX7_level 21 = .ok (.iload_n 1, 1) := all_at dvX7_level_0 15 rfl
theorem dX7_level_22 : decode cX7_level 22 = .ok (.iconst 2, 1) := all_at dvX7_level_0 16 rfl
theorem dX7_level_23 : decode cX7_level 23 = .ok (.iadd, 1) := all_at dvX7_level_0 17 rfl
theorem dX7_level_24 : decode cX7_level 24 = .ok (.iconst 3, 1) := all_at dvX7_level_0 18 rfl
theorem dX7_level_25 : decode cX7_level 25 = .ok (.irem, 1) := all_at dvX7_level_0 19 rfl
theorem dX7_level_26 : decode cX7_level 26 = .ok (.laload, 1) := all_at dvX7_level_0 20 rfl
theorem dX7_level_27 : decode cX7_level 27 = .ok (.lmul, 1) := all_at dvX7_level_0 21 rfl
theorem dX7_level_28 : decode cX7_level 28 = .ok (.lreturn, 1) := all_at dvX7_level_0 22 rfl
set_option maxRecDepth 100000 in
theorem dvX7_put_0 : ([(0, .aload_n 0, 1), (1, .getfield 7, 3), (4, .iload_n 1, 1), (5, .dup2, 1), (6, .laload, 1), (7, .iload_n 2, 1), (8, .i2l, 1), (9, .ladd, 1), (10, .lastore, 1), (11, .aload_n 0, 1), (12, .getfield 13, 3), (15, .iload_n 1, 1), (16, .dup2, 1), (17, .laload, 1), (18, .iload_n 3, 1), (19, .i2l, 1), (20, .ladd, 1), (21, .lastore, 1), (22, .aload_n 0, 1), (23, .getfield 16, 3), (26, .iload_n 1, 1), (27, .dup2, 1), (28, .iaload, 1), (29, .iconst 1, 1)] : List (Nat × Instr × Nat)).all (fun q => decide (decode cX7_put q.1 = .ok (q.2.1, q.2.2))) = true := by decide +kernel
theorem dX7_put_0 : decode cX7_put 0 = .ok (.aload_n 0, 1) := all_at dvX7_put_0 0 rfl
theorem dX7_put_1 : decode cX7_put 1 = .ok (.getfield 7, 3) := all_at dvX7_put_0 1 rfl
theorem dX7_put_4 : decode cX7_put 4 = .ok (.iload_n 1, 1) := all_at dvX7_put_0 2 rfl
theorem dX7_put_5 : decode cX7_put 5 = .ok (.dup2, 1) := all_at dvX7_put_0 3 rfl
theorem dX7_put_6 : decode cX7_put 6 = .ok (.laload, 1) := all_at dvX7_put_0 4 rfl
theorem dX7_put_7 : decode cX7_put 7 = .ok (.iload_n 2, 1) := all_at dvX7_put_0 5 rfl
theorem dX7_put_8 : decode cX7_put 8 = .ok (.i2l, 1) := all_at dvX7_put_0 6 rfl
theorem dX7_put_9 : decode cX7_put 9 = .ok (.ladd, 1) := all_at dvX7_put_0 7 rfl
theorem dX7_put_10 : decode cX7_put 10 = .ok (.lastore, 1) := all_at dvX7_put_0 8 rfl
theorem dX7_put_11 : decode cX7_put 11 = .ok (.aload_n 0, 1) := all_at dvX7_put_0 9 rfl
theorem dX7_put_12 : decode cX7_put 12 = .ok (.getfield 13, 3) := all_at dvX7_put_0 10 rfl
theorem dX7_put_15 : decode cX7_put 15 = .ok (.iload_n 1, 1) := all_at dvX7_put_0 11 rfl
theorem dX7_put_16 : decode cX7_put 16 = .ok (.dup2, 1) := all_at dvX7_put_0 12 rfl
theorem dX7_put_17 : decode cX7_put 17 = .ok (.laload, 1) := all_at dvX7_put_0 13 rfl
theorem dX7_put_18 : decode cX7_put 18 = .ok (.iload_n 3, 1) := all_at dvX7_put_0 14 rfl
theorem dX7_put_19 : decode cX7_put 19 = .ok (.i2l, 1) := all_at dvX7_put_0 15 rfl
theorem dX7_put_20 : decode cX7_put 20 = .ok (.ladd, 1) := all_at dvX7_put_0 16 rfl
theorem dX7_put_21 : decode cX7_put 21 = .ok (.lastore, 1) := all_at dvX7_put_0 17 rfl
theorem dX7_put_22 : decode cX7_put 22 = .ok (.aload_n 0, 1) := all_at dvX7_put_0 18 rfl
theorem dX7_put_23 : decode cX7_put 23 = .ok (.getfield 16, 3) := all_at dvX7_put_0 19 rfl
theorem dX7_put_26 : decode cX7_put 26 = .ok (.iload_n 1, 1) := all_at dvX7_put_0 20 rfl
theorem dX7_put_27 : decode cX7_put 27 = .ok (.dup2, 1) := all_at dvX7_put_0 21 rfl
theorem dX7_put_28 : decode cX7_put 28 = .ok (.iaload, 1) := all_at dvX7_put_0 22 rfl
theorem dX7_put_29 : decode cX7_put 29 = .ok (.iconst 1, 1) := all_at dvX7_put_0 23 rfl
theorem dX7_put_30 : decode cX7_put 30 = .ok (.iadd, 1) := by decide +kernel
theorem dX7_put_31 : decode cX7_put 31 = .ok (.iastore, 1) := by decide +kernel
theorem dX7_put_32 : decode cX7_put 32 = .ok (.return_, 1) := by decide +kernel
set_option maxRecDepth 100000 in
theorem dvX7_remove_0 : ([(0, .aload_n 0, 1), (1, .getfield 7, 3), (4, .iload_n 1, 1), (5, .dup2, 1), (6, .laload, 1), (7, .iload_n 2, 1), (8, .i2l, 1), (9, .lsub, 1), (10, .lastore, 1), (11, .aload_n 0, 1), (12, .getfield 13, 3), (15, .iload_n 1, 1), (16, .dup2, 1), (17, .laload, 1), (18, .iload_n 3, 1), (19, .i2l, 1), (20, .lsub, 1), (21, .lastore, 1), (22, .aload_n 0, 1), (23, .getfield 16, 3), (26, .iload_n 1, 1), (27, .dup2, 1), (28, .iaload, 1), (29, .iconst 1, 1)] : List (Nat × Instr × Nat)).all (fun q => decide (decode cX7_remove q.1 = .ok (q.2.1, q.2.2))) = true := by decide +kernel
theorem dX7_remove_0 : decode cX7_remove 0 = .ok (.aload_n 0, 1) := all_at dvX7_remove_0 0 rfl
theorem dX7_remove_1 : decode cX7_remove 1 = .ok (.getfield 7, 3) := all_at dvX7_remove_0 1 rfl
theorem dX7_remove_4 : decode cX7_remove 4 = .ok (.iload_n 1, 1) := all_at dvX7_remove_0 2 rfl
theorem dX7_remove_5 : decode cX7_remove 5 = .ok (.dup2, 1) := all_at dvX7_remove_0 3 rfl
theorem dX7_remove_6 : decode cX7_remove 6 = .ok (.laload, 1) := all_at dvX7_remove_0 4 rfl
theorem dX7_remove_7 : decode cX7_remove 7 = .ok (.iload_n 2, 1) := all_at dvX7_remove_0 5 rfl
theorem dX7_remove_8 : decode cX7_remove 8 = .ok (.i2l, 1) := all_at dvX7_remove_0 6 rfl
theorem dX7_remove_9 : decode cX7_remove 9 = .ok (.lsub, 1) := all_at dvX7_remove_0 7 rfl
theorem dX7_remove_10 : decode cX7_remove 10 = .ok (.lastore, 1) := all_at dvX7_remove_0 8 rfl
theorem dX7_remove_11 : decode cX7_remove 11 = .ok (.aload_n 0, 1) := all_at dvX7_remove_0 9 rfl
theorem dX7_remove_12 : decode cX7_remove 12 = .ok (.getfield 13, 3) := all_at dvX7_remove_0 10 rfl
theorem dX7_remove_15 : decode cX7_remove 15 = .ok (.iload_n 1, 1) := all_at dvX7_remove_0 11 rfl
theorem dX7_remove_16 : decode cX7_remove 16 = .ok (.dup2, 1) := all_at dvX7_remove_0 12 rfl
theorem dX7_remove_17 : decode cX7_remove 17 = .ok (.laload, 1) := all_at dvX7_remove_0 13 rfl
theorem dX7_remove_18 : decode cX7_remove 18 = .ok (.iload_n 3, 1) := all_at dvX7_remove_0 14 rfl
theorem dX7_remove_19 : decode cX7_remove 19 = .ok (.i2l, 1) := all_at dvX7_remove_0 15 rfl
theorem dX7_remove_20 : decode cX7_remove 20 = .ok (.lsub, 1) := all_at dvX7_remove_0 16 rfl
theorem dX7_remove_21 : decode cX7_remove 21 = .ok (.lastore, 1) := all_at dvX7_remove_0 17 rfl
theorem dX7_remove_22 : decode cX7_remove 22 = .ok (.aload_n 0, 1) := all_at dvX7_remove_0 18 rfl
theorem dX7_remove_23 : decode cX7_remove 23 = .ok (.getfield 16, 3) := all_at dvX7_remove_0 19 rfl
theorem dX7_remove_26 : decode cX7_remove 26 = .ok (.iload_n 1, 1) := all_at dvX7_remove_0 20 rfl
theorem dX7_remove_27 : decode cX7_remove 27 = .ok (.dup2, 1) := all_at dvX7_remove_0 21 rfl
theorem dX7_remove_28 : decode cX7_remove 28 = .ok (.iaload, 1) := all_at dvX7_remove_0 22 rfl
theorem dX7_remove_29 : decode cX7_remove 29 = .ok (.iconst 1, 1) := all_at dvX7_remove_0 23 rfl
theorem dX7_remove_30 : decode cX7_remove 30 = .ok (.isub, 1) := by decide +kernel
theorem dX7_remove_31 : decode cX7_remove 31 = .ok (.iastore, 1) := by decide +kernel
theorem dX7_remove_32 : decode cX7_remove 32 = .ok (.return_, 1) := by decide +kernel
set_option maxHeartbeats 4000000 in
set_option maxRecDepth 100000 in
/-- X7_clear -/
theorem c_X7_clear_30 (l : Launch) (dC : Nat → ClassId) (dI : Nat → Nat → Nat) (sz : Nat) (h : Nat) (g : Nat → Nat → Nat) (ca : Nat → Nat → ClassId) (iv : Nat → Nat → Int32) (lv : Nat → Nat → Int64) (fa : Nat → Nat → Nat → Int32) (la : Nat → Nat → Nat → Int64) (hI : IX iv fa) : Met l yX7_clear (wc yX7_clear cX7_clear 2 none) ({ frames := 0, cells := 0, slots := 0, locals := 0 } : Room) (pW (dC, dI) classes (WX h g ca iv lv fa la) (TX ca) sz [.ref (g 3 2)]) (va_Qv (fun (u : SS) => ∃ (na_30_2 : Nat → Int32) (nb_30_0 : Nat → Int64) (nb_30_1 : Nat → Int64), u = (iv, lv, (u2 fa 30 2 na_30_2), (u2 (u2 la 30 0 nb_30_0) 30 1 nb_30_1))) (bX (dC, dI) h g ca (va_A (WX h g ca iv lv fa la) sz)) (va_A (WX h g ca iv lv fa la) sz)) 0 0 (va_A (WX h g ca iv lv fa la) sz) := by
  refine Met.ofW (cc := cX7_clear) (maxL := 2) (ret := none) (by decide) rfl ?_
  intro p e s m args below meth c s₁ B hml hv
  obtain ⟨rfl, hsz, hP, hK, hD0⟩ := hv
  have hx := B.exec
  have hb := B.bytes
  have hr := B.returns
  have ht := tb_tl (atoms_spec (ws := wc yX7_clear cX7_clear 2 none) B.pre)
  have hown : s.vm.findClass RX7 = some m.cls := findClass_of_methodNamed B.named
  have hlocks := B.notSynchronized
  subst hsz
  have hD := hD0.self (sz := s.heap.size)
  generalize hAe : va_A (WX h g ca iv lv fa la) s.heap.size = A at hD ⊢
  have hA : ∀ q : Nat, s.heap.size ≤ q → A q := fun q h => by rw [← hAe]; exact Or.inr h
  have hS : va_S A s.heap s.heap [] := va_S.rf
  have hl := lv_entry [.ref (g 3 2)] (n := 2) (Nat.le_of_ble_eq_true rfl)
  rw [lg_entry_eq]
  generalize (lg_sl [.ref (g 3 2)] ++ List.replicate (2 - (lg_sl [.ref (g 3 2)]).length) Slot.unset).toArray = ls at hl ⊢
  have hl : lv_has ls 2 [(0, .ref (g 3 2))] := hl
  refine lv_iconst (v := 0) hx hb dX7_clear_0 (by decide) ?_
  refine lv_istore_n (lv' := [(1, .int 0), (0, .ref (g 3 2))]) hx hb dX7_clear_1 rfl hl (by decide) rfl (fun ls hl => ?_)
  have lp26 : ∀ (nn26 : Nat) (x25_1 : Int32) (w25_a_30_2 : Nat → Int32) (w25_b_30_0 : Nat → Int64) (w25_b_30_1 : Nat → Int64), 0 ≤ x25_1.toInt ∧ x25_1.toInt ≤ 3 → (∀ j, inb (bA 30 2 j) (w25_a_30_2 j)) → 3 - x25_1.toInt < (nn26 : Int) → ∀ (H : Heap) (locs : List Loc), ∀ (ls : Array Slot), va_P (dC, dI) classes (WX h g ca iv lv (u2 fa 30 2 w25_a_30_2) (u2 (u2 la 30 0 w25_b_30_0) 30 1 w25_b_30_1)) H → va_D A (WX h g ca iv lv (u2 fa 30 2 w25_a_30_2) (u2 (u2 la 30 0 w25_b_30_0) 30 1 w25_b_30_1)) → va_S A s.heap H locs → lv_has ls 2 [(1, .int x25_1), (0, .ref (g 3 2))] → W p l e ({ frames := 0, cells := 0, slots := 0, locals := 0 } : Room) s m ([.ref (g 3 2)] : List Value).toArray below meth c H locs 0 0 (MQ below (va_Qv (fun (u : SS) => ∃ (na_30_2 : Nat → Int32) (nb_30_0 : Nat → Int64) (nb_30_1 : Nat → Int64), u = (iv, lv, (u2 fa 30 2 na_30_2), (u2 (u2 la 30 0 nb_30_0) 30 1 nb_30_1))) (bX (dC, dI) h g ca A) A) ([.ref (g 3 2)] : List Value).toArray s 0 0 A) (F0 m 2 ls []) := by
    intro nn26
    induction nn26 with
    | zero => intro x25_1 w25_a_30_2 w25_b_30_0 w25_b_30_1 hx25_1 hw25_a_30_2 hm26; exfalso; omega
    | succ nn26 ih26 =>
      intro x25_1 w25_a_30_2 w25_b_30_0 w25_b_30_1 hx25_1 hw25_a_30_2 hm26 H locs ls hP hD hS hl
      refine lv_iload_n hx hb dX7_clear_2 rfl (lv_at hl 0 rfl) ?_
      refine lv_iconst (v := 3) hx hb dX7_clear_3 (by decide) ?_
      refine lv_icmp_ge (tgt := 34) hx hb dX7_clear_4 (by decide) (fun c27 => ?_) (fun c27 => ?_)
      · have fc27 := z_le (by decide : (3 : Int32).toInt = 3) (rfl : (x25_1).toInt = _) c27
        have hP9 : va_P (dC, dI) classes (WX h g ca iv lv (u2 fa 30 2 w25_a_30_2) (u2 (u2 la 30 0 w25_b_30_0) 30 1 w25_b_30_1)) H := hP
        have hD9 : va_D A (WX h g ca iv lv (u2 fa 30 2 w25_a_30_2) (u2 (u2 la 30 0 w25_b_30_0) 30 1 w25_b_30_1)) := hD
        exact W.vret hx hb hr (fun t ht9 hW => ⟨⟨(iv, lv, (u2 fa 30 2 w25_a_30_2), (u2 (u2 la 30 0 w25_b_30_0) 30 1 w25_b_30_1)), rfl, ⟨w25_a_30_2, w25_b_30_0, w25_b_30_1, rfl⟩, by rw [ht9]; exact hP9, hD9⟩, hS.F ht9⟩) hS.2.2 dX7_clear_34
      · have fc27 := z_nle (by decide : (3 : Int32).toInt = 3) (rfl : (x25_1).toInt = _) c27
        refine lv_aload_n hx hb dX7_clear_7 rfl (lv_at hl 1 rfl) ?_
        refine gX_30_0 hx hb ht hown hK hP m_261 dX7_clear_8 ?_
        refine lv_iload_n hx hb dX7_clear_11 rfl (lv_at hl 0 rfl) ?_
        refine lv_lconst (v := 0) hx hb dX7_clear_12 (by decide) ?_
        refine tX_30_0 hx hb hK hP hD hS (f0 := w25_b_30_0) rfl (i := x25_1) (x := 0) (vp_in_iff.mpr ⟨by omega, by omega⟩) dX7_clear_13 (fun f28 ef28 H locs hP hD hS => ?_)
        have hP : va_P (dC, dI) classes (WX h g ca iv lv (u2 fa 30 2 w25_a_30_2) (u2 (u2 la 30 0 f28) 30 1 w25_b_30_1)) H := hP
        have hD : va_D A (WX h g ca iv lv (u2 fa 30 2 w25_a_30_2) (u2 (u2 la 30 0 f28) 30 1 w25_b_30_1)) := hD
        refine lv_aload_n hx hb dX7_clear_14 rfl (lv_at hl 1 rfl) ?_
        refine gX_30_1 hx hb ht hown hK hP m_264 dX7_clear_15 ?_
        refine lv_iload_n hx hb dX7_clear_18 rfl (lv_at hl 0 rfl) ?_
        refine lv_lconst (v := 0) hx hb dX7_clear_19 (by decide) ?_
        refine tX_30_1 hx hb hK hP hD hS (f0 := w25_b_30_1) rfl (i := x25_1) (x := 0) (vp_in_iff.mpr ⟨by omega, by omega⟩) dX7_clear_20 (fun f29 ef29 H locs hP hD hS => ?_)
        have hP : va_P (dC, dI) classes (WX h g ca iv lv (u2 fa 30 2 w25_a_30_2) (u2 (u2 la 30 0 f28) 30 1 f29)) H := hP
        have hD : va_D A (WX h g ca iv lv (u2 fa 30 2 w25_a_30_2) (u2 (u2 la 30 0 f28) 30 1 f29)) := hD
        refine lv_aload_n hx hb dX7_clear_21 rfl (lv_at hl 1 rfl) ?_
        refine gX_30_2 hx hb ht hown hK hP m_267 dX7_clear_22 ?_
        refine lv_iload_n hx hb dX7_clear_25 rfl (lv_at hl 0 rfl) ?_
        refine lv_iconst (v := 0) hx hb dX7_clear_26 (by decide) ?_
        refine tX_30_2 hx hb hK hP hD hS (f0 := w25_a_30_2) rfl (i := x25_1) (x := 0) (vp_in_iff.mpr ⟨by omega, by omega⟩) dX7_clear_27 (fun f30 ef30 H locs hP hD hS => ?_)
        have hf30 : ∀ j, inb (bA 30 2 j) (f30 j) := fun j => full_i _
        have hP : va_P (dC, dI) classes (WX h g ca iv lv (u2 fa 30 2 f30) (u2 (u2 la 30 0 f28) 30 1 f29)) H := hP
        have hD : va_D A (WX h g ca iv lv (u2 fa 30 2 f30) (u2 (u2 la 30 0 f28) 30 1 f29)) := hD
        obtain ⟨v31, ev31⟩ : ∃ y : Int32, y = x25_1 + 1 := ⟨_, rfl⟩
        have tv31 := z_add ev31 rfl (by decide : (1 : Int32).toInt = 1) (by omega) (by omega)
        refine lv_iinc (v := v31) (lv' := [(1, .int v31), (0, .ref (g 3 2))]) hx hb dX7_clear_28 hl (k := 0) rfl (by rw [ev31]; rfl) (by decide) rfl (fun ls hl => ?_)
        refine lv_goto (tgt := 2) hx hb dX7_clear_31 (by decide) ?_
        exact ih26 v31 f30 f28 f29 ⟨by omega, by omega⟩ hf30 (by omega) _ _ ls hP hD hS (lv_sub hl [0, 1] rfl)
  exact lp26 4 0 (fa 30 2) (la 30 0) (la 30 1) ⟨by decide, by decide⟩ (hI.2 30 2) (by first | decide | omega) _ _ ls hP hD hS (lv_sub hl [0, 1] rfl)
set_option maxHeartbeats 4000000 in
set_option maxRecDepth 100000 in
/-- X7_put -/
theorem c_X7_put_30 (l : Launch) (dC : Nat → ClassId) (dI : Nat → Nat → Nat) (sz : Nat) (h : Nat) (g : Nat → Nat → Nat) (ca : Nat → Nat → ClassId) (iv : Nat → Nat → Int32) (lv : Nat → Nat → Int64) (fa : Nat → Nat → Nat → Int32) (la : Nat → Nat → Nat → Int64) (hI : IX iv fa) (a : Int32) (b : Int32) (d : Int32) (h_a : 0 ≤ a.toInt ∧ a.toInt ≤ 2) : Met l yX7_put (wc yX7_put cX7_put 4 none) ({ frames := 0, cells := 0, slots := 0, locals := 0 } : Room) (pW (dC, dI) classes (WX h g ca iv lv fa la) (TX ca) sz [.ref (g 3 2), .int a, .int b, .int d]) (va_Qv (fun (u : SS) => ∃ (na_30_2 : Nat → Int32) (nb_30_0 : Nat → Int64) (nb_30_1 : Nat → Int64), u = (iv, lv, (u2 fa 30 2 na_30_2), (u2 (u2 la 30 0 nb_30_0) 30 1 nb_30_1))) (bX (dC, dI) h g ca (va_A (WX h g ca iv lv fa la) sz)) (va_A (WX h g ca iv lv fa la) sz)) 0 0 (va_A (WX h g ca iv lv fa la) sz) := by
  refine Met.ofW (cc := cX7_put) (maxL := 4) (ret := none) (by decide) rfl ?_
  intro p e s m args below meth c s₁ B hml hv
  obtain ⟨rfl, hsz, hP, hK, hD0⟩ := hv
  have hx := B.exec
  have hb := B.bytes
  have hr := B.returns
  have ht := tb_tl (atoms_spec (ws := wc yX7_put cX7_put 4 none) B.pre)
  have hown : s.vm.findClass RX7 = some m.cls := findClass_of_methodNamed B.named
  have hlocks := B.notSynchronized
  subst hsz
  have hD := hD0.self (sz := s.heap.size)
  generalize hAe : va_A (WX h g ca iv lv fa la) s.heap.size = A at hD ⊢
  have hA : ∀ q : Nat, s.heap.size ≤ q → A q := fun q h => by rw [← hAe]; exact Or.inr h
  have hS : va_S A s.heap s.heap [] := va_S.rf
  have hl := lv_entry [.ref (g 3 2), .int a, .int b, .int d] (n := 4) (Nat.le_of_ble_eq_true rfl)
  rw [lg_entry_eq]
  generalize (lg_sl [.ref (g 3 2), .int a, .int b, .int d] ++ List.replicate (4 - (lg_sl [.ref (g 3 2), .int a, .int b, .int d]).length) Slot.unset).toArray = ls at hl ⊢
  have hl : lv_has ls 4 [(0, .ref (g 3 2)), (1, .int a), (2, .int b), (3, .int d)] := hl
  refine lv_aload_n hx hb dX7_put_0 rfl (lv_at hl 0 rfl) ?_
  refine gX_30_0 hx hb ht hown hK hP m_261 dX7_put_1 ?_
  refine lv_iload_n hx hb dX7_put_4 rfl (lv_at hl 1 rfl) ?_
  refine lv_dup2_11 hx hb dX7_put_5 rfl rfl ?_
  refine lX_30_0 hx hb hK hP (f := (la 30 0)) rfl (vp_in_iff.mpr ⟨by omega, by omega⟩) dX7_put_6 ?_
  refine lv_topl (fun w1 ew1 => ?_)
  refine lv_iload_n hx hb dX7_put_7 rfl (lv_at hl 2 rfl) ?_
  refine lv_i2l (v := (b.toInt64)) hx hb dX7_put_8 rfl ?_
  refine lv_ladd hx hb dX7_put_9 ?_
  refine lv_topl (fun w2 ew2 => ?_)
  refine tX_30_0 hx hb hK hP hD hS (f0 := (la 30 0)) rfl (i := a) (x := w2) (vp_in_iff.mpr ⟨by omega, by omega⟩) dX7_put_10 (fun f3 ef3 H locs hP hD hS => ?_)
  refine lv_aload_n hx hb dX7_put_11 rfl (lv_at hl 0 rfl) ?_
  refine gX_30_1 hx hb ht hown hK hP m_264 dX7_put_12 ?_
  refine lv_iload_n hx hb dX7_put_15 rfl (lv_at hl 1 rfl) ?_
  refine lv_dup2_11 hx hb dX7_put_16 rfl rfl ?_
  refine lX_30_1 hx hb hK hP (f := (la 30 1)) rfl (vp_in_iff.mpr ⟨by omega, by omega⟩) dX7_put_17 ?_
  refine lv_topl (fun w4 ew4 => ?_)
  refine lv_iload_n hx hb dX7_put_18 rfl (lv_at hl 3 rfl) ?_
  refine lv_i2l (v := (d.toInt64)) hx hb dX7_put_19 rfl ?_
  refine lv_ladd hx hb dX7_put_20 ?_
  refine lv_topl (fun w5 ew5 => ?_)
  refine tX_30_1 hx hb hK hP hD hS (f0 := (la 30 1)) rfl (i := a) (x := w5) (vp_in_iff.mpr ⟨by omega, by omega⟩) dX7_put_21 (fun f6 ef6 H locs hP hD hS => ?_)
  refine lv_aload_n hx hb dX7_put_22 rfl (lv_at hl 0 rfl) ?_
  refine gX_30_2 hx hb ht hown hK hP m_267 dX7_put_23 ?_
  refine lv_iload_n hx hb dX7_put_26 rfl (lv_at hl 1 rfl) ?_
  refine lv_dup2_11 hx hb dX7_put_27 rfl rfl ?_
  refine lX_30_2 hx hb hK hP (f := (fa 30 2)) rfl (vp_in_iff.mpr ⟨by omega, by omega⟩) dX7_put_28 ?_
  refine lv_topi (fun v7 ev7 => ?_)
  refine lv_iconst (v := 1) hx hb dX7_put_29 (by decide) ?_
  refine lv_iadd hx hb dX7_put_30 ?_
  refine lv_topi (fun v8 ev8 => ?_)
  refine tX_30_2 hx hb hK hP hD hS (f0 := (fa 30 2)) rfl (i := a) (x := v8) (vp_in_iff.mpr ⟨by omega, by omega⟩) dX7_put_31 (fun f9 ef9 H locs hP hD hS => ?_)
  have hf9 : ∀ j, inb (bA 30 2 j) (f9 j) := fun j => full_i _
  have hP9 : va_P (dC, dI) classes (WX h g ca iv lv (u2 fa 30 2 f9) (u2 (u2 la 30 0 f3) 30 1 f6)) H := hP
  have hD9 : va_D A (WX h g ca iv lv (u2 fa 30 2 f9) (u2 (u2 la 30 0 f3) 30 1 f6)) := hD
  exact W.vret hx hb hr (fun t ht9 hW => ⟨⟨(iv, lv, (u2 fa 30 2 f9), (u2 (u2 la 30 0 f3) 30 1 f6)), rfl, ⟨f9, f3, f6, rfl⟩, by rw [ht9]; exact hP9, hD9⟩, hS.F ht9⟩) hS.2.2 dX7_put_32
set_option maxHeartbeats 4000000 in
set_option maxRecDepth 100000 in
/-- X7_level -/
theorem c_X7_level_30 (l : Launch) (dC : Nat → ClassId) (dI : Nat → Nat → Nat) (h : Nat) (g : Nat → Nat → Nat) (ca : Nat → Nat → ClassId) (iv : Nat → Nat → Int32) (lv : Nat → Nat → Int64) (fa : Nat → Nat → Nat → Int32) (la : Nat → Nat → Nat → Int64) (hI : IX iv fa) (a : Int32) (h_a : 0 ≤ a.toInt ∧ a.toInt ≤ 2) : Met l yX7_level (wc yX7_level cX7_level 2 (some .long)) ({ frames := 0, cells := 0, slots := 0, locals := 0 } : Room) (pR (dC, dI) classes (WX h g ca iv lv fa la) (TX ca) [.ref (g 3 2), .int a]) (vp_Sl (fun r => True)) 0 0 (fun _ => False) := by
  refine Met.ofW (cc := cX7_level) (maxL := 2) (ret := (some .long)) (by decide) rfl ?_
  intro p e s m args below meth c s₁ B hml hv
  obtain ⟨rfl, hP, hK⟩ := hv
  have hx := B.exec
  have hb := B.bytes
  have hr := B.returns
  have ht := tb_tl (atoms_spec (ws := wc yX7_level cX7_level 2 (some .long)) B.pre)
  have hown : s.vm.findClass RX7 = some m.cls := findClass_of_methodNamed B.named
  have hlocks := B.notSynchronized
  have hl := lv_entry [.ref (g 3 2), .int a] (n := 2) (Nat.le_of_ble_eq_true rfl)
  rw [lg_entry_eq]
  generalize (lg_sl [.ref (g 3 2), .int a] ++ List.replicate (2 - (lg_sl [.ref (g 3 2), .int a]).length) Slot.unset).toArray = ls at hl ⊢
  have hl : lv_has ls 2 [(0, .ref (g 3 2)), (1, .int a)] := hl
  refine lv_aload_n hx hb dX7_level_0 rfl (lv_at hl 0 rfl) ?_
  refine gX_30_1 hx hb ht hown hK hP m_264 dX7_level_1 ?_
  refine lv_iload_n hx hb dX7_level_4 rfl (lv_at hl 1 rfl) ?_
  refine lX_30_1 hx hb hK hP (f := (la 30 1)) rfl (vp_in_iff.mpr ⟨by omega, by omega⟩) dX7_level_5 ?_
  refine lv_topl (fun w1 ew1 => ?_)
  refine lv_aload_n hx hb dX7_level_6 rfl (lv_at hl 0 rfl) ?_
  refine gX_30_0 hx hb ht hown hK hP m_261 dX7_level_7 ?_
  refine lv_iload_n hx hb dX7_level_10 rfl (lv_at hl 1 rfl) ?_
  refine lv_iconst (v := 1) hx hb dX7_level_11 (by decide) ?_
  refine lv_iadd hx hb dX7_level_12 ?_
  refine lv_topi (fun v2 ev2 => ?_)
  have tv2 := z_add ev2 (rfl : (a).toInt = _) (by decide : (1 : Int32).toInt = 1) (by omega) (by omega)
  refine lv_iconst (v := 3) hx hb dX7_level_13 (by decide) ?_
  refine lv_irem hx hb dX7_level_14 (by decide) ?_
  refine lv_topi (fun v3 ev3 => ?_)
  have tv3 := z_remp ev3 (rfl : (v2).toInt = _) (by decide : (3 : Int32).toInt = 3) (by omega) (by omega)
  refine lX_30_0 hx hb hK hP (f := (la 30 0)) rfl (vp_in_iff.mpr ⟨by omega, by omega⟩) dX7_level_15 ?_
  refine lv_topl (fun w4 ew4 => ?_)
  refine lv_lmul hx hb dX7_level_16 ?_
  refine lv_topl (fun w5 ew5 => ?_)
  refine lv_aload_n hx hb dX7_level_17 rfl (lv_at hl 0 rfl) ?_
  refine gX_30_0 hx hb ht hown hK hP m_261 dX7_level_18 ?_
  refine lv_iload_n hx hb dX7_level_21 rfl (lv_at hl 1 rfl) ?_
  refine lv_iconst (v := 2) hx hb dX7_level_22 (by decide) ?_
  refine lv_iadd hx hb dX7_level_23 ?_
  refine lv_topi (fun v6 ev6 => ?_)
  have tv6 := z_add ev6 (rfl : (a).toInt = _) (by decide : (2 : Int32).toInt = 2) (by omega) (by omega)
  refine lv_iconst (v := 3) hx hb dX7_level_24 (by decide) ?_
  refine lv_irem hx hb dX7_level_25 (by decide) ?_
  refine lv_topi (fun v7 ev7 => ?_)
  have tv7 := z_remp ev7 (rfl : (v6).toInt = _) (by decide : (3 : Int32).toInt = 3) (by omega) (by omega)
  refine lX_30_0 hx hb hK hP (f := (la 30 0)) rfl (vp_in_iff.mpr ⟨by omega, by omega⟩) dX7_level_26 ?_
  refine lv_topl (fun w8 ew8 => ?_)
  refine lv_lmul hx hb dX7_level_27 ?_
  refine lv_topl (fun w9 ew9 => ?_)
  exact W.lret (v := w9) hx hb hr (fun t ht9 hW => ⟨w9, rfl, trivial, ht9⟩) (fun q hq => by cases hq) dX7_level_28
set_option maxHeartbeats 4000000 in
set_option maxRecDepth 100000 in
/-- X7_clear -/
theorem c_X7_clear_20 (l : Launch) (dC : Nat → ClassId) (dI : Nat → Nat → Nat) (sz : Nat) (h : Nat) (g : Nat → Nat → Nat) (ca : Nat → Nat → ClassId) (iv : Nat → Nat → Int32) (lv : Nat → Nat → Int64) (fa : Nat → Nat → Nat → Int32) (la : Nat → Nat → Nat → Int64) (hI : IX iv fa) : Met l yX7_clear (wc yX7_clear cX7_clear 2 none) ({ frames := 0, cells := 0, slots := 0, locals := 0 } : Room) (pW (dC, dI) classes (WX h g ca iv lv fa la) (TX ca) sz [.ref (g 2 1)]) (va_Qv (fun (u : SS) => ∃ (na_20_2 : Nat → Int32) (nb_20_0 : Nat → Int64) (nb_20_1 : Nat → Int64), u = (iv, lv, (u2 fa 20 2 na_20_2), (u2 (u2 la 20 0 nb_20_0) 20 1 nb_20_1))) (bX (dC, dI) h g ca (va_A (WX h g ca iv lv fa la) sz)) (va_A (WX h g ca iv lv fa la) sz)) 0 0 (va_A (WX h g ca iv lv fa la) sz) := by
  refine Met.ofW (cc := cX7_clear) (maxL := 2) (ret := none) (by decide) rfl ?_
  intro p e s m args below meth c s₁ B hml hv
  obtain ⟨rfl, hsz, hP, hK, hD0⟩ := hv
  have hx := B.exec
  have hb := B.bytes
  have hr := B.returns
  have ht := tb_tl (atoms_spec (ws := wc yX7_clear cX7_clear 2 none) B.pre)
  have hown : s.vm.findClass RX7 = some m.cls := findClass_of_methodNamed B.named
  have hlocks := B.notSynchronized
  subst hsz
  have hD := hD0.self (sz := s.heap.size)
  generalize hAe : va_A (WX h g ca iv lv fa la) s.heap.size = A at hD ⊢
  have hA : ∀ q : Nat, s.heap.size ≤ q → A q := fun q h => by rw [← hAe]; exact Or.inr h
  have hS : va_S A s.heap s.heap [] := va_S.rf
  have hl := lv_entry [.ref (g 2 1)] (n := 2) (Nat.le_of_ble_eq_true rfl)
  rw [lg_entry_eq]
  generalize (lg_sl [.ref (g 2 1)] ++ List.replicate (2 - (lg_sl [.ref (g 2 1)]).length) Slot.unset).toArray = ls at hl ⊢
  have hl : lv_has ls 2 [(0, .ref (g 2 1))] := hl
  refine lv_iconst (v := 0) hx hb dX7_clear_0 (by decide) ?_
  refine lv_istore_n (lv' := [(1, .int 0), (0, .ref (g 2 1))]) hx hb dX7_clear_1 rfl hl (by decide) rfl (fun ls hl => ?_)
  have lp26 : ∀ (nn26 : Nat) (x25_1 : Int32) (w25_a_20_2 : Nat → Int32) (w25_b_20_0 : Nat → Int64) (w25_b_20_1 : Nat → Int64), 0 ≤ x25_1.toInt ∧ x25_1.toInt ≤ 3 → (∀ j, inb (bA 20 2 j) (w25_a_20_2 j)) → 3 - x25_1.toInt < (nn26 : Int) → ∀ (H : Heap) (locs : List Loc), ∀ (ls : Array Slot), va_P (dC, dI) classes (WX h g ca iv lv (u2 fa 20 2 w25_a_20_2) (u2 (u2 la 20 0 w25_b_20_0) 20 1 w25_b_20_1)) H → va_D A (WX h g ca iv lv (u2 fa 20 2 w25_a_20_2) (u2 (u2 la 20 0 w25_b_20_0) 20 1 w25_b_20_1)) → va_S A s.heap H locs → lv_has ls 2 [(1, .int x25_1), (0, .ref (g 2 1))] → W p l e ({ frames := 0, cells := 0, slots := 0, locals := 0 } : Room) s m ([.ref (g 2 1)] : List Value).toArray below meth c H locs 0 0 (MQ below (va_Qv (fun (u : SS) => ∃ (na_20_2 : Nat → Int32) (nb_20_0 : Nat → Int64) (nb_20_1 : Nat → Int64), u = (iv, lv, (u2 fa 20 2 na_20_2), (u2 (u2 la 20 0 nb_20_0) 20 1 nb_20_1))) (bX (dC, dI) h g ca A) A) ([.ref (g 2 1)] : List Value).toArray s 0 0 A) (F0 m 2 ls []) := by
    intro nn26
    induction nn26 with
    | zero => intro x25_1 w25_a_20_2 w25_b_20_0 w25_b_20_1 hx25_1 hw25_a_20_2 hm26; exfalso; omega
    | succ nn26 ih26 =>
      intro x25_1 w25_a_20_2 w25_b_20_0 w25_b_20_1 hx25_1 hw25_a_20_2 hm26 H locs ls hP hD hS hl
      refine lv_iload_n hx hb dX7_clear_2 rfl (lv_at hl 0 rfl) ?_
      refine lv_iconst (v := 3) hx hb dX7_clear_3 (by decide) ?_
      refine lv_icmp_ge (tgt := 34) hx hb dX7_clear_4 (by decide) (fun c27 => ?_) (fun c27 => ?_)
      · have fc27 := z_le (by decide : (3 : Int32).toInt = 3) (rfl : (x25_1).toInt = _) c27
        have hP9 : va_P (dC, dI) classes (WX h g ca iv lv (u2 fa 20 2 w25_a_20_2) (u2 (u2 la 20 0 w25_b_20_0) 20 1 w25_b_20_1)) H := hP
        have hD9 : va_D A (WX h g ca iv lv (u2 fa 20 2 w25_a_20_2) (u2 (u2 la 20 0 w25_b_20_0) 20 1 w25_b_20_1)) := hD
        exact W.vret hx hb hr (fun t ht9 hW => ⟨⟨(iv, lv, (u2 fa 20 2 w25_a_20_2), (u2 (u2 la 20 0 w25_b_20_0) 20 1 w25_b_20_1)), rfl, ⟨w25_a_20_2, w25_b_20_0, w25_b_20_1, rfl⟩, by rw [ht9]; exact hP9, hD9⟩, hS.F ht9⟩) hS.2.2 dX7_clear_34
      · have fc27 := z_nle (by decide : (3 : Int32).toInt = 3) (rfl : (x25_1).toInt = _) c27
        refine lv_aload_n hx hb dX7_clear_7 rfl (lv_at hl 1 rfl) ?_
        refine gX_20_0 hx hb ht hown hK hP m_261 dX7_clear_8 ?_
        refine lv_iload_n hx hb dX7_clear_11 rfl (lv_at hl 0 rfl) ?_
        refine lv_lconst (v := 0) hx hb dX7_clear_12 (by decide) ?_
        refine tX_20_0 hx hb hK hP hD hS (f0 := w25_b_20_0) rfl (i := x25_1) (x := 0) (vp_in_iff.mpr ⟨by omega, by omega⟩) dX7_clear_13 (fun f28 ef28 H locs hP hD hS => ?_)
        have hP : va_P (dC, dI) classes (WX h g ca iv lv (u2 fa 20 2 w25_a_20_2) (u2 (u2 la 20 0 f28) 20 1 w25_b_20_1)) H := hP
        have hD : va_D A (WX h g ca iv lv (u2 fa 20 2 w25_a_20_2) (u2 (u2 la 20 0 f28) 20 1 w25_b_20_1)) := hD
        refine lv_aload_n hx hb dX7_clear_14 rfl (lv_at hl 1 rfl) ?_
        refine gX_20_1 hx hb ht hown hK hP m_264 dX7_clear_15 ?_
        refine lv_iload_n hx hb dX7_clear_18 rfl (lv_at hl 0 rfl) ?_
        refine lv_lconst (v := 0) hx hb dX7_clear_19 (by decide) ?_
        refine tX_20_1 hx hb hK hP hD hS (f0 := w25_b_20_1) rfl (i := x25_1) (x := 0) (vp_in_iff.mpr ⟨by omega, by omega⟩) dX7_clear_20 (fun f29 ef29 H locs hP hD hS => ?_)
        have hP : va_P (dC, dI) classes (WX h g ca iv lv (u2 fa 20 2 w25_a_20_2) (u2 (u2 la 20 0 f28) 20 1 f29)) H := hP
        have hD : va_D A (WX h g ca iv lv (u2 fa 20 2 w25_a_20_2) (u2 (u2 la 20 0 f28) 20 1 f29)) := hD
        refine lv_aload_n hx hb dX7_clear_21 rfl (lv_at hl 1 rfl) ?_
        refine gX_20_2 hx hb ht hown hK hP m_267 dX7_clear_22 ?_
        refine lv_iload_n hx hb dX7_clear_25 rfl (lv_at hl 0 rfl) ?_
        refine lv_iconst (v := 0) hx hb dX7_clear_26 (by decide) ?_
        refine tX_20_2 hx hb hK hP hD hS (f0 := w25_a_20_2) rfl (i := x25_1) (x := 0) (vp_in_iff.mpr ⟨by omega, by omega⟩) dX7_clear_27 (fun f30 ef30 H locs hP hD hS => ?_)
        have hf30 : ∀ j, inb (bA 20 2 j) (f30 j) := fun j => full_i _
        have hP : va_P (dC, dI) classes (WX h g ca iv lv (u2 fa 20 2 f30) (u2 (u2 la 20 0 f28) 20 1 f29)) H := hP
        have hD : va_D A (WX h g ca iv lv (u2 fa 20 2 f30) (u2 (u2 la 20 0 f28) 20 1 f29)) := hD
        obtain ⟨v31, ev31⟩ : ∃ y : Int32, y = x25_1 + 1 := ⟨_, rfl⟩
        have tv31 := z_add ev31 rfl (by decide : (1 : Int32).toInt = 1) (by omega) (by omega)
        refine lv_iinc (v := v31) (lv' := [(1, .int v31), (0, .ref (g 2 1))]) hx hb dX7_clear_28 hl (k := 0) rfl (by rw [ev31]; rfl) (by decide) rfl (fun ls hl => ?_)
        refine lv_goto (tgt := 2) hx hb dX7_clear_31 (by decide) ?_
        exact ih26 v31 f30 f28 f29 ⟨by omega, by omega⟩ hf30 (by omega) _ _ ls hP hD hS (lv_sub hl [0, 1] rfl)
  exact lp26 4 0 (fa 20 2) (la 20 0) (la 20 1) ⟨by decide, by decide⟩ (hI.2 20 2) (by first | decide | omega) _ _ ls hP hD hS (lv_sub hl [0, 1] rfl)
set_option maxHeartbeats 4000000 in
set_option maxRecDepth 100000 in
/-- X7_put -/
theorem c_X7_put_20 (l : Launch) (dC : Nat → ClassId) (dI : Nat → Nat → Nat) (sz : Nat) (h : Nat) (g : Nat → Nat → Nat) (ca : Nat → Nat → ClassId) (iv : Nat → Nat → Int32) (lv : Nat → Nat → Int64) (fa : Nat → Nat → Nat → Int32) (la : Nat → Nat → Nat → Int64) (hI : IX iv fa) (a : Int32) (b : Int32) (d : Int32) (h_a : 0 ≤ a.toInt ∧ a.toInt ≤ 2) : Met l yX7_put (wc yX7_put cX7_put 4 none) ({ frames := 0, cells := 0, slots := 0, locals := 0 } : Room) (pW (dC, dI) classes (WX h g ca iv lv fa la) (TX ca) sz [.ref (g 2 1), .int a, .int b, .int d]) (va_Qv (fun (u : SS) => ∃ (na_20_2 : Nat → Int32) (nb_20_0 : Nat → Int64) (nb_20_1 : Nat → Int64), u = (iv, lv, (u2 fa 20 2 na_20_2), (u2 (u2 la 20 0 nb_20_0) 20 1 nb_20_1))) (bX (dC, dI) h g ca (va_A (WX h g ca iv lv fa la) sz)) (va_A (WX h g ca iv lv fa la) sz)) 0 0 (va_A (WX h g ca iv lv fa la) sz) := by
  refine Met.ofW (cc := cX7_put) (maxL := 4) (ret := none) (by decide) rfl ?_
  intro p e s m args below meth c s₁ B hml hv
  obtain ⟨rfl, hsz, hP, hK, hD0⟩ := hv
  have hx := B.exec
  have hb := B.bytes
  have hr := B.returns
  have ht := tb_tl (atoms_spec (ws := wc yX7_put cX7_put 4 none) B.pre)
  have hown : s.vm.findClass RX7 = some m.cls := findClass_of_methodNamed B.named
  have hlocks := B.notSynchronized
  subst hsz
  have hD := hD0.self (sz := s.heap.size)
  generalize hAe : va_A (WX h g ca iv lv fa la) s.heap.size = A at hD ⊢
  have hA : ∀ q : Nat, s.heap.size ≤ q → A q := fun q h => by rw [← hAe]; exact Or.inr h
  have hS : va_S A s.heap s.heap [] := va_S.rf
  have hl := lv_entry [.ref (g 2 1), .int a, .int b, .int d] (n := 4) (Nat.le_of_ble_eq_true rfl)
  rw [lg_entry_eq]
  generalize (lg_sl [.ref (g 2 1), .int a, .int b, .int d] ++ List.replicate (4 - (lg_sl [.ref (g 2 1), .int a, .int b, .int d]).length) Slot.unset).toArray = ls at hl ⊢
  have hl : lv_has ls 4 [(0, .ref (g 2 1)), (1, .int a), (2, .int b), (3, .int d)] := hl
  refine lv_aload_n hx hb dX7_put_0 rfl (lv_at hl 0 rfl) ?_
  refine gX_20_0 hx hb ht hown hK hP m_261 dX7_put_1 ?_
  refine lv_iload_n hx hb dX7_put_4 rfl (lv_at hl 1 rfl) ?_
  refine lv_dup2_11 hx hb dX7_put_5 rfl rfl ?_
  refine lX_20_0 hx hb hK hP (f := (la 20 0)) rfl (vp_in_iff.mpr ⟨by omega, by omega⟩) dX7_put_6 ?_
  refine lv_topl (fun w1 ew1 => ?_)
  refine lv_iload_n hx hb dX7_put_7 rfl (lv_at hl 2 rfl) ?_
  refine lv_i2l (v := (b.toInt64)) hx hb dX7_put_8 rfl ?_
  refine lv_ladd hx hb dX7_put_9 ?_
  refine lv_topl (fun w2 ew2 => ?_)
  refine tX_20_0 hx hb hK hP hD hS (f0 := (la 20 0)) rfl (i := a) (x := w2) (vp_in_iff.mpr ⟨by omega, by omega⟩) dX7_put_10 (fun f3 ef3 H locs hP hD hS => ?_)
  refine lv_aload_n hx hb dX7_put_11 rfl (lv_at hl 0 rfl) ?_
  refine gX_20_1 hx hb ht hown hK hP m_264 dX7_put_12 ?_
  refine lv_iload_n hx hb dX7_put_15 rfl (lv_at hl 1 rfl) ?_
  refine lv_dup2_11 hx hb dX7_put_16 rfl rfl ?_
  refine lX_20_1 hx hb hK hP (f := (la 20 1)) rfl (vp_in_iff.mpr ⟨by omega, by omega⟩) dX7_put_17 ?_
  refine lv_topl (fun w4 ew4 => ?_)
  refine lv_iload_n hx hb dX7_put_18 rfl (lv_at hl 3 rfl) ?_
  refine lv_i2l (v := (d.toInt64)) hx hb dX7_put_19 rfl ?_
  refine lv_ladd hx hb dX7_put_20 ?_
  refine lv_topl (fun w5 ew5 => ?_)
  refine tX_20_1 hx hb hK hP hD hS (f0 := (la 20 1)) rfl (i := a) (x := w5) (vp_in_iff.mpr ⟨by omega, by omega⟩) dX7_put_21 (fun f6 ef6 H locs hP hD hS => ?_)
  refine lv_aload_n hx hb dX7_put_22 rfl (lv_at hl 0 rfl) ?_
  refine gX_20_2 hx hb ht hown hK hP m_267 dX7_put_23 ?_
  refine lv_iload_n hx hb dX7_put_26 rfl (lv_at hl 1 rfl) ?_
  refine lv_dup2_11 hx hb dX7_put_27 rfl rfl ?_
  refine lX_20_2 hx hb hK hP (f := (fa 20 2)) rfl (vp_in_iff.mpr ⟨by omega, by omega⟩) dX7_put_28 ?_
  refine lv_topi (fun v7 ev7 => ?_)
  refine lv_iconst (v := 1) hx hb dX7_put_29 (by decide) ?_
  refine lv_iadd hx hb dX7_put_30 ?_
  refine lv_topi (fun v8 ev8 => ?_)
  refine tX_20_2 hx hb hK hP hD hS (f0 := (fa 20 2)) rfl (i := a) (x := v8) (vp_in_iff.mpr ⟨by omega, by omega⟩) dX7_put_31 (fun f9 ef9 H locs hP hD hS => ?_)
  have hf9 : ∀ j, inb (bA 20 2 j) (f9 j) := fun j => full_i _
  have hP9 : va_P (dC, dI) classes (WX h g ca iv lv (u2 fa 20 2 f9) (u2 (u2 la 20 0 f3) 20 1 f6)) H := hP
  have hD9 : va_D A (WX h g ca iv lv (u2 fa 20 2 f9) (u2 (u2 la 20 0 f3) 20 1 f6)) := hD
  exact W.vret hx hb hr (fun t ht9 hW => ⟨⟨(iv, lv, (u2 fa 20 2 f9), (u2 (u2 la 20 0 f3) 20 1 f6)), rfl, ⟨f9, f3, f6, rfl⟩, by rw [ht9]; exact hP9, hD9⟩, hS.F ht9⟩) hS.2.2 dX7_put_32
set_option maxHeartbeats 4000000 in
set_option maxRecDepth 100000 in
/-- X7_remove -/
theorem c_X7_remove_20 (l : Launch) (dC : Nat → ClassId) (dI : Nat → Nat → Nat) (sz : Nat) (h : Nat) (g : Nat → Nat → Nat) (ca : Nat → Nat → ClassId) (iv : Nat → Nat → Int32) (lv : Nat → Nat → Int64) (fa : Nat → Nat → Nat → Int32) (la : Nat → Nat → Nat → Int64) (hI : IX iv fa) (a : Int32) (b : Int32) (d : Int32) (h_a : 0 ≤ a.toInt ∧ a.toInt ≤ 2) : Met l yX7_remove (wc yX7_remove cX7_remove 4 none) ({ frames := 0, cells := 0, slots := 0, locals := 0 } : Room) (pW (dC, dI) classes (WX h g ca iv lv fa la) (TX ca) sz [.ref (g 2 1), .int a, .int b, .int d]) (va_Qv (fun (u : SS) => ∃ (na_20_2 : Nat → Int32) (nb_20_0 : Nat → Int64) (nb_20_1 : Nat → Int64), u = (iv, lv, (u2 fa 20 2 na_20_2), (u2 (u2 la 20 0 nb_20_0) 20 1 nb_20_1))) (bX (dC, dI) h g ca (va_A (WX h g ca iv lv fa la) sz)) (va_A (WX h g ca iv lv fa la) sz)) 0 0 (va_A (WX h g ca iv lv fa la) sz) := by
  refine Met.ofW (cc := cX7_remove) (maxL := 4) (ret := none) (by decide) rfl ?_
  intro p e s m args below meth c s₁ B hml hv
  obtain ⟨rfl, hsz, hP, hK, hD0⟩ := hv
  have hx := B.exec
  have hb := B.bytes
  have hr := B.returns
  have ht := tb_tl (atoms_spec (ws := wc yX7_remove cX7_remove 4 none) B.pre)
  have hown : s.vm.findClass RX7 = some m.cls := findClass_of_methodNamed B.named
  have hlocks := B.notSynchronized
  subst hsz
  have hD := hD0.self (sz := s.heap.size)
  generalize hAe : va_A (WX h g ca iv lv fa la) s.heap.size = A at hD ⊢
  have hA : ∀ q : Nat, s.heap.size ≤ q → A q := fun q h => by rw [← hAe]; exact Or.inr h
  have hS : va_S A s.heap s.heap [] := va_S.rf
  have hl := lv_entry [.ref (g 2 1), .int a, .int b, .int d] (n := 4) (Nat.le_of_ble_eq_true rfl)
  rw [lg_entry_eq]
  generalize (lg_sl [.ref (g 2 1), .int a, .int b, .int d] ++ List.replicate (4 - (lg_sl [.ref (g 2 1), .int a, .int b, .int d]).length) Slot.unset).toArray = ls at hl ⊢
  have hl : lv_has ls 4 [(0, .ref (g 2 1)), (1, .int a), (2, .int b), (3, .int d)] := hl
  refine lv_aload_n hx hb dX7_remove_0 rfl (lv_at hl 0 rfl) ?_
  refine gX_20_0 hx hb ht hown hK hP m_261 dX7_remove_1 ?_
  refine lv_iload_n hx hb dX7_remove_4 rfl (lv_at hl 1 rfl) ?_
  refine lv_dup2_11 hx hb dX7_remove_5 rfl rfl ?_
  refine lX_20_0 hx hb hK hP (f := (la 20 0)) rfl (vp_in_iff.mpr ⟨by omega, by omega⟩) dX7_remove_6 ?_
  refine lv_topl (fun w1 ew1 => ?_)
  refine lv_iload_n hx hb dX7_remove_7 rfl (lv_at hl 2 rfl) ?_
  refine lv_i2l (v := (b.toInt64)) hx hb dX7_remove_8 rfl ?_
  refine lv_lsub hx hb dX7_remove_9 ?_
  refine lv_topl (fun w2 ew2 => ?_)
  refine tX_20_0 hx hb hK hP hD hS (f0 := (la 20 0)) rfl (i := a) (x := w2) (vp_in_iff.mpr ⟨by omega, by omega⟩) dX7_remove_10 (fun f3 ef3 H locs hP hD hS => ?_)
  refine lv_aload_n hx hb dX7_remove_11 rfl (lv_at hl 0 rfl) ?_
  refine gX_20_1 hx hb ht hown hK hP m_264 dX7_remove_12 ?_
  refine lv_iload_n hx hb dX7_remove_15 rfl (lv_at hl 1 rfl) ?_
  refine lv_dup2_11 hx hb dX7_remove_16 rfl rfl ?_
  refine lX_20_1 hx hb hK hP (f := (la 20 1)) rfl (vp_in_iff.mpr ⟨by omega, by omega⟩) dX7_remove_17 ?_
  refine lv_topl (fun w4 ew4 => ?_)
  refine lv_iload_n hx hb dX7_remove_18 rfl (lv_at hl 3 rfl) ?_
  refine lv_i2l (v := (d.toInt64)) hx hb dX7_remove_19 rfl ?_
  refine lv_lsub hx hb dX7_remove_20 ?_
  refine lv_topl (fun w5 ew5 => ?_)
  refine tX_20_1 hx hb hK hP hD hS (f0 := (la 20 1)) rfl (i := a) (x := w5) (vp_in_iff.mpr ⟨by omega, by omega⟩) dX7_remove_21 (fun f6 ef6 H locs hP hD hS => ?_)
  refine lv_aload_n hx hb dX7_remove_22 rfl (lv_at hl 0 rfl) ?_
  refine gX_20_2 hx hb ht hown hK hP m_267 dX7_remove_23 ?_
  refine lv_iload_n hx hb dX7_remove_26 rfl (lv_at hl 1 rfl) ?_
  refine lv_dup2_11 hx hb dX7_remove_27 rfl rfl ?_
  refine lX_20_2 hx hb hK hP (f := (fa 20 2)) rfl (vp_in_iff.mpr ⟨by omega, by omega⟩) dX7_remove_28 ?_
  refine lv_topi (fun v7 ev7 => ?_)
  refine lv_iconst (v := 1) hx hb dX7_remove_29 (by decide) ?_
  refine lv_isub hx hb dX7_remove_30 ?_
  refine lv_topi (fun v8 ev8 => ?_)
  refine tX_20_2 hx hb hK hP hD hS (f0 := (fa 20 2)) rfl (i := a) (x := v8) (vp_in_iff.mpr ⟨by omega, by omega⟩) dX7_remove_31 (fun f9 ef9 H locs hP hD hS => ?_)
  have hf9 : ∀ j, inb (bA 20 2 j) (f9 j) := fun j => full_i _
  have hP9 : va_P (dC, dI) classes (WX h g ca iv lv (u2 fa 20 2 f9) (u2 (u2 la 20 0 f3) 20 1 f6)) H := hP
  have hD9 : va_D A (WX h g ca iv lv (u2 fa 20 2 f9) (u2 (u2 la 20 0 f3) 20 1 f6)) := hD
  exact W.vret hx hb hr (fun t ht9 hW => ⟨⟨(iv, lv, (u2 fa 20 2 f9), (u2 (u2 la 20 0 f3) 20 1 f6)), rfl, ⟨f9, f3, f6, rfl⟩, by rw [ht9]; exact hP9, hD9⟩, hS.F ht9⟩) hS.2.2 dX7_remove_32
/-! ===== ovens ===== -/
theorem m_335 : Cond.fieldLink RX5 9 "SilkHouse$Ovens" "minutes" "[I" ∈ tb := mb_2_0 _ (List.mem_of_getElem? (i := 5) rfl)
theorem m_340 : Cond.fieldLink RX5 22 "SilkHouse$Ovens" "number" "I" ∈ tb := mb_2_0 _ (List.mem_of_getElem? (i := 10) rfl)
theorem m_344 : Cond.fieldLink RX5 29 "SilkHouse$Ovens" "arrangedFor" "I" ∈ tb := mb_2_0 _ (List.mem_of_getElem? (i := 14) rfl)
theorem m_366 : Cond.fieldLink RX4 9 "SilkHouse$Neighbours" "low" "[I" ∈ tb := mb_2_0 _ (List.mem_of_getElem? (i := 20) rfl)
theorem m_367 : Cond.fieldLink RX4 13 "SilkHouse$Neighbours" "high" "[I" ∈ tb := mb_2_0 _ (List.mem_of_getElem? (i := 21) rfl)
theorem m_368 : Cond.fieldLink RX4 16 "SilkHouse$Neighbours" "number" "I" ∈ tb := mb_2_0 _ (List.mem_of_getElem? (i := 22) rfl)
theorem m_1060 : Cond.constant RX4 20 (-1000000) ∈ tb := mb_5_0 _ (List.mem_of_getElem? (i := 21) rfl)
theorem m_1061 : Cond.methodLink RX4 21 Lib.Math.max.name ∈ tb := mb_5_0 _ (List.mem_of_getElem? (i := 22) rfl)
theorem m_1066 : Cond.constant RX4 27 (1000000) ∈ tb := mb_5_1 _ (List.mem_of_getElem? (i := 3) rfl)
theorem m_1067 : Cond.methodLink RX4 28 Lib.Math.min.name ∈ tb := mb_5_1 _ (List.mem_of_getElem? (i := 4) rfl)
set_option maxRecDepth 100000 in
theorem dvX4_compare_0 : ([(0, .aload_n 0, 1), (1, .getfield 9, 3), (4, .aload_n 0, 1), (5, .getfield 16, 3), (8, .iload_n 1, 1), (9, .iastore, 1), (10, .aload_n 0, 1), (11, .getfield 13, 3), (14, .aload_n 0, 1), (15, .getfield 16, 3), (18, .iload_n 2, 1), (19, .iastore, 1), (20, .aload_n 0, 1), (21, .dup, 1), (22, .getfield 16, 3), (25, .iconst 1, 1), (26, .iadd, 1), (27, .putfield 16, 3), (30, .aload_n 0, 1), (31, .getfield 16, 3), (34, .ireturn, 1)] : List (Nat × Instr × Nat)).all (fun q => decide (decode cX4_compare q.1 = .ok (q.2.1, q.2.2))) = true := by decide +kernel
theorem dX4_compare_0 : decode cX4_compare 0 = .ok (.aload_n 0, 1) := all_at dvX4_compare_0 0 rfl
theorem dX4_compare_1 : decode cX4_compare 1 = .ok (.getfield 9, 3) := all_at dvX4_compare_0 1 rfl
theorem dX4_compare_4 : decode cX4_compare 4 = .ok (.aload_n 0, 1) := all_at dvX4_compare_0 2 rfl
theorem dX4_compare_5 : decode cX4_compare 5 = .ok (.getfield 16, 3) := all_at dvX4_compare_0 3 rfl
theorem dX4_compare_8 : decode cX4_compare 8 = .ok (.iload_n 1, 1) := all_at dvX4_compare_0 4 rfl
theorem dX4_compare_9 : decode cX4_compare 9 = .ok (.iastore, 1) := all_at dvX4_compare_0 5 rfl
theorem dX4_compare_10 : decode cX4_compare 10 = .ok (.aload_n 0, 1) := all_at dvX4_compare_0 6 rfl
theorem dX4_compare_11 : decode cX4_compare 11 = .ok (.getfield 13, 3) := all_at dvX4_compare_0 7 rfl
theorem dX4_compare_14 : decode cX4_compare 14 = .ok (.aload_n 0, 1) := all_at dvX4_compare_0 8 rfl
theorem dX4_compare_15 : decode cX4_compare 15 = .ok (.getfield 16, 3) := all_at dvX4_compare_0 9 rfl
theorem dX4_compare_18 : decode cX4_compare 18 = .ok (.iload_n 2, 1) := all_at dvX4_compare_0 10 rfl
theorem dX4_compare_19 : decode cX4_compare 19 = .ok (.iastore, 1) := all_at dvX4_compare_0 11 rfl
theorem dX4_compare_20 : decode cX4_compare 20 = .ok (.aload_n 0, 1) := all_at dvX4_compare_0 12 rfl
theorem dX4_compare_21 : decode cX4_compare 21 = .ok (.dup, 1) := all_at dvX4_compare_0 13 rfl
theorem dX4_compare_22 : decode cX4_compare 22 = .ok (.getfield 16, 3) := all_at dvX4_compare_0 14 rfl
theorem dX4_compare_25 : decode cX4_compare 25 = .ok (.iconst 1, 1) := all_at dvX4_compare_0 15 rfl
theorem dX4_compare_26 : decode cX4_compare 26 = .ok (.iadd, 1) := all_at dvX4_compare_0 16 rfl
theorem dX4_compare_27 : decode cX4_compare 27 = .ok (.putfield 16, 3) := all_at dvX4_compare_0 17 rfl
theorem dX4_compare_30 : decode cX4_compare 30 = .ok (.aload_n 0, 1) := all_at dvX4_compare_0 18 rfl
theorem dX4_compare_31 : decode cX4_compare 31 = .ok (.getfield 16, 3) := all_at dvX4_compare_0 19 rfl
theorem dX4_compare_34 : decode cX4_compare 34 = .ok (.ireturn, 1) := all_at dvX4_compare_0 20 rfl
set_option maxRecDepth 100000 in
theorem dvX4_greatestWithout_0 : ([(0, .ldc 27, 2), (2, .istore_n 2, 1), (3, .iconst 0, 1), (4, .istore_n 3, 1), (5, .iload_n 3, 1), (6, .aload_n 0, 1), (7, .getfield 16, 3), (10, .if_icmp .ge 28, 3), (13, .iload_n 1, 1), (14, .iload_n 3, 1), (15, .ishr, 1), (16, .iconst 1, 1), (17, .iand, 1), (18, .ifCond .ne 14, 3), (21, .iload_n 2, 1), (22, .aload_n 0, 1), (23, .getfield 13, 3), (26, .iload_n 3, 1), (27, .iaload, 1), (28, .invokestatic 28, 3), (31, .istore_n 2, 1), (32, .iinc 3 1, 3), (35, .goto (-30), 3), (38, .iload_n 2, 1)] : List (Nat × Instr × Nat)).all (fun q => decide (decode cX4_greatestWithout q.1 = .ok (q.2.1, q.2.2))) = true := by decide +kernel
theorem dX4_greatestWithout_0 : decode cX4_greatestWithout 0 = .ok (.ldc 27, 2) := all_at dvX4_greatestWithout_0 0 rfl
theorem dX4_greatestWithout_2 : decode cX4_greatestWithout 2 = .ok (.istore_n 2, 1) := all_at dvX4_greatestWithout_0 1 rfl
theorem dX4_greatestWithout_3 : decode cX4_greatestWithout 3 = .ok (.iconst 0, 1) := all_at dvX4_greatestWithout_0 2 rfl
theorem dX4_greatestWithout_4 : decode cX4_greatestWithout 4 = .ok (.istore_n 3, 1) := all_at dvX4_greatestWithout_0 3 rfl
theorem dX4_greatestWithout_5 : decode cX4_greatestWithout 5 = .ok (.iload_n 3, 1) := all_at dvX4_greatestWithout_0 4 rfl
theorem dX4_greatestWithout_6 : decode cX4_greatestWithout 6 = .ok (.aload_n 0, 1) := all_at dvX4_greatestWithout_0 5 rfl
theorem dX4_greatestWithout_7 : decode cX4_greatestWithout 7 = .ok (.getfield 16, 3) := all_at dvX4_greatestWithout_0 6 rfl
theorem dX4_greatestWithout_10 : decode cX4_greatestWithout 10 = .ok (.if_icmp .ge 28, 3) := all_at dvX4_greatestWithout_0 7 rfl
theorem dX4_greatestWithout_13 : decode cX4_greatestWithout 13 = .ok (.iload_n 1, 1) := all_at dvX4_greatestWithout_0 8 rfl
theorem dX4_greatestWithout_14 : decode cX4_greatestWithout 14 = .ok (.iload_n 3, 1) := all_at dvX4_greatestWithout_0 9 rfl
theorem dX4_greatestWithout_15 : decode cX4_greatestWithout 15 = .ok (.ishr, 1) := all_at dvX4_greatestWithout_0 10 rfl
theorem dX4_greatestWithout_16 : decode cX4_greatestWithout 16 = .ok (.iconst 1, 1) := all_at dvX4_greatestWithout_0 11 rfl
theorem dX4_greatestWithout_17 : decode cX4_greatestWithout 17 = .ok (.iand, 1) := all_at dvX4_greatestWithout_0 12 rfl
theorem dX4_greatestWithout_18 : decode cX4_greatestWithout 18 = .ok (.ifCond .ne 14, 3) := all_at dvX4_greatestWithout_0 13 rfl
theorem dX4_greatestWithout_21 : decode cX4_greatestWithout 21 = .ok (.iload_n 2, 1) := all_at dvX4_greatestWithout_0 14 rfl
theorem dX4_greatestWithout_22 : decode cX4_greatestWithout 22 = .ok (.aload_n 0, 1) := all_at dvX4_greatestWithout_0 15 rfl
theorem dX4_greatestWithout_23 : decode cX4_greatestWithout 23 = .ok (.getfield 13, 3) := all_at dvX4_greatestWithout_0 16 rfl
theorem dX4_greatestWithout_26 : decode cX4_greatestWithout 26 = .ok (.iload_n 3, 1) := all_at dvX4_greatestWithout_0 17 rfl
theorem dX4_greatestWithout_27 : decode cX4_greatestWithout 27 = .ok (.iaload, 1) := all_at dvX4_greatestWithout_0 18 rfl
theorem dX4_greatestWithout_28 : decode cX4_greatestWithout 28 = .ok (.invokestatic 28, 3) := all_at dvX4_greatestWithout_0 19 rfl
theorem dX4_greatestWithout_31 : decode cX4_greatestWithout 31 = .ok (.istore_n 2, 1) := all_at dvX4_greatestWithout_0 20 rfl
theorem dX4_greatestWithout_32 : decode cX4_greatestWithout 32 = .ok (.iinc 3 1, 3) := all_at dvX4_greatestWithout_0 21 rfl
theorem dX4_greatestWithout_35 : decode cX4_greatestWithout 35 = .ok (.goto (-30), 3) := all_at dvX4_greatestWithout_0 22 rfl
theorem dX4_greatestWithout_38 : decode cX4_greatestWithout 38 = .ok (.iload_n 2, 1) := all_at dvX4_greatestWithout_0 23 rfl
theorem dX4_greatestWithout_39 : decode cX4_greatestWithout 39 = .ok (.ireturn, 1) := by decide +kernel
set_option maxRecDepth 100000 in
theorem dvX4_leastWithout_0 : ([(0, .ldc 20, 2), (2, .istore_n 2, 1), (3, .iconst 0, 1), (4, .istore_n 3, 1), (5, .iload_n 3, 1), (6, .aload_n 0, 1), (7, .getfield 16, 3), (10, .if_icmp .ge 28, 3), (13, .iload_n 1, 1), (14, .iload_n 3, 1), (15, .ishr, 1), (16, .iconst 1, 1), (17, .iand, 1), (18, .ifCond .ne 14, 3), (21, .iload_n 2, 1), (22, .aload_n 0, 1), (23, .getfield 9, 3), (26, .iload_n 3, 1), (27, .iaload, 1), (28, .invokestatic 21, 3), (31, .istore_n 2, 1), (32, .iinc 3 1, 3), (35, .goto (-30), 3), (38, .iload_n 2, 1)] : List (Nat × Instr × Nat)).all (fun q => decide (decode cX4_leastWithout q.1 = .ok (q.2.1, q.2.2))) = true := by decide +kernel
theorem dX4_leastWithout_0 : decode cX4_leastWithout 0 = .ok (.ldc 20, 2) := all_at dvX4_leastWithout_0 0 rfl
theorem dX4_leastWithout_2 : decode cX4_leastWithout 2 = .ok (.istore_n 2, 1) := all_at dvX4_leastWithout_0 1 rfl
theorem dX4_leastWithout_3 : decode cX4_leastWithout 3 = .ok (.iconst 0, 1) := all_at dvX4_leastWithout_0 2 rfl
theorem dX4_leastWithout_4 : decode cX4_leastWithout 4 = .ok (.istore_n 3, 1) := all_at dvX4_leastWithout_0 3 rfl
theorem dX4_leastWithout_5 : decode cX4_leastWithout 5 = .ok (.iload_n 3, 1) := all_at dvX4_leastWithout_0 4 rfl
theorem dX4_leastWithout_6 : decode cX4_leastWithout 6 = .ok (.aload_n 0, 1) := all_at dvX4_leastWithout_0 5 rfl
theorem dX4_leastWithout_7 : decode cX4_leastWithout 7 = .ok (.getfield 16, 3) := all_at dvX4_leastWithout_0 6 rfl
theorem dX4_leastWithout_10 : decode cX4_leastWithout 10 = .ok (.if_icmp .ge 28, 3) := all_at dvX4_leastWithout_0 7 rfl
theorem dX4_leastWithout_13 : decode cX4_leastWithout 13 = .ok (.iload_n 1, 1) := all_at dvX4_leastWithout_0 8 rfl
theorem dX4_leastWithout_14 : decode cX4_leastWithout 14 = .ok (.iload_n 3, 1) := all_at dvX4_leastWithout_0 9 rfl
theorem dX4_leastWithout_15 : decode cX4_leastWithout 15 = .ok (.ishr, 1) := all_at dvX4_leastWithout_0 10 rfl
theorem dX4_leastWithout_16 : decode cX4_leastWithout 16 = .ok (.iconst 1, 1) := all_at dvX4_leastWithout_0 11 rfl
theorem dX4_leastWithout_17 : decode cX4_leastWithout 17 = .ok (.iand, 1) := all_at dvX4_leastWithout_0 12 rfl
theorem dX4_leastWithout_18 : decode cX4_leastWithout 18 = .ok (.ifCond .ne 14, 3) := all_at dvX4_leastWithout_0 13 rfl
theorem dX4_leastWithout_21 : decode cX4_leastWithout 21 = .ok (.iload_n 2, 1) := all_at dvX4_leastWithout_0 14 rfl
theorem dX4_leastWithout_22 : decode cX4_leastWithout 22 = .ok (.aload_n 0, 1) := all_at dvX4_leastWithout_0 15 rfl
theorem dX4_leastWithout_23 : decode cX4_leastWithout 23 = .ok (.getfield 9, 3) := all_at dvX4_leastWithout_0 16 rfl
theorem dX4_leastWithout_26 : decode cX4_leastWithout 26 = .ok (.iload_n 3, 1) := all_at dvX4_leastWithout_0 17 rfl
theorem dX4_leastWithout_27 : decode cX4_leastWithout 27 = .ok (.iaload, 1) := all_at dvX4_leastWithout_0 18 rfl
theorem dX4_leastWithout_28 : decode cX4_leastWithout 28 = .ok (.invokestatic 21, 3) := all_at dvX4_leastWithout_0 19 rfl
theorem dX4_leastWithout_31 : decode cX4_leastWithout 31 = .ok (.istore_n 2, 1) := all_at dvX4_leastWithout_0 20 rfl
theorem dX4_leastWithout_32 : decode cX4_leastWithout 32 = .ok (.iinc 3 1, 3) := all_at dvX4_leastWithout_0 21 rfl
theorem dX4_leastWithout_35 : decode cX4_leastWithout 35 = .ok (.goto (-30), 3) := all_at dvX4_leastWithout_0 22 rfl
theorem dX4_leastWithout_38 : decode cX4_leastWithout 38 = .ok (.iload_n 2, 1) := all_at dvX4_leastWithout_0 23 rfl
theorem dX4_leastWithout_39 : decode cX4_leastWithout 39 = .ok (.ireturn, 1) := by decide +kernel
set_option maxRecDepth 100000 in
theorem dvX5_bring_0 : ([(0, .aload_n 0, 1), (1, .getfield 9, 3), (4, .aload_n 0, 1), (5, .getfield 22, 3), (8, .iload_n 1, 1), (9, .iastore, 1), (10, .aload_n 0, 1), (11, .dup, 1), (12, .getfield 22, 3), (15, .iconst 1, 1), (16, .iadd, 1), (17, .putfield 22, 3), (20, .aload_n 0, 1), (21, .iconst 0, 1), (22, .putfield 29, 3), (25, .aload_n 0, 1), (26, .getfield 22, 3), (29, .ireturn, 1)] : List (Nat × Instr × Nat)).all (fun q => decide (decode cX5_bring q.1 = .ok (q.2.1, q.2.2))) = true := by decide +kernel
theorem dX5_bring_0 : decode cX5_bring 0 = .ok (.aload_n 0, 1) := all_at dvX5_bring_0 0 rfl
theorem dX5_bring_1 : decode cX5_bring 1 = .ok (.getfield 9, 3) := all_at dvX5_bring_0 1 rfl
theorem dX5_bring_4 : decode cX5_bring 4 = .ok (.aload_n 0, 1) := all_at dvX5_bring_0 2 rfl
theorem dX5_bring_5 : decode cX5_bring 5 = .ok (.getfield 22, 3) := all_at dvX5_bring_0 3 rfl
theorem dX5_bring_8 : decode cX5_bring 8 = .ok (.iload_n 1, 1) := all_at dvX5_bring_0 4 rfl
theorem dX5_bring_9 : decode cX5_bring 9 = .ok (.iastore, 1) := all_at dvX5_bring_0 5 rfl
theorem dX5_bring_10 : decode cX5_bring 10 = .ok (.aload_n 0, 1) := all_at dvX5_bring_0 6 rfl
theorem dX5_bring_11 : decode cX5_bring 11 = .ok (.dup, 1) := all_at dvX5_bring_0 7 rfl
theorem dX5_bring_12 : decode cX5_bring 12 = .ok (.getfield 22, 3) := all_at dvX5_bring_0 8 rfl
theorem dX5_bring_15 : decode cX5_bring 15 = .ok (.iconst 1, 1) := all_at dvX5_bring_0 9 rfl
theorem dX5_bring_16 : decode cX5_bring 16 = .ok (.iadd, 1) := all_at dvX5_bring_0 10 rfl
theorem dX5_bring_17 : decode cX5_bring 17 = .ok (.putfield 22, 3) := all_at dvX5_bring_0 11 rfl
theorem dX5_bring_20 : decode cX5_bring 20 = .ok (.aload_n 0, 1) := all_at dvX5_bring_0 12 rfl
theorem dX5_bring_21 : decode cX5_bring 21 = .ok (.iconst 0, 1) := all_at dvX5_bring_0 13 rfl
theorem dX5_bring_22 : decode cX5_bring 22 = .ok (.putfield 29, 3) := all_at dvX5_bring_0 14 rfl
theorem dX5_bring_25 : decode cX5_bring 25 = .ok (.aload_n 0, 1) := all_at dvX5_bring_0 15 rfl
theorem dX5_bring_26 : decode cX5_bring 26 = .ok (.getfield 22, 3) := all_at dvX5_bring_0 16 rfl
theorem dX5_bring_29 : decode cX5_bring 29 = .ok (.ireturn, 1) := all_at dvX5_bring_0 17 rfl
set_option maxRecDepth 100000 in
theorem dvX5_clear_0 : ([(0, .aload_n 0, 1), (1, .getfield 22, 3), (4, .istore_n 1, 1), (5, .aload_n 0, 1), (6, .iconst 0, 1), (7, .putfield 22, 3), (10, .aload_n 0, 1), (11, .iconst 0, 1), (12, .putfield 29, 3), (15, .iload_n 1, 1), (16, .ireturn, 1)] : List (Nat × Instr × Nat)).all (fun q => decide (decode cX5_clear q.1 = .ok (q.2.1, q.2.2))) = true := by decide +kernel
theorem dX5_clear_0 : decode cX5_clear 0 = .ok (.aload_n 0, 1) := all_at dvX5_clear_0 0 rfl
theorem dX5_clear_1 : decode cX5_clear 1 = .ok (.getfield 22, 3) := all_at dvX5_clear_0 1 rfl
theorem dX5_clear_4 : decode cX5_clear 4 = .ok (.istore_n 1, 1) := all_at dvX5_clear_0 2 rfl
theorem dX5_clear_5 : decode cX5_clear 5 = .ok (.aload_n 0, 1) := all_at dvX5_clear_0 3 rfl
theorem dX5_clear_6 : decode cX5_clear 6 = .ok (.iconst 0, 1) := all_at dvX5_clear_0 4 rfl
theorem dX5_clear_7 : decode cX5_clear 7 = .ok (.putfield 22, 3) := all_at dvX5_clear_0 5 rfl
theorem dX5_clear_10 : decode cX5_clear 10 = .ok (.aload_n 0, 1) := all_at dvX5_clear_0 6 rfl
theorem dX5_clear_11 : decode cX5_clear 11 = .ok (.iconst 0, 1) := all_at dvX5_clear_0 7 rfl
theorem dX5_clear_12 : decode cX5_clear 12 = .ok (.putfield 29, 3) := all_at dvX5_clear_0 8 rfl
theorem dX5_clear_15 : decode cX5_clear 15 = .ok (.iload_n 1, 1) := all_at dvX5_clear_0 9 rfl
theorem dX5_clear_16 : decode cX5_clear 16 = .ok (.ireturn, 1) := all_at dvX5_clear_0 10 rfl
set_option maxHeartbeats 4000000 in
set_option maxRecDepth 100000 in
/-- X5_bring -/
theorem c_X5_bring (l : Launch) (dC : Nat → ClassId) (dI : Nat → Nat → Nat) (sz : Nat) (h : Nat) (g : Nat → Nat → Nat) (ca : Nat → Nat → ClassId) (iv : Nat → Nat → Int32) (lv : Nat → Nat → Int64) (fa : Nat → Nat → Nat → Int32) (la : Nat → Nat → Nat → Int64) (hI : IX iv fa) (a : Int32) (q_5_4 : 0 ≤ (iv 5 4).toInt ∧ (iv 5 4).toInt ≤ 7) : Met l yX5_bring (wc yX5_bring cX5_bring 2 (some .int)) ({ frames := 0, cells := 0, slots := 0, locals := 0 } : Room) (pW (dC, dI) classes (WX h g ca iv lv fa la) (TX ca) sz [.ref (g 11 7), .int a]) (va_Qi (fun r (u : SS) => ∃ (na_5_0 : Nat → Int32) (ni_5_4 : Int32) (ni_5_6 : Int32), inb (bI 5 4) ni_5_4 ∧ ni_5_4.toInt = (iv 5 4).toInt + 1 ∧ (1 ≤ r.toInt ∧ r.toInt ≤ 8) ∧ u = ((u2 (u2 iv 5 4 ni_5_4) 5 6 ni_5_6), lv, (u2 fa 5 0 na_5_0), la)) (bX (dC, dI) h g ca (va_A (WX h g ca iv lv fa la) sz)) (va_A (WX h g ca iv lv fa la) sz)) 0 0 (va_A (WX h g ca iv lv fa la) sz) := by
  refine Met.ofW (cc := cX5_bring) (maxL := 2) (ret := (some .int)) (by decide) rfl ?_
  intro p e s m args below meth c s₁ B hml hv
  obtain ⟨rfl, hsz, hP, hK, hD0⟩ := hv
  have hx := B.exec
  have hb := B.bytes
  have hr := B.returns
  have ht := tb_tl (atoms_spec (ws := wc yX5_bring cX5_bring 2 (some .int)) B.pre)
  have hown : s.vm.findClass RX5 = some m.cls := findClass_of_methodNamed B.named
  have hlocks := B.notSynchronized
  subst hsz
  have hD := hD0.self (sz := s.heap.size)
  generalize hAe : va_A (WX h g ca iv lv fa la) s.heap.size = A at hD ⊢
  have hA : ∀ q : Nat, s.heap.size ≤ q → A q := fun q h => by rw [← hAe]; exact Or.inr h
  have hS : va_S A s.heap s.heap [] := va_S.rf
  have hl := lv_entry [.ref (g 11 7), .int a] (n := 2) (Nat.le_of_ble_eq_true rfl)
  rw [lg_entry_eq]
  generalize (lg_sl [.ref (g 11 7), .int a] ++ List.replicate (2 - (lg_sl [.ref (g 11 7), .int a]).length) Slot.unset).toArray = ls at hl ⊢
  have hl : lv_has ls 2 [(0, .ref (g 11 7)), (1, .int a)] := hl
  refine lv_aload_n hx hb dX5_bring_0 rfl (lv_at hl 0 rfl) ?_
  refine gX_5_0 hx hb ht hown hK hP m_335 dX5_bring_1 ?_
  refine lv_aload_n hx hb dX5_bring_4 rfl (lv_at hl 0 rfl) ?_
  have i_5_4 : 0 ≤ (iv 5 4).toInt ∧ (iv 5 4).toInt ≤ 8 := hI.1 5 4
  refine gX_5_4 hx hb ht hown hK hP m_340 (v := (iv 5 4)) rfl dX5_bring_5 ?_
  refine lv_iload_n hx hb dX5_bring_8 rfl (lv_at hl 1 rfl) ?_
  refine tX_5_0 hx hb hK hP hD hS (f0 := (fa 5 0)) rfl (i := (iv 5 4)) (x := a) (vp_in_iff.mpr ⟨by omega, by omega⟩) dX5_bring_9 (fun f1 ef1 H locs hP hD hS => ?_)
  have hf1 : ∀ j, inb (bA 5 0 j) (f1 j) := fun j => full_i _
  refine lv_aload_n hx hb dX5_bring_10 rfl (lv_at hl 0 rfl) ?_
  refine lv_dup hx hb dX5_bring_11 rfl ?_
  refine gX_5_4 hx hb ht hown hK hP m_340 (v := (iv 5 4)) rfl dX5_bring_12 ?_
  refine lv_iconst (v := 1) hx hb dX5_bring_15 (by decide) ?_
  refine lv_iadd hx hb dX5_bring_16 ?_
  refine lv_topi (fun v2 ev2 => ?_)
  have tv2 := z_add ev2 (rfl : ((iv 5 4)).toInt = _) (by decide : (1 : Int32).toInt = 1) (by omega) (by omega)
  refine pX_5_4 (v := v2) hx hb ht hown hK hP hD hS m_340 dX5_bring_17 (fun H locs hP hD hS => ?_)
  refine lv_aload_n hx hb dX5_bring_20 rfl (lv_at hl 0 rfl) ?_
  refine lv_iconst (v := 0) hx hb dX5_bring_21 (by decide) ?_
  refine pX_5_6 (v := 0) hx hb ht hown hK hP hD hS m_344 dX5_bring_22 (fun H locs hP hD hS => ?_)
  refine lv_aload_n hx hb dX5_bring_25 rfl (lv_at hl 0 rfl) ?_
  refine gX_5_4 hx hb ht hown hK hP m_340 (v := v2) rfl dX5_bring_26 ?_
  have hP9 : va_P (dC, dI) classes (WX h g ca (u2 (u2 iv 5 4 v2) 5 6 0) lv (u2 fa 5 0 f1) la) H := hP
  have hD9 : va_D A (WX h g ca (u2 (u2 iv 5 4 v2) 5 6 0) lv (u2 fa 5 0 f1) la) := hD
  exact W.iret (v := v2) hx hb hr (fun t ht9 hW => ⟨⟨v2, ((u2 (u2 iv 5 4 v2) 5 6 0), lv, (u2 fa 5 0 f1), la), rfl, ⟨f1, v2, 0, (show inb (0, 8) v2 from ⟨by omega, by omega⟩), (by omega), ⟨by omega, by omega⟩, rfl⟩, by rw [ht9]; exact hP9, hD9⟩, hS.F ht9⟩) hS.2.2 dX5_bring_29
set_option maxHeartbeats 4000000 in
set_option maxRecDepth 100000 in
/-- X5_clear -/
theorem c_X5_clear (l : Launch) (dC : Nat → ClassId) (dI : Nat → Nat → Nat) (sz : Nat) (h : Nat) (g : Nat → Nat → Nat) (ca : Nat → Nat → ClassId) (iv : Nat → Nat → Int32) (lv : Nat → Nat → Int64) (fa : Nat → Nat → Nat → Int32) (la : Nat → Nat → Nat → Int64) (hI : IX iv fa) : Met l yX5_clear (wc yX5_clear cX5_clear 2 (some .int)) ({ frames := 0, cells := 0, slots := 0, locals := 0 } : Room) (pW (dC, dI) classes (WX h g ca iv lv fa la) (TX ca) sz [.ref (g 11 7)]) (va_Qi (fun r (u : SS) => ∃ (ni_5_4 : Int32) (ni_5_6 : Int32), inb (bI 5 4) ni_5_4 ∧ (0 ≤ r.toInt ∧ r.toInt ≤ 8) ∧ u = ((u2 (u2 iv 5 4 ni_5_4) 5 6 ni_5_6), lv, fa, la)) (bX (dC, dI) h g ca (va_A (WX h g ca iv lv fa la) sz)) (va_A (WX h g ca iv lv fa la) sz)) 0 0 (va_A (WX h g ca iv lv fa la) sz) := by
  refine Met.ofW (cc := cX5_clear) (maxL := 2) (ret := (some .int)) (by decide) rfl ?_
  intro p e s m args below meth c s₁ B hml hv
  obtain ⟨rfl, hsz, hP, hK, hD0⟩ := hv
  have hx := B.exec
  have hb := B.bytes
  have hr := B.returns
  have ht := tb_tl (atoms_spec (ws := wc yX5_clear cX5_clear 2 (some .int)) B.pre)
  have hown : s.vm.findClass RX5 = some m.cls := findClass_of_methodNamed B.named
  have hlocks := B.notSynchronized
  subst hsz
  have hD := hD0.self (sz := s.heap.size)
  generalize hAe : va_A (WX h g ca iv lv fa la) s.heap.size = A at hD ⊢
  have hA : ∀ q : Nat, s.heap.size ≤ q → A q := fun q h => by rw [← hAe]; exact Or.inr h
  have hS : va_S A s.heap s.heap [] := va_S.rf
  have hl := lv_entry [.ref (g 11 7)] (n := 2) (Nat.le_of_ble_eq_true rfl)
  rw [lg_entry_eq]
  generalize (lg_sl [.ref (g 11 7)] ++ List.replicate (2 - (lg_sl [.ref (g 11 7)]).length) Slot.unset).toArray = ls at hl ⊢
  have hl : lv_has ls 2 [(0, .ref (g 11 7))] := hl
  refine lv_aload_n hx hb dX5_clear_0 rfl (lv_at hl 0 rfl) ?_
  have i_5_4 : 0 ≤ (iv 5 4).toInt ∧ (iv 5 4).toInt ≤ 8 := hI.1 5 4
  refine gX_5_4 hx hb ht hown hK hP m_340 (v := (iv 5 4)) rfl dX5_clear_1 ?_
  refine lv_istore_n (lv' := [(1, .int (iv 5 4)), (0, .ref (g 11 7))]) hx hb dX5_clear_4 rfl hl (by decide) rfl (fun ls hl => ?_)
  refine lv_aload_n hx hb dX5_clear_5 rfl (lv_at hl 1 rfl) ?_
  refine lv_iconst (v := 0) hx hb dX5_clear_6 (by decide) ?_
  refine pX_5_4 (v := 0) hx hb ht hown hK hP hD hS m_340 dX5_clear_7 (fun H locs hP hD hS => ?_)
  refine lv_aload_n hx hb dX5_clear_10 rfl (lv_at hl 1 rfl) ?_
  refine lv_iconst (v := 0) hx hb dX5_clear_11 (by decide) ?_
  refine pX_5_6 (v := 0) hx hb ht hown hK hP hD hS m_344 dX5_clear_12 (fun H locs hP hD hS => ?_)
  refine lv_iload_n hx hb dX5_clear_15 rfl (lv_at hl 0 rfl) ?_
  have hP9 : va_P (dC, dI) classes (WX h g ca (u2 (u2 iv 5 4 0) 5 6 0) lv fa la) H := hP
  have hD9 : va_D A (WX h g ca (u2 (u2 iv 5 4 0) 5 6 0) lv fa la) := hD
  exact W.iret (v := (iv 5 4)) hx hb hr (fun t ht9 hW => ⟨⟨(iv 5 4), ((u2 (u2 iv 5 4 0) 5 6 0), lv, fa, la), rfl, ⟨0, 0, (show inb (0, 8) 0 from ⟨by decide, by decide⟩), ⟨by omega, by omega⟩, rfl⟩, by rw [ht9]; exact hP9, hD9⟩, hS.F ht9⟩) hS.2.2 dX5_clear_16
set_option maxHeartbeats 4000000 in
set_option maxRecDepth 100000 in
/-- X4_compare -/
theorem c_X4_compare (l : Launch) (dC : Nat → ClassId) (dI : Nat → Nat → Nat) (sz : Nat) (h : Nat) (g : Nat → Nat → Nat) (ca : Nat → Nat → ClassId) (iv : Nat → Nat → Int32) (lv : Nat → Nat → Int64) (fa : Nat → Nat → Nat → Int32) (la : Nat → Nat → Nat → Int64) (hI : IX iv fa) (a : Int32) (b : Int32) (q_4_2 : 0 ≤ (iv 4 2).toInt ∧ (iv 4 2).toInt ≤ 7) : Met l yX4_compare (wc yX4_compare cX4_compare 3 (some .int)) ({ frames := 0, cells := 0, slots := 0, locals := 0 } : Room) (pW (dC, dI) classes (WX h g ca iv lv fa la) (TX ca) sz [.ref (g 11 8), .int a, .int b]) (va_Qi (fun r (u : SS) => ∃ (na_4_0 : Nat → Int32) (na_4_1 : Nat → Int32) (ni_4_2 : Int32), inb (bI 4 2) ni_4_2 ∧ ni_4_2.toInt = (iv 4 2).toInt + 1 ∧ (1 ≤ r.toInt ∧ r.toInt ≤ 8) ∧ u = ((u2 iv 4 2 ni_4_2), lv, (u2 (u2 fa 4 0 na_4_0) 4 1 na_4_1), la)) (bX (dC, dI) h g ca (va_A (WX h g ca iv lv fa la) sz)) (va_A (WX h g ca iv lv fa la) sz)) 0 0 (va_A (WX h g ca iv lv fa la) sz) := by
  refine Met.ofW (cc := cX4_compare) (maxL := 3) (ret := (some .int)) (by decide) rfl ?_
  intro p e s m args below meth c s₁ B hml hv
  obtain ⟨rfl, hsz, hP, hK, hD0⟩ := hv
  have hx := B.exec
  have hb := B.bytes
  have hr := B.returns
  have ht := tb_tl (atoms_spec (ws := wc yX4_compare cX4_compare 3 (some .int)) B.pre)
  have hown : s.vm.findClass RX4 = some m.cls := findClass_of_methodNamed B.named
  have hlocks := B.notSynchronized
  subst hsz
  have hD := hD0.self (sz := s.heap.size)
  generalize hAe : va_A (WX h g ca iv lv fa la) s.heap.size = A at hD ⊢
  have hA : ∀ q : Nat, s.heap.size ≤ q → A q := fun q h => by rw [← hAe]; exact Or.inr h
  have hS : va_S A s.heap s.heap [] := va_S.rf
  have hl := lv_entry [.ref (g 11 8), .int a, .int b] (n := 3) (Nat.le_of_ble_eq_true rfl)
  rw [lg_entry_eq]
  generalize (lg_sl [.ref (g 11 8), .int a, .int b] ++ List.replicate (3 - (lg_sl [.ref (g 11 8), .int a, .int b]).length) Slot.unset).toArray = ls at hl ⊢
  have hl : lv_has ls 3 [(0, .ref (g 11 8)), (1, .int a), (2, .int b)] := hl
  refine lv_aload_n hx hb dX4_compare_0 rfl (lv_at hl 0 rfl) ?_
  refine gX_4_0 hx hb ht hown hK hP m_366 dX4_compare_1 ?_
  refine lv_aload_n hx hb dX4_compare_4 rfl (lv_at hl 0 rfl) ?_
  have i_4_2 : 0 ≤ (iv 4 2).toInt ∧ (iv 4 2).toInt ≤ 8 := hI.1 4 2
  refine gX_4_2 hx hb ht hown hK hP m_368 (v := (iv 4 2)) rfl dX4_compare_5 ?_
  refine lv_iload_n hx hb dX4_compare_8 rfl (lv_at hl 1 rfl) ?_
  refine tX_4_0 hx hb hK hP hD hS (f0 := (fa 4 0)) rfl (i := (iv 4 2)) (x := a) (vp_in_iff.mpr ⟨by omega, by omega⟩) dX4_compare_9 (fun f1 ef1 H locs hP hD hS => ?_)
  have hf1 : ∀ j, inb (bA 4 0 j) (f1 j) := fun j => full_i _
  refine lv_aload_n hx hb dX4_compare_10 rfl (lv_at hl 0 rfl) ?_
  refine gX_4_1 hx hb ht hown hK hP m_367 dX4_compare_11 ?_
  refine lv_aload_n hx hb dX4_compare_14 rfl (lv_at hl 0 rfl) ?_
  refine gX_4_2 hx hb ht hown hK hP m_368 (v := (iv 4 2)) rfl dX4_compare_15 ?_
  refine lv_iload_n hx hb dX4_compare_18 rfl (lv_at hl 2 rfl) ?_
  refine tX_4_1 hx hb hK hP hD hS (f0 := (fa 4 1)) rfl (i := (iv 4 2)) (x := b) (vp_in_iff.mpr ⟨by omega, by omega⟩) dX4_compare_19 (fun f2 ef2 H locs hP hD hS => ?_)
  have hf2 : ∀ j, inb (bA 4 1 j) (f2 j) := fun j => full_i _
  refine lv_aload_n hx hb dX4_compare_20 rfl (lv_at hl 0 rfl) ?_
  refine lv_dup hx hb dX4_compare_21 rfl ?_
  refine gX_4_2 hx hb ht hown hK hP m_368 (v := (iv 4 2)) rfl dX4_compare_22 ?_
  refine lv_iconst (v := 1) hx hb dX4_compare_25 (by decide) ?_
  refine lv_iadd hx hb dX4_compare_26 ?_
  refine lv_topi (fun v3 ev3 => ?_)
  have tv3 := z_add ev3 (rfl : ((iv 4 2)).toInt = _) (by decide : (1 : Int32).toInt = 1) (by omega) (by omega)
  refine pX_4_2 (v := v3) hx hb ht hown hK hP hD hS m_368 dX4_compare_27 (fun H locs hP hD hS => ?_)
  refine lv_aload_n hx hb dX4_compare_30 rfl (lv_at hl 0 rfl) ?_
  refine gX_4_2 hx hb ht hown hK hP m_368 (v := v3) rfl dX4_compare_31 ?_
  have hP9 : va_P (dC, dI) classes (WX h g ca (u2 iv 4 2 v3) lv (u2 (u2 fa 4 0 f1) 4 1 f2) la) H := hP
  have hD9 : va_D A (WX h g ca (u2 iv 4 2 v3) lv (u2 (u2 fa 4 0 f1) 4 1 f2) la) := hD
  exact W.iret (v := v3) hx hb hr (fun t ht9 hW => ⟨⟨v3, ((u2 iv 4 2 v3), lv, (u2 (u2 fa 4 0 f1) 4 1 f2), la), rfl, ⟨f1, f2, v3, (show inb (0, 8) v3 from ⟨by omega, by omega⟩), (by omega), ⟨by omega, by omega⟩, rfl⟩, by rw [ht9]; exact hP9, hD9⟩, hS.F ht9⟩) hS.2.2 dX4_compare_34
set_option maxHeartbeats 4000000 in
set_option maxRecDepth 100000 in
/-- X4_leastWithout -/
theorem c_X4_leastWithout (l : Launch) (dC : Nat → ClassId) (dI : Nat → Nat → Nat) (h : Nat) (g : Nat → Nat → Nat) (ca : Nat → Nat → ClassId) (iv : Nat → Nat → Int32) (lv : Nat → Nat → Int64) (fa : Nat → Nat → Nat → Int32) (la : Nat → Nat → Nat → Int64) (hI : IX iv fa) (a : Int32) : Met l yX4_leastWithout (wc yX4_leastWithout cX4_leastWithout 4 (some .int)) ({ frames := 1, cells := 0, slots := 0, locals := 40 } : Room) (pR (dC, dI) classes (WX h g ca iv lv fa la) (TX ca) [.ref (g 11 8), .int a]) (vp_Si (fun r => True)) 0 0 (fun _ => False) := by
  refine Met.ofW (cc := cX4_leastWithout) (maxL := 4) (ret := (some .int)) (by decide) rfl ?_
  intro p e s m args below meth c s₁ B hml hv
  obtain ⟨rfl, hP, hK⟩ := hv
  have hx := B.exec
  have hb := B.bytes
  have hr := B.returns
  have ht := tb_tl (atoms_spec (ws := wc yX4_leastWithout cX4_leastWithout 4 (some .int)) B.pre)
  have hown : s.vm.findClass RX4 = some m.cls := findClass_of_methodNamed B.named
  have hlocks := B.notSynchronized
  have hl := lv_entry [.ref (g 11 8), .int a] (n := 4) (Nat.le_of_ble_eq_true rfl)
  rw [lg_entry_eq]
  generalize (lg_sl [.ref (g 11 8), .int a] ++ List.replicate (4 - (lg_sl [.ref (g 11 8), .int a]).length) Slot.unset).toArray = ls at hl ⊢
  have hl : lv_has ls 4 [(0, .ref (g 11 8)), (1, .int a)] := hl
  refine lv_ldc hx hb hown (ht _ m_1060) dX4_leastWithout_0 ?_
  refine lv_istore_n (lv' := [(2, .int (-1000000)), (0, .ref (g 11 8)), (1, .int a)]) hx hb dX4_leastWithout_2 rfl hl (by decide) rfl (fun ls hl => ?_)
  refine lv_iconst (v := 0) hx hb dX4_leastWithout_3 (by decide) ?_
  refine lv_istore_n (lv' := [(3, .int 0), (2, .int (-1000000)), (0, .ref (g 11 8)), (1, .int a)]) hx hb dX4_leastWithout_4 rfl hl (by decide) rfl (fun ls hl => ?_)
  have lp83 : ∀ (nn83 : Nat) (x82_3 : Int32) (x82_2 : Int32), 0 ≤ x82_3.toInt ∧ x82_3.toInt ≤ 8 → (-1000000) ≤ x82_2.toInt → 8 - x82_3.toInt < (nn83 : Int) → ∀ (ls : Array Slot), lv_has ls 4 [(3, .int x82_3), (2, .int x82_2), (0, .ref (g 11 8)), (1, .int a)] → W p l e ({ frames := 1, cells := 0, slots := 0, locals := 40 } : Room) s m ([.ref (g 11 8), .int a] : List Value).toArray below meth c s.heap [] 0 0 (MQ below (vp_Si (fun r => True)) ([.ref (g 11 8), .int a] : List Value).toArray s 0 0 (fun _ => False)) (F0 m 5 ls []) := by
    intro nn83
    induction nn83 with
    | zero => intro x82_3 x82_2 hx82_3 hx82_2 hm83; exfalso; omega
    | succ nn83 ih83 =>
      intro x82_3 x82_2 hx82_3 hx82_2 hm83 ls hl
      refine lv_iload_n hx hb dX4_leastWithout_5 rfl (lv_at hl 0 rfl) ?_
      refine lv_aload_n hx hb dX4_leastWithout_6 rfl (lv_at hl 2 rfl) ?_
      have i_4_2 : 0 ≤ (iv 4 2).toInt ∧ (iv 4 2).toInt ≤ 8 := hI.1 4 2
      refine gX_4_2 hx hb ht hown hK hP m_368 (v := (iv 4 2)) rfl dX4_leastWithout_7 ?_
      refine lv_icmp_ge (tgt := 38) hx hb dX4_leastWithout_10 (by decide) (fun c84 => ?_) (fun c84 => ?_)
      · have fc84 := z_le (rfl : ((iv 4 2)).toInt = _) (rfl : (x82_3).toInt = _) c84
        refine lv_iload_n hx hb dX4_leastWithout_38 rfl (lv_at hl 1 rfl) ?_
        exact W.iret (v := x82_2) hx hb hr (fun t ht9 hW => ⟨x82_2, rfl, trivial, ht9⟩) (fun q hq => by cases hq) dX4_leastWithout_39
      · have fc84 := z_nle (rfl : ((iv 4 2)).toInt = _) (rfl : (x82_3).toInt = _) c84
        refine lv_iload_n hx hb dX4_leastWithout_13 rfl (lv_at hl 3 rfl) ?_
        refine lv_iload_n hx hb dX4_leastWithout_14 rfl (lv_at hl 0 rfl) ?_
        refine lv_ishr hx hb dX4_leastWithout_15 ?_
        refine lv_topi (fun v85 ev85 => ?_)
        refine lv_iconst (v := 1) hx hb dX4_leastWithout_16 (by decide) ?_
        refine lv_iand hx hb dX4_leastWithout_17 ?_
        refine lv_topi (fun v86 ev86 => ?_)
        refine lv_if_ne (tgt := 32) hx hb dX4_leastWithout_18 (by decide) (fun c87 => ?_) (fun c87 => ?_)
        · have fc87 := z_ne (rfl : (v86).toInt = _) (by decide : (0 : Int32).toInt = 0) c87
          obtain ⟨v88, ev88⟩ : ∃ y : Int32, y = x82_3 + 1 := ⟨_, rfl⟩
          have tv88 := z_add ev88 rfl (by decide : (1 : Int32).toInt = 1) (by omega) (by omega)
          refine lv_iinc (v := v88) (lv' := [(3, .int v88), (2, .int x82_2), (0, .ref (g 11 8)), (1, .int a)]) hx hb dX4_leastWithout_32 hl (k := 0) rfl (by rw [ev88]; rfl) (by decide) rfl (fun ls hl => ?_)
          refine lv_goto (tgt := 5) hx hb dX4_leastWithout_35 (by decide) ?_
          exact ih83 v88 x82_2 ⟨by omega, by omega⟩ (by omega) (by omega) ls (lv_sub hl [0, 1, 2, 3] rfl)
        · have fc87 := z_eq (rfl : (v86).toInt = _) (by decide : (0 : Int32).toInt = 0) c87
          refine lv_iload_n hx hb dX4_leastWithout_21 rfl (lv_at hl 1 rfl) ?_
          refine lv_aload_n hx hb dX4_leastWithout_22 rfl (lv_at hl 2 rfl) ?_
          refine gX_4_0 hx hb ht hown hK hP m_366 dX4_leastWithout_23 ?_
          refine lv_iload_n hx hb dX4_leastWithout_26 rfl (lv_at hl 0 rfl) ?_
          refine lX_4_0 hx hb hK hP (f := (fa 4 0)) rfl (vp_in_iff.mpr ⟨by omega, by omega⟩) dX4_leastWithout_27 ?_
          refine lv_topi (fun v89 ev89 => ?_)
          refine va_mmax hx hb (hml.trans hl.1.symm) hown (ht _ m_1061) (ht _ m_558) (ht _ m_90) (ht _ m_559) (Nat.le_of_ble_eq_true rfl) (Nat.le_of_ble_eq_true rfl) (Nat.le_of_ble_eq_true rfl) (Nat.le_of_ble_eq_true rfl) dX4_leastWithout_28 ?_
          refine lv_topi (fun v90 ev90 => ?_)
          have tv90 := mm_or ev90
          have uv90 := mm_max ev90 (rfl : (x82_2).toInt = _) (rfl : (v89).toInt = _)
          refine lv_istore_n (lv' := [(2, .int v90), (3, .int x82_3), (0, .ref (g 11 8)), (1, .int a)]) hx hb dX4_leastWithout_31 rfl hl (by decide) rfl (fun ls hl => ?_)
          obtain ⟨v91, ev91⟩ : ∃ y : Int32, y = x82_3 + 1 := ⟨_, rfl⟩
          have tv91 := z_add ev91 rfl (by decide : (1 : Int32).toInt = 1) (by omega) (by omega)
          refine lv_iinc (v := v91) (lv' := [(3, .int v91), (2, .int v90), (0, .ref (g 11 8)), (1, .int a)]) hx hb dX4_leastWithout_32 hl (k := 1) rfl (by rw [ev91]; rfl) (by decide) rfl (fun ls hl => ?_)
          refine lv_goto (tgt := 5) hx hb dX4_leastWithout_35 (by decide) ?_
          exact ih83 v91 v90 ⟨by omega, by omega⟩ (by omega) (by omega) ls (lv_sub hl [0, 1, 2, 3] rfl)
  exact lp83 9 0 (-1000000) ⟨by decide, by decide⟩ (by decide) (by first | decide | omega) ls (lv_sub hl [0, 1, 2, 3] rfl)
set_option maxHeartbeats 4000000 in
set_option maxRecDepth 100000 in
/-- X4_greatestWithout -/
theorem c_X4_greatestWithout (l : Launch) (dC : Nat → ClassId) (dI : Nat → Nat → Nat) (h : Nat) (g : Nat → Nat → Nat) (ca : Nat → Nat → ClassId) (iv : Nat → Nat → Int32) (lv : Nat → Nat → Int64) (fa : Nat → Nat → Nat → Int32) (la : Nat → Nat → Nat → Int64) (hI : IX iv fa) (a : Int32) : Met l yX4_greatestWithout (wc yX4_greatestWithout cX4_greatestWithout 4 (some .int)) ({ frames := 1, cells := 0, slots := 0, locals := 40 } : Room) (pR (dC, dI) classes (WX h g ca iv lv fa la) (TX ca) [.ref (g 11 8), .int a]) (vp_Si (fun r => True)) 0 0 (fun _ => False) := by
  refine Met.ofW (cc := cX4_greatestWithout) (maxL := 4) (ret := (some .int)) (by decide) rfl ?_
  intro p e s m args below meth c s₁ B hml hv
  obtain ⟨rfl, hP, hK⟩ := hv
  have hx := B.exec
  have hb := B.bytes
  have hr := B.returns
  have ht := tb_tl (atoms_spec (ws := wc yX4_greatestWithout cX4_greatestWithout 4 (some .int)) B.pre)
  have hown : s.vm.findClass RX4 = some m.cls := findClass_of_methodNamed B.named
  have hlocks := B.notSynchronized
  have hl := lv_entry [.ref (g 11 8), .int a] (n := 4) (Nat.le_of_ble_eq_true rfl)
  rw [lg_entry_eq]
  generalize (lg_sl [.ref (g 11 8), .int a] ++ List.replicate (4 - (lg_sl [.ref (g 11 8), .int a]).length) Slot.unset).toArray = ls at hl ⊢
  have hl : lv_has ls 4 [(0, .ref (g 11 8)), (1, .int a)] := hl
  refine lv_ldc hx hb hown (ht _ m_1066) dX4_greatestWithout_0 ?_
  refine lv_istore_n (lv' := [(2, .int 1000000), (0, .ref (g 11 8)), (1, .int a)]) hx hb dX4_greatestWithout_2 rfl hl (by decide) rfl (fun ls hl => ?_)
  refine lv_iconst (v := 0) hx hb dX4_greatestWithout_3 (by decide) ?_
  refine lv_istore_n (lv' := [(3, .int 0), (2, .int 1000000), (0, .ref (g 11 8)), (1, .int a)]) hx hb dX4_greatestWithout_4 rfl hl (by decide) rfl (fun ls hl => ?_)
  have lp83 : ∀ (nn83 : Nat) (x82_3 : Int32) (x82_2 : Int32), 0 ≤ x82_3.toInt ∧ x82_3.toInt ≤ 8 → x82_2.toInt ≤ 1000000 → 8 - x82_3.toInt < (nn83 : Int) → ∀ (ls : Array Slot), lv_has ls 4 [(3, .int x82_3), (2, .int x82_2), (0, .ref (g 11 8)), (1, .int a)] → W p l e ({ frames := 1, cells := 0, slots := 0, locals := 40 } : Room) s m ([.ref (g 11 8), .int a] : List Value).toArray below meth c s.heap [] 0 0 (MQ below (vp_Si (fun r => True)) ([.ref (g 11 8), .int a] : List Value).toArray s 0 0 (fun _ => False)) (F0 m 5 ls []) := by
    intro nn83
    induction nn83 with
    | zero => intro x82_3 x82_2 hx82_3 hx82_2 hm83; exfalso; omega
    | succ nn83 ih83 =>
      intro x82_3 x82_2 hx82_3 hx82_2 hm83 ls hl
      refine lv_iload_n hx hb dX4_greatestWithout_5 rfl (lv_at hl 0 rfl) ?_
      refine lv_aload_n hx hb dX4_greatestWithout_6 rfl (lv_at hl 2 rfl) ?_
      have i_4_2 : 0 ≤ (iv 4 2).toInt ∧ (iv 4 2).toInt ≤ 8 := hI.1 4 2
      refine gX_4_2 hx hb ht hown hK hP m_368 (v := (iv 4 2)) rfl dX4_greatestWithout_7 ?_
      refine lv_icmp_ge (tgt := 38) hx hb dX4_greatestWithout_10 (by decide) (fun c84 => ?_) (fun c84 => ?_)
      · have fc84 := z_le (rfl : ((iv 4 2)).toInt = _) (rfl : (x82_3).toInt = _) c84
        refine lv_iload_n hx hb dX4_greatestWithout_38 rfl (lv_at hl 1 rfl) ?_
        exact W.iret (v := x82_2) hx hb hr (fun t ht9 hW => ⟨x82_2, rfl, trivial, ht9⟩) (fun q hq => by cases hq) dX4_greatestWithout_39
      · have fc84 := z_nle (rfl : ((iv 4 2)).toInt = _) (rfl : (x82_3).toInt = _) c84
        refine lv_iload_n hx hb dX4_greatestWithout_13 rfl (lv_at hl 3 rfl) ?_
        refine lv_iload_n hx hb dX4_greatestWithout_14 rfl (lv_at hl 0 rfl) ?_
        refine lv_ishr hx hb dX4_greatestWithout_15 ?_
        refine lv_topi (fun v85 ev85 => ?_)
        refine lv_iconst (v := 1) hx hb dX4_greatestWithout_16 (by decide) ?_
        refine lv_iand hx hb dX4_greatestWithout_17 ?_
        refine lv_topi (fun v86 ev86 => ?_)
        refine lv_if_ne (tgt := 32) hx hb dX4_greatestWithout_18 (by decide) (fun c87 => ?_) (fun c87 => ?_)
        · have fc87 := z_ne (rfl : (v86).toInt = _) (by decide : (0 : Int32).toInt = 0) c87
          obtain ⟨v88, ev88⟩ : ∃ y : Int32, y = x82_3 + 1 := ⟨_, rfl⟩
          have tv88 := z_add ev88 rfl (by decide : (1 : Int32).toInt = 1) (by omega) (by omega)
          refine lv_iinc (v := v88) (lv' := [(3, .int v88), (2, .int x82_2), (0, .ref (g 11 8)), (1, .int a)]) hx hb dX4_greatestWithout_32 hl (k := 0) rfl (by rw [ev88]; rfl) (by decide) rfl (fun ls hl => ?_)
          refine lv_goto (tgt := 5) hx hb dX4_greatestWithout_35 (by decide) ?_
          exact ih83 v88 x82_2 ⟨by omega, by omega⟩ (by omega) (by omega) ls (lv_sub hl [0, 1, 2, 3] rfl)
        · have fc87 := z_eq (rfl : (v86).toInt = _) (by decide : (0 : Int32).toInt = 0) c87
          refine lv_iload_n hx hb dX4_greatestWithout_21 rfl (lv_at hl 1 rfl) ?_
          refine lv_aload_n hx hb dX4_greatestWithout_22 rfl (lv_at hl 2 rfl) ?_
          refine gX_4_1 hx hb ht hown hK hP m_367 dX4_greatestWithout_23 ?_
          refine lv_iload_n hx hb dX4_greatestWithout_26 rfl (lv_at hl 0 rfl) ?_
          refine lX_4_1 hx hb hK hP (f := (fa 4 1)) rfl (vp_in_iff.mpr ⟨by omega, by omega⟩) dX4_greatestWithout_27 ?_
          refine lv_topi (fun v89 ev89 => ?_)
          refine va_mmin hx hb (hml.trans hl.1.symm) hown (ht _ m_1067) (ht _ m_551) (ht _ m_90) (ht _ m_552) (Nat.le_of_ble_eq_true rfl) (Nat.le_of_ble_eq_true rfl) (Nat.le_of_ble_eq_true rfl) (Nat.le_of_ble_eq_true rfl) dX4_greatestWithout_28 ?_
          refine lv_topi (fun v90 ev90 => ?_)
          have tv90 := mm_or ev90
          have uv90 := mm_min ev90 (rfl : (x82_2).toInt = _) (rfl : (v89).toInt = _)
          refine lv_istore_n (lv' := [(2, .int v90), (3, .int x82_3), (0, .ref (g 11 8)), (1, .int a)]) hx hb dX4_greatestWithout_31 rfl hl (by decide) rfl (fun ls hl => ?_)
          obtain ⟨v91, ev91⟩ : ∃ y : Int32, y = x82_3 + 1 := ⟨_, rfl⟩
          have tv91 := z_add ev91 rfl (by decide : (1 : Int32).toInt = 1) (by omega) (by omega)
          refine lv_iinc (v := v91) (lv' := [(3, .int v91), (2, .int v90), (0, .ref (g 11 8)), (1, .int a)]) hx hb dX4_greatestWithout_32 hl (k := 1) rfl (by rw [ev91]; rfl) (by decide) rfl (fun ls hl => ?_)
          refine lv_goto (tgt := 5) hx hb dX4_greatestWithout_35 (by decide) ?_
          exact ih83 v91 v90 ⟨by omega, by omega⟩ (by omega) (by omega) ls (lv_sub hl [0, 1, 2, 3] rfl)
  exact lp83 9 0 1000000 ⟨by decide, by decide⟩ (by decide) (by first | decide | omega) ls (lv_sub hl [0, 1, 2, 3] rfl)
/-! ===== book ===== -/
set_option maxRecDepth 100000 in
theorem m_5 : Cond.selects RX1 yX1_findCounting yX1_findCounting ∈ tb := tb_in 5 (by decide +kernel) rfl
set_option maxRecDepth 100000 in
theorem m_6 : Cond.selects RX1 yX1_isStruck yX1_isStruck ∈ tb := tb_in 6 (by decide +kernel) rfl
set_option maxRecDepth 100000 in
theorem m_7 : Cond.selects RX1 yX1_strikes yX1_strikes ∈ tb := tb_in 7 (by decide +kernel) rfl
set_option maxRecDepth 100000 in
theorem m_39 : Cond.selects RX1 yX1_lastNaming yX1_lastNaming ∈ tb := tb_in 39 (by decide +kernel) rfl
theorem m_81 : Cond.initialized RX1 ∈ tb := mb_1_0 _ (List.mem_of_getElem? (i := 4) rfl)
theorem m_189 : Cond.fieldLink RX1 11 "SilkHouse$Book" "day" "[I" ∈ tb := mb_1_3 _ (List.mem_of_getElem? (i := 2) rfl)
theorem m_190 : Cond.fieldLink RX1 15 "SilkHouse$Book" "clauses" "[I" ∈ tb := mb_1_3 _ (List.mem_of_getElem? (i := 3) rfl)
theorem m_191 : Cond.fieldLink RX1 18 "SilkHouse$Book" "kind" "[I" ∈ tb := mb_1_3 _ (List.mem_of_getElem? (i := 4) rfl)
theorem m_192 : Cond.fieldLink RX1 21 "SilkHouse$Book" "first" "[I" ∈ tb := mb_1_3 _ (List.mem_of_getElem? (i := 5) rfl)
theorem m_193 : Cond.fieldLink RX1 24 "SilkHouse$Book" "second" "[I" ∈ tb := mb_1_3 _ (List.mem_of_getElem? (i := 6) rfl)
theorem m_194 : Cond.fieldLink RX1 27 "SilkHouse$Book" "letters" "[B" ∈ tb := mb_1_3 _ (List.mem_of_getElem? (i := 7) rfl)
theorem m_195 : Cond.fieldLink RX1 31 "SilkHouse$Book" "counting" "[Z" ∈ tb := mb_1_3 _ (List.mem_of_getElem? (i := 8) rfl)
theorem m_196 : Cond.fieldLink RX1 35 "SilkHouse$Book" "number" "I" ∈ tb := mb_1_3 _ (List.mem_of_getElem? (i := 9) rfl)
theorem m_199 : Cond.fieldLink RX1 39 "SilkHouse$Book" "drafted" "I" ∈ tb := mb_1_3 _ (List.mem_of_getElem? (i := 12) rfl)
theorem m_604 : Cond.methodLink RX1 42 yX1_findCounting ∈ tb := mb_3_1 _ (List.mem_of_getElem? (i := 23) rfl)
theorem m_606 : Cond.instanceMethod yX1_findCounting ∈ tb := mb_3_2 _ (List.mem_of_getElem? (i := 0) rfl)
theorem m_607 : Cond.code yX1_findCounting cX1_findCounting 3 none ∈ tb := mb_3_2 _ (List.mem_of_getElem? (i := 1) rfl)
theorem m_608 : Cond.methodLink RX1 57 yX1_isStruck ∈ tb := mb_3_2 _ (List.mem_of_getElem? (i := 2) rfl)
theorem m_610 : Cond.instanceMethod yX1_isStruck ∈ tb := mb_3_2 _ (List.mem_of_getElem? (i := 3) rfl)
theorem m_611 : Cond.code yX1_isStruck cX1_isStruck 3 (some .boolean) ∈ tb := mb_3_2 _ (List.mem_of_getElem? (i := 4) rfl)
theorem m_612 : Cond.methodLink RX1 61 yX1_strikes ∈ tb := mb_3_2 _ (List.mem_of_getElem? (i := 5) rfl)
theorem m_614 : Cond.instanceMethod yX1_strikes ∈ tb := mb_3_2 _ (List.mem_of_getElem? (i := 6) rfl)
theorem m_615 : Cond.code yX1_strikes cX1_strikes 4 (some .boolean) ∈ tb := mb_3_2 _ (List.mem_of_getElem? (i := 7) rfl)
theorem m_969 : Cond.methodLink RX1 53 yX1_lastNaming ∈ tb := mb_4_6 _ (List.mem_of_getElem? (i := 16) rfl)
theorem m_971 : Cond.instanceMethod yX1_lastNaming ∈ tb := mb_4_6 _ (List.mem_of_getElem? (i := 17) rfl)
theorem m_972 : Cond.code yX1_lastNaming cX1_lastNaming 7 (some .int) ∈ tb := mb_4_6 _ (List.mem_of_getElem? (i := 18) rfl)
theorem hd_X1_findCounting_v : yX1_findCounting.cls = RX1 ∧ yX1_findCounting.cls ≠ "java/lang/invoke/MethodHandle" ∧ yX1_findCounting.cls ≠ "java/lang/invoke/VarHandle" ∧ (parseMethodDescriptor yX1_findCounting.desc).map (fun d => d.parameters.length) = some 1 := by decide +kernel
theorem hd_X1_isStruck_v : yX1_isStruck.cls = RX1 ∧ yX1_isStruck.cls ≠ "java/lang/invoke/MethodHandle" ∧ yX1_isStruck.cls ≠ "java/lang/invoke/VarHandle" ∧ (parseMethodDescriptor yX1_isStruck.desc).map (fun d => d.parameters.length) = some 1 := by decide +kernel
theorem hd_X1_lastNaming_v : yX1_lastNaming.cls = RX1 ∧ yX1_lastNaming.cls ≠ "java/lang/invoke/MethodHandle" ∧ yX1_lastNaming.cls ≠ "java/lang/invoke/VarHandle" ∧ (parseMethodDescriptor yX1_lastNaming.desc).map (fun d => d.parameters.length) = some 3 := by decide +kernel
theorem hd_X1_strikes_v : yX1_strikes.cls = RX1 ∧ yX1_strikes.cls ≠ "java/lang/invoke/MethodHandle" ∧ yX1_strikes.cls ≠ "java/lang/invoke/VarHandle" ∧ (parseMethodDescriptor yX1_strikes.desc).map (fun d => d.parameters.length) = some 2 := by decide +kernel
set_option maxRecDepth 100000 in
theorem dvX1_draft_0 : ([(0, .aload_n 0, 1), (1, .getfield 35, 3), (4, .bipush 8, 2), (6, .if_icmp .ge 60, 3), (9, .aload_n 0, 1), (10, .getfield 39, 3), (13, .bipush 12, 2), (15, .if_icmp .ge 51, 3), (18, .aload_n 0, 1), (19, .getfield 35, 3), (22, .bipush 12, 2), (24, .imul, 1), (25, .aload_n 0, 1), (26, .getfield 39, 3), (29, .iadd, 1), (30, .istore 4, 2), (32, .aload_n 0, 1), (33, .getfield 18, 3), (36, .iload 4, 2), (38, .iload_n 1, 1), (39, .iastore, 1), (40, .aload_n 0, 1), (41, .getfield 21, 3), (44, .iload 4, 2)] : List (Nat × Instr × Nat)).all (fun q => decide (decode cX1_draft q.1 = .ok (q.2.1, q.2.2))) = true := by decide +kernel
theorem dX1_draft_0 : decode cX1_draft 0 = .ok (.aload_n 0, 1) := all_at dvX1_draft_0 0 rfl
theorem dX1_draft_1 : decode cX1_draft 1 = .ok (.getfield 35, 3) := all_at dvX1_draft_0 1 rfl
theorem dX1_draft_4 : decode cX1_draft 4 = .ok (.bipush 8, 2) := all_at dvX1_draft_0 2 rfl
theorem dX1_draft_6 : decode cX1_draft 6 = .ok (.if_icmp .ge 60, 3) := all_at dvX1_draft_0 3 rfl
theorem dX1_draft_9 : decode cX1_draft 9 = .ok (.aload_n 0, 1) := all_at dvX1_draft_0 4 rfl
theorem dX1_draft_10 : decode cX1_draft 10 = .ok (.getfield 39, 3) := all_at dvX1_draft_0 5 rfl
theorem dX1_draft_13 : decode cX1_draft 13 = .ok (.bipush 12, 2) := all_at dvX1_draft_0 6 rfl
theorem dX1_draft_15 : decode cX1_draft 15 = .ok (.if_icmp .ge 51, 3) := all_at dvX1_draft_0 7 rfl
theorem dX1_draft_18 : decode cX1_draft 18 = .ok (.aload_n 0, 1) := all_at dvX1_draft_0 8 rfl
theorem dX1_draft_19 : decode cX1_draft 19 = .ok (.getfield 35, 3) := all_at dvX1_draft_0 9 rfl
theorem dX1_draft_22 : decode cX1_draft 22 = .ok (.bipush 12, 2) := all_at dvX1_draft_0 10 rfl
theorem dX1_draft_24 : decode cX1_draft 24 = .ok (.imul, 1) := all_at dvX1_draft_0 11 rfl
theorem dX1_draft_25 : decode cX1_draft 25 = .ok (.aload_n 0, 1) := all_at dvX1_draft_0 12 rfl
theorem dX1_draft_26 : decode cX1_draft 26 = .ok (.getfield 39, 3) := all_at dvX1_draft_0 13 rfl
theorem dX1_draft_29 : decode cX1_draft 29 = .ok (.iadd, 1) := all_at dvX1_draft_0 14 rfl
theorem dX1_draft_30 : decode cX1_draft 30 = .ok (.istore 4, 2) := all_at dvX1_draft_0 15 rfl
theorem dX1_draft_32 : decode cX1_draft 32 = .ok (.aload_n 0, 1) := all_at dvX1_draft_0 16 rfl
theorem dX1_draft_33 : decode cX1_draft 33 = .ok (.getfield 18, 3) := all_at dvX1_draft_0 17 rfl
theorem dX1_draft_36 : decode cX1_draft 36 = .ok (.iload 4, 2) := all_at dvX1_draft_0 18 rfl
theorem dX1_draft_38 : decode cX1_draft 38 = .ok (.iload_n 1, 1) := all_at dvX1_draft_0 19 rfl
theorem dX1_draft_39 : decode cX1_draft 39 = .ok (.iastore, 1) := all_at dvX1_draft_0 20 rfl
theorem dX1_draft_40 : decode cX1_draft 40 = .ok (.aload_n 0, 1) := all_at dvX1_draft_0 21 rfl
theorem dX1_draft_41 : decode cX1_draft 41 = .ok (.getfield 21, 3) := all_at dvX1_draft_0 22 rfl
theorem dX1_draft_44 : decode cX1_draft 44 = .ok (.iload 4, 2) := all_at dvX1_draft_0 23 rfl
set_option maxRecDepth 100000 in
theorem dvX1_draft_46 : ([(46, .iload_n 2, 1), (47, .iastore, 1), (48, .aload_n 0, 1), (49, .getfield 24, 3), (52, .iload 4, 2), (54, .iload_n 3, 1), (55, .iastore, 1), (56, .aload_n 0, 1), (57, .dup, 1), (58, .getfield 39, 3), (61, .iconst 1, 1), (62, .iadd, 1), (63, .putfield 39, 3), (66, .return_, 1)] : List (Nat × Instr × Nat)).all (fun q => decide (decode cX1_draft q.1 = .ok (q.2.1, q.2.2))) = true := by decide +kernel
theorem dX1_draft_46 : decode cX1_draft 46 = .ok (.iload_n 2, 1) := all_at dvX1_draft_46 0 rfl
theorem dX1_draft_47 : decode cX1_draft 47 = .ok (.iastore, 1) := all_at dvX1_draft_46 1 rfl
theorem dX1_draft_48 : decode cX1_draft 48 = .ok (.aload_n 0, 1) := all_at dvX1_draft_46 2 rfl
theorem dX1_draft_49 : decode cX1_draft 49 = .ok (.getfield 24, 3) := all_at dvX1_draft_46 3 rfl
theorem dX1_draft_52 : decode cX1_draft 52 = .ok (.iload 4, 2) := all_at dvX1_draft_46 4 rfl
theorem dX1_draft_54 : decode cX1_draft 54 = .ok (.iload_n 3, 1) := all_at dvX1_draft_46 5 rfl
theorem dX1_draft_55 : decode cX1_draft 55 = .ok (.iastore, 1) := all_at dvX1_draft_46 6 rfl
theorem dX1_draft_56 : decode cX1_draft 56 = .ok (.aload_n 0, 1) := all_at dvX1_draft_46 7 rfl
theorem dX1_draft_57 : decode cX1_draft 57 = .ok (.dup, 1) := all_at dvX1_draft_46 8 rfl
theorem dX1_draft_58 : decode cX1_draft 58 = .ok (.getfield 39, 3) := all_at dvX1_draft_46 9 rfl
theorem dX1_draft_61 : decode cX1_draft 61 = .ok (.iconst 1, 1) := all_at dvX1_draft_46 10 rfl
theorem dX1_draft_62 : decode cX1_draft 62 = .ok (.iadd, 1) := all_at dvX1_draft_46 11 rfl
theorem dX1_draft_63 : decode cX1_draft 63 = .ok (.putfield 39, 3) := all_at dvX1_draft_46 12 rfl
theorem dX1_draft_66 : decode cX1_draft 66 = .ok (.return_, 1) := all_at dvX1_draft_46 13 rfl
set_option maxRecDepth 100000 in
theorem dvX1_draftWord_0 : ([(0, .aload_n 0, 1), (1, .getfield 35, 3), (4, .bipush 8, 2), (6, .if_icmp .ge 73, 3), (9, .aload_n 0, 1), (10, .getfield 39, 3), (13, .bipush 12, 2), (15, .if_icmp .ge 64, 3), (18, .aload_n 0, 1), (19, .getfield 35, 3), (22, .bipush 12, 2), (24, .imul, 1), (25, .aload_n 0, 1), (26, .getfield 39, 3), (29, .iadd, 1), (30, .bipush 8, 2), (32, .imul, 1), (33, .istore 4, 2), (35, .iconst 0, 1), (36, .istore 5, 2), (38, .iload 5, 2), (40, .bipush 8, 2), (42, .if_icmp .ge 37, 3), (45, .aload_n 0, 1)] : List (Nat × Instr × Nat)).all (fun q => decide (decode cX1_draftWord q.1 = .ok (q.2.1, q.2.2))) = true := by decide +kernel
theorem dX1_draftWord_0 : decode cX1_draftWord 0 = .ok (.aload_n 0, 1) := all_at dvX1_draftWord_0 0 rfl
theorem dX1_draftWord_1 : decode cX1_draftWord 1 = .ok (.getfield 35, 3) := all_at dvX1_draftWord_0 1 rfl
theorem dX1_draftWord_4 : decode cX1_draftWord 4 = .ok (.bipush 8, 2) := all_at dvX1_draftWord_0 2 rfl
theorem dX1_draftWord_6 : decode cX1_draftWord 6 = .ok (.if_icmp .ge 73, 3) := all_at dvX1_draftWord_0 3 rfl
theorem dX1_draftWord_9 : decode cX1_draftWord 9 = .ok (.aload_n 0, 1) := all_at dvX1_draftWord_0 4 rfl
theorem dX1_draftWord_10 : decode cX1_draftWord 10 = .ok (.getfield 39, 3) := all_at dvX1_draftWord_0 5 rfl
theorem dX1_draftWord_13 : decode cX1_draftWord 13 = .ok (.bipush 12, 2) := all_at dvX1_draftWord_0 6 rfl
theorem dX1_draftWord_15 : decode cX1_draftWord 15 = .ok (.if_icmp .ge 64, 3) := all_at dvX1_draftWord_0 7 rfl
theorem dX1_draftWord_18 : decode cX1_draftWord 18 = .ok (.aload_n 0, 1) := all_at dvX1_draftWord_0 8 rfl
theorem dX1_draftWord_19 : decode cX1_draftWord 19 = .ok (.getfield 35, 3) := all_at dvX1_draftWord_0 9 rfl
theorem dX1_draftWord_22 : decode cX1_draftWord 22 = .ok (.bipush 12, 2) := all_at dvX1_draftWord_0 10 rfl
theorem dX1_draftWord_24 : decode cX1_draftWord 24 = .ok (.imul, 1) := all_at dvX1_draftWord_0 11 rfl
theorem dX1_draftWord_25 : decode cX1_draftWord 25 = .ok (.aload_n 0, 1) := all_at dvX1_draftWord_0 12 rfl
theorem dX1_draftWord_26 : decode cX1_draftWord 26 = .ok (.getfield 39, 3) := all_at dvX1_draftWord_0 13 rfl
theorem dX1_draftWord_29 : decode cX1_draftWord 29 = .ok (.iadd, 1) := all_at dvX1_draftWord_0 14 rfl
theorem dX1_draftWord_30 : decode cX1_draftWord 30 = .ok (.bipush 8, 2) := all_at dvX1_draftWord_0 15 rfl
theorem dX1_draftWord_32 : decode cX1_draftWord 32 = .ok (.imul, 1) := all_at dvX1_draftWord_0 16 rfl
theorem dX1_draftWord_33 : decode cX1_draftWord 33 = .ok (.istore 4, 2) := all_at dvX1_draftWord_0 17 rfl
theorem dX1_draftWord_35 : decode cX1_draftWord 35 = .ok (.iconst 0, 1) := all_at dvX1_draftWord_0 18 rfl
theorem dX1_draftWord_36 : decode cX1_draftWord 36 = .ok (.istore 5, 2) := all_at dvX1_draftWord_0 19 rfl
theorem dX1_draftWord_38 : decode cX1_draftWord 38 = .ok (.iload 5, 2) := all_at dvX1_draftWord_0 20 rfl
theorem dX1_draftWord_40 : decode cX1_draftWord 40 = .ok (.bipush 8, 2) := all_at dvX1_draftWord_0 21 rfl
theorem dX1_draftWord_42 : decode cX1_draftWord 42 = .ok (.if_icmp .ge 37, 3) := all_at dvX1_draftWord_0 22 rfl
theorem dX1_draftWord_45 : decode cX1_draftWord 45 = .ok (.aload_n 0, 1) := all_at dvX1_draftWord_0 23 rfl
set_option maxRecDepth 100000 in
theorem dvX1_draftWord_46 : ([(46, .getfield 27, 3), (49, .iload 4, 2), (51, .iload 5, 2), (53, .iadd, 1), (54, .iload_n 2, 1), (55, .iload 5, 2), (57, .iadd, 1), (58, .iload_n 3, 1), (59, .if_icmp .ge 12, 3), (62, .aload_n 1, 1), (63, .iload_n 2, 1), (64, .iload 5, 2), (66, .iadd, 1), (67, .baload, 1), (68, .goto 4, 3), (71, .iconst 0, 1), (72, .bastore, 1), (73, .iinc 5 1, 3), (76, .goto (-38), 3), (79, .return_, 1)] : List (Nat × Instr × Nat)).all (fun q => decide (decode cX1_draftWord q.1 = .ok (q.2.1, q.2.2))) = true := by decide +kernel
theorem dX1_draftWord_46 : decode cX1_draftWord 46 = .ok (.getfield 27, 3) := all_at dvX1_draftWord_46 0 rfl
theorem dX1_draftWord_49 : decode cX1_draftWord 49 = .ok (.iload 4, 2) := all_at dvX1_draftWord_46 1 rfl
theorem dX1_draftWord_51 : decode cX1_draftWord 51 = .ok (.iload 5, 2) := all_at dvX1_draftWord_46 2 rfl
theorem dX1_draftWord_53 : decode cX1_draftWord 53 = .ok (.iadd, 1) := all_at dvX1_draftWord_46 3 rfl
theorem dX1_draftWord_54 : decode cX1_draftWord 54 = .ok (.iload_n 2, 1) := all_at dvX1_draftWord_46 4 rfl
theorem dX1_draftWord_55 : decode cX1_draftWord 55 = .ok (.iload 5, 2) := all_at dvX1_draftWord_46 5 rfl
theorem dX1_draftWord_57 : decode cX1_draftWord 57 = .ok (.iadd, 1) := all_at dvX1_draftWord_46 6 rfl
theorem dX1_draftWord_58 : decode cX1_draftWord 58 = .ok (.iload_n 3, 1) := all_at dvX1_draftWord_46 7 rfl
theorem dX1_draftWord_59 : decode cX1_draftWord 59 = .ok (.if_icmp .ge 12, 3) := all_at dvX1_draftWord_46 8 rfl
theorem dX1_draftWord_62 : decode cX1_draftWord 62 = .ok (.aload_n 1, 1) := all_at dvX1_draftWord_46 9 rfl
theorem dX1_draftWord_63 : decode cX1_draftWord 63 = .ok (.iload_n 2, 1) := all_at dvX1_draftWord_46 10 rfl
theorem dX1_draftWord_64 : decode cX1_draftWord 64 = .ok (.iload 5, 2) := all_at dvX1_draftWord_46 11 rfl
theorem dX1_draftWord_66 : decode cX1_draftWord 66 = .ok (.iadd, 1) := all_at dvX1_draftWord_46 12 rfl
theorem dX1_draftWord_67 : decode cX1_draftWord 67 = .ok (.baload, 1) := all_at dvX1_draftWord_46 13 rfl
theorem dX1_draftWord_68 : decode cX1_draftWord 68 = .ok (.goto 4, 3) := all_at dvX1_draftWord_46 14 rfl
theorem dX1_draftWord_71 : decode cX1_draftWord 71 = .ok (.iconst 0, 1) := all_at dvX1_draftWord_46 15 rfl
theorem dX1_draftWord_72 : decode cX1_draftWord 72 = .ok (.bastore, 1) := all_at dvX1_draftWord_46 16 rfl
theorem dX1_draftWord_73 : decode cX1_draftWord 73 = .ok (.iinc 5 1, 3) := all_at dvX1_draftWord_46 17 rfl
theorem dX1_draftWord_76 : decode cX1_draftWord 76 = .ok (.goto (-38), 3) := all_at dvX1_draftWord_46 18 rfl
theorem dX1_draftWord_79 : decode cX1_draftWord 79 = .ok (.return_, 1) := all_at dvX1_draftWord_46 19 rfl
set_option maxRecDepth 100000 in
theorem dvX1_enact_0 : ([(0, .aload_n 0, 1), (1, .getfield 11, 3), (4, .aload_n 0, 1), (5, .getfield 35, 3), (8, .iload_n 1, 1), (9, .iastore, 1), (10, .aload_n 0, 1), (11, .getfield 15, 3), (14, .aload_n 0, 1), (15, .getfield 35, 3), (18, .aload_n 0, 1), (19, .getfield 39, 3), (22, .iastore, 1), (23, .aload_n 0, 1), (24, .dup, 1), (25, .getfield 35, 3), (28, .iconst 1, 1), (29, .iadd, 1), (30, .putfield 35, 3), (33, .aload_n 0, 1), (34, .getfield 35, 3), (37, .iconst 1, 1), (38, .isub, 1), (39, .ireturn, 1)] : List (Nat × Instr × Nat)).all (fun q => decide (decode cX1_enact q.1 = .ok (q.2.1, q.2.2))) = true := by decide +kernel
theorem dX1_enact_0 : decode cX1_enact 0 = .ok (.aload_n 0, 1) := all_at dvX1_enact_0 0 rfl
theorem dX1_enact_1 : decode cX1_enact 1 = .ok (.getfield 11, 3) := all_at dvX1_enact_0 1 rfl
theorem dX1_enact_4 : decode cX1_enact 4 = .ok (.aload_n 0, 1) := all_at dvX1_enact_0 2 rfl
theorem dX1_enact_5 : decode cX1_enact 5 = .ok (.getfield 35, 3) := all_at dvX1_enact_0 3 rfl
theorem dX1_enact_8 : decode cX1_enact 8 = .ok (.iload_n 1, 1) := all_at dvX1_enact_0 4 rfl
theorem dX1_enact_9 : decode cX1_enact 9 = .ok (.iastore, 1) := all_at dvX1_enact_0 5 rfl
theorem dX1_enact_10 : decode cX1_enact 10 = .ok (.aload_n 0, 1) := all_at dvX1_enact_0 6 rfl
theorem dX1_enact_11 : decode cX1_enact 11 = .ok (.getfield 15, 3) := all_at dvX1_enact_0 7 rfl
theorem dX1_enact_14 : decode cX1_enact 14 = .ok (.aload_n 0, 1) := all_at dvX1_enact_0 8 rfl
theorem dX1_enact_15 : decode cX1_enact 15 = .ok (.getfield 35, 3) := all_at dvX1_enact_0 9 rfl
theorem dX1_enact_18 : decode cX1_enact 18 = .ok (.aload_n 0, 1) := all_at dvX1_enact_0 10 rfl
theorem dX1_enact_19 : decode cX1_enact 19 = .ok (.getfield 39, 3) := all_at dvX1_enact_0 11 rfl
theorem dX1_enact_22 : decode cX1_enact 22 = .ok (.iastore, 1) := all_at dvX1_enact_0 12 rfl
theorem dX1_enact_23 : decode cX1_enact 23 = .ok (.aload_n 0, 1) := all_at dvX1_enact_0 13 rfl
theorem dX1_enact_24 : decode cX1_enact 24 = .ok (.dup, 1) := all_at dvX1_enact_0 14 rfl
theorem dX1_enact_25 : decode cX1_enact 25 = .ok (.getfield 35, 3) := all_at dvX1_enact_0 15 rfl
theorem dX1_enact_28 : decode cX1_enact 28 = .ok (.iconst 1, 1) := all_at dvX1_enact_0 16 rfl
theorem dX1_enact_29 : decode cX1_enact 29 = .ok (.iadd, 1) := all_at dvX1_enact_0 17 rfl
theorem dX1_enact_30 : decode cX1_enact 30 = .ok (.putfield 35, 3) := all_at dvX1_enact_0 18 rfl
theorem dX1_enact_33 : decode cX1_enact 33 = .ok (.aload_n 0, 1) := all_at dvX1_enact_0 19 rfl
theorem dX1_enact_34 : decode cX1_enact 34 = .ok (.getfield 35, 3) := all_at dvX1_enact_0 20 rfl
theorem dX1_enact_37 : decode cX1_enact 37 = .ok (.iconst 1, 1) := all_at dvX1_enact_0 21 rfl
theorem dX1_enact_38 : decode cX1_enact 38 = .ok (.isub, 1) := all_at dvX1_enact_0 22 rfl
theorem dX1_enact_39 : decode cX1_enact 39 = .ok (.ireturn, 1) := all_at dvX1_enact_0 23 rfl
set_option maxRecDepth 100000 in
theorem dvX1_findCounting_0 : ([(0, .aload_n 0, 1), (1, .getfield 35, 3), (4, .iconst 1, 1), (5, .isub, 1), (6, .istore_n 2, 1), (7, .iload_n 2, 1), (8, .ifCond .lt 38, 3), (11, .aload_n 0, 1), (12, .getfield 31, 3), (15, .iload_n 2, 1), (16, .aload_n 0, 1), (17, .getfield 11, 3), (20, .iload_n 2, 1), (21, .iaload, 1), (22, .iload_n 1, 1), (23, .if_icmp .gt 15, 3), (26, .aload_n 0, 1), (27, .iload_n 2, 1), (28, .invokevirtual 57, 3), (31, .ifCond .ne 7, 3), (34, .iconst 1, 1), (35, .goto 4, 3), (38, .iconst 0, 1), (39, .bastore, 1)] : List (Nat × Instr × Nat)).all (fun q => decide (decode cX1_findCounting q.1 = .ok (q.2.1, q.2.2))) = true := by decide +kernel
theorem dX1_findCounting_0 : decode cX1_findCounting 0 = .ok (.aload_n 0, 1) := all_at dvX1_findCounting_0 0 rfl
theorem dX1_findCounting_1 : decode cX1_findCounting 1 = .ok (.getfield 35, 3) := all_at dvX1_findCounting_0 1 rfl
theorem dX1_findCounting_4 : decode cX1_findCounting 4 = .ok (.iconst 1, 1) := all_at dvX1_findCounting_0 2 rfl
theorem dX1_findCounting_5 : decode cX1_findCounting 5 = .ok (.isub, 1) := all_at dvX1_findCounting_0 3 rfl
theorem dX1_findCounting_6 : decode cX1_findCounting 6 = .ok (.istore_n 2, 1) := all_at dvX1_findCounting_0 4 rfl
theorem dX1_findCounting_7 : decode cX1_findCounting 7 = .ok (.iload_n 2, 1) := all_at dvX1_findCounting_0 5 rfl
theorem dX1_findCounting_8 : decode cX1_findCounting 8 = .ok (.ifCond .lt 38, 3) := all_at dvX1_findCounting_0 6 rfl
theorem dX1_findCounting_11 : decode cX1_findCounting 11 = .ok (.aload_n 0, 1) := all_at dvX1_findCounting_0 7 rfl
theorem dX1_findCounting_12 : decode cX1_findCounting 12 = .ok (.getfield 31, 3) := all_at dvX1_findCounting_0 8 rfl
theorem dX1_findCounting_15 : decode cX1_findCounting 15 = .ok (.iload_n 2, 1) := all_at dvX1_findCounting_0 9 rfl
theorem dX1_findCounting_16 : decode cX1_findCounting 16 = .ok (.aload_n 0, 1) := all_at dvX1_findCounting_0 10 rfl
theorem dX1_findCounting_17 : decode cX1_findCounting 17 = .ok (.getfield 11, 3) := all_at dvX1_findCounting_0 11 rfl
theorem dX1_findCounting_20 : decode cX1_findCounting 20 = .ok (.iload_n 2, 1) := all_at dvX1_findCounting_0 12 rfl
theorem dX1_findCounting_21 : decode cX1_findCounting 21 = .ok (.iaload, 1) := all_at dvX1_findCounting_0 13 rfl
theorem dX1_findCounting_22 : decode cX1_findCounting 22 = .ok (.iload_n 1, 1) := all_at dvX1_findCounting_0 14 rfl
theorem dX1_findCounting_23 : decode cX1_findCounting 23 = .ok (.if_icmp .gt 15, 3) := all_at dvX1_findCounting_0 15 rfl
theorem dX1_findCounting_26 : decode cX1_findCounting 26 = .ok (.aload_n 0, 1) := all_at dvX1_findCounting_0 16 rfl
theorem dX1_findCounting_27 : decode cX1_findCounting 27 = .ok (.iload_n 2, 1) := all_at dvX1_findCounting_0 17 rfl
theorem dX1_findCounting_28 : decode cX1_findCounting 28 = .ok (.invokevirtual 57, 3) := all_at dvX1_findCounting_0 18 rfl
theorem dX1_findCounting_31 : decode cX1_findCounting 31 = .ok (.ifCond .ne 7, 3) := all_at dvX1_findCounting_0 19 rfl
theorem dX1_findCounting_34 : decode cX1_findCounting 34 = .ok (.iconst 1, 1) := all_at dvX1_findCounting_0 20 rfl
theorem dX1_findCounting_35 : decode cX1_findCounting 35 = .ok (.goto 4, 3) := all_at dvX1_findCounting_0 21 rfl
theorem dX1_findCounting_38 : decode cX1_findCounting 38 = .ok (.iconst 0, 1) := all_at dvX1_findCounting_0 22 rfl
theorem dX1_findCounting_39 : decode cX1_findCounting 39 = .ok (.bastore, 1) := all_at dvX1_findCounting_0 23 rfl
theorem dX1_findCounting_40 : decode cX1_findCounting 40 = .ok (.iinc 2 (-1), 3) := by decide +kernel
theorem dX1_findCounting_43 : decode cX1_findCounting 43 = .ok (.goto (-36), 3) := by decide +kernel
theorem dX1_findCounting_46 : decode cX1_findCounting 46 = .ok (.return_, 1) := by decide +kernel
set_option maxRecDepth 100000 in
theorem dvX1_isStruck_0 : ([(0, .iload_n 1, 1), (1, .iconst 1, 1), (2, .iadd, 1), (3, .istore_n 2, 1), (4, .iload_n 2, 1), (5, .aload_n 0, 1), (6, .getfield 35, 3), (9, .if_icmp .ge 29, 3), (12, .aload_n 0, 1), (13, .getfield 31, 3), (16, .iload_n 2, 1), (17, .baload, 1), (18, .ifCond .eq 14, 3), (21, .aload_n 0, 1), (22, .iload_n 2, 1), (23, .iload_n 1, 1), (24, .invokevirtual 61, 3), (27, .ifCond .eq 5, 3), (30, .iconst 1, 1), (31, .ireturn, 1), (32, .iinc 2 1, 3), (35, .goto (-31), 3), (38, .iconst 0, 1), (39, .ireturn, 1)] : List (Nat × Instr × Nat)).all (fun q => decide (decode cX1_isStruck q.1 = .ok (q.2.1, q.2.2))) = true := by decide +kernel
theorem dX1_isStruck_0 : decode cX1_isStruck 0 = .ok (.iload_n 1, 1) := all_at dvX1_isStruck_0 0 rfl
theorem dX1_isStruck_1 : decode cX1_isStruck 1 = .ok (.iconst 1, 1) := all_at dvX1_isStruck_0 1 rfl
theorem dX1_isStruck_2 : decode cX1_isStruck 2 = .ok (.iadd, 1) := all_at dvX1_isStruck_0 2 rfl
theorem dX1_isStruck_3 : decode cX1_isStruck 3 = .ok (.istore_n 2, 1) := all_at dvX1_isStruck_0 3 rfl
theorem dX1_isStruck_4 : decode cX1_isStruck 4 = .ok (.iload_n 2, 1) := all_at dvX1_isStruck_0 4 rfl
theorem dX1_isStruck_5 : decode cX1_isStruck 5 = .ok (.aload_n 0, 1) := all_at dvX1_isStruck_0 5 rfl
theorem dX1_isStruck_6 : decode cX1_isStruck 6 = .ok (.getfield 35, 3) := all_at dvX1_isStruck_0 6 rfl
theorem dX1_isStruck_9 : decode cX1_isStruck 9 = .ok (.if_icmp .ge 29, 3) := all_at dvX1_isStruck_0 7 rfl
theorem dX1_isStruck_12 : decode cX1_isStruck 12 = .ok (.aload_n 0, 1) := all_at dvX1_isStruck_0 8 rfl
theorem dX1_isStruck_13 : decode cX1_isStruck 13 = .ok (.getfield 31, 3) := all_at dvX1_isStruck_0 9 rfl
theorem dX1_isStruck_16 : decode cX1_isStruck 16 = .ok (.iload_n 2, 1) := all_at dvX1_isStruck_0 10 rfl
theorem dX1_isStruck_17 : decode cX1_isStruck 17 = .ok (.baload, 1) := all_at dvX1_isStruck_0 11 rfl
theorem dX1_isStruck_18 : decode cX1_isStruck 18 = .ok (.ifCond .eq 14, 3) := all_at dvX1_isStruck_0 12 rfl
theorem dX1_isStruck_21 : decode cX1_isStruck 21 = .ok (.aload_n 0, 1) := all_at dvX1_isStruck_0 13 rfl
theorem dX1_isStruck_22 : decode cX1_isStruck 22 = .ok (.iload_n 2, 1) := all_at dvX1_isStruck_0 14 rfl
theorem dX1_isStruck_23 : decode cX1_isStruck 23 = .ok (.iload_n 1, 1) := all_at dvX1_isStruck_0 15 rfl
theorem dX1_isStruck_24 : decode cX1_isStruck 24 = .ok (.invokevirtual 61, 3) := all_at dvX1_isStruck_0 16 rfl
theorem dX1_isStruck_27 : decode cX1_isStruck 27 = .ok (.ifCond .eq 5, 3) := all_at dvX1_isStruck_0 17 rfl
theorem dX1_isStruck_30 : decode cX1_isStruck 30 = .ok (.iconst 1, 1) := all_at dvX1_isStruck_0 18 rfl
theorem dX1_isStruck_31 : decode cX1_isStruck 31 = .ok (.ireturn, 1) := all_at dvX1_isStruck_0 19 rfl
theorem dX1_isStruck_32 : decode cX1_isStruck 32 = .ok (.iinc 2 1, 3) := all_at dvX1_isStruck_0 20 rfl
theorem dX1_isStruck_35 : decode cX1_isStruck 35 = .ok (.goto (-31), 3) := all_at dvX1_isStruck_0 21 rfl
theorem dX1_isStruck_38 : decode cX1_isStruck 38 = .ok (.iconst 0, 1) := all_at dvX1_isStruck_0 22 rfl
theorem dX1_isStruck_39 : decode cX1_isStruck 39 = .ok (.ireturn, 1) := all_at dvX1_isStruck_0 23 rfl
set_option maxRecDepth 100000 in
theorem dvX1_lastNaming_0 : ([(0, .iconst (-1), 1), (1, .istore 4, 2), (3, .iconst 0, 1), (4, .istore 5, 2), (6, .iload 5, 2), (8, .aload_n 0, 1), (9, .getfield 15, 3), (12, .iload_n 1, 1), (13, .iaload, 1), (14, .if_icmp .ge 60, 3), (17, .iload_n 1, 1), (18, .bipush 12, 2), (20, .imul, 1), (21, .iload 5, 2), (23, .iadd, 1), (24, .istore 6, 2), (26, .aload_n 0, 1), (27, .getfield 18, 3), (30, .iload 6, 2), (32, .iaload, 1), (33, .bipush 6, 2), (35, .if_icmp .ne 33, 3), (38, .aload_n 0, 1), (39, .getfield 21, 3)] : List (Nat × Instr × Nat)).all (fun q => decide (decode cX1_lastNaming q.1 = .ok (q.2.1, q.2.2))) = true := by decide +kernel
theorem dX1_lastNaming_0 : decode cX1_lastNaming 0 = .ok (.iconst (-1), 1) := all_at dvX1_lastNaming_0 0 rfl
theorem dX1_lastNaming_1 : decode cX1_lastNaming 1 = .ok (.istore 4, 2) := all_at dvX1_lastNaming_0 1 rfl
theorem dX1_lastNaming_3 : decode cX1_lastNaming 3 = .ok (.iconst 0, 1) := all_at dvX1_lastNaming_0 2 rfl
theorem dX1_lastNaming_4 : decode cX1_lastNaming 4 = .ok (.istore 5, 2) := all_at dvX1_lastNaming_0 3 rfl
theorem dX1_lastNaming_6 : decode cX1_lastNaming 6 = .ok (.iload 5, 2) := all_at dvX1_lastNaming_0 4 rfl
theorem dX1_lastNaming_8 : decode cX1_lastNaming 8 = .ok (.aload_n 0, 1) := all_at dvX1_lastNaming_0 5 rfl
theorem dX1_lastNaming_9 : decode cX1_lastNaming 9 = .ok (.getfield 15, 3) := all_at dvX1_lastNaming_0 6 rfl
theorem dX1_lastNaming_12 : decode cX1_lastNaming 12 = .ok (.iload_n 1, 1) := all_at dvX1_lastNaming_0 7 rfl
theorem dX1_lastNaming_13 : decode cX1_lastNaming 13 = .ok (.iaload, 1) := all_at dvX1_lastNaming_0 8 rfl
theorem dX1_lastNaming_14 : decode cX1_lastNaming 14 = .ok (.if_icmp .ge 60, 3) := all_at dvX1_lastNaming_0 9 rfl
theorem dX1_lastNaming_17 : decode cX1_lastNaming 17 = .ok (.iload_n 1, 1) := all_at dvX1_lastNaming_0 10 rfl
theorem dX1_lastNaming_18 : decode cX1_lastNaming 18 = .ok (.bipush 12, 2) := all_at dvX1_lastNaming_0 11 rfl
theorem dX1_lastNaming_20 : decode cX1_lastNaming 20 = .ok (.imul, 1) := all_at dvX1_lastNaming_0 12 rfl
theorem dX1_lastNaming_21 : decode cX1_lastNaming 21 = .ok (.iload 5, 2) := all_at dvX1_lastNaming_0 13 rfl
theorem dX1_lastNaming_23 : decode cX1_lastNaming 23 = .ok (.iadd, 1) := all_at dvX1_lastNaming_0 14 rfl
theorem dX1_lastNaming_24 : decode cX1_lastNaming 24 = .ok (.istore 6, 2) := all_at dvX1_lastNaming_0 15 rfl
theorem dX1_lastNaming_26 : decode cX1_lastNaming 26 = .ok (.aload_n 0, 1) := all_at dvX1_lastNaming_0 16 rfl
theorem dX1_lastNaming_27 : decode cX1_lastNaming 27 = .ok (.getfield 18, 3) := all_at dvX1_lastNaming_0 17 rfl
theorem dX1_lastNaming_30 : decode cX1_lastNaming 30 = .ok (.iload 6, 2) := all_at dvX1_lastNaming_0 18 rfl
theorem dX1_lastNaming_32 : decode cX1_lastNaming 32 = .ok (.iaload, 1) := all_at dvX1_lastNaming_0 19 rfl
theorem dX1_lastNaming_33 : decode cX1_lastNaming 33 = .ok (.bipush 6, 2) := all_at dvX1_lastNaming_0 20 rfl
theorem dX1_lastNaming_35 : decode cX1_lastNaming 35 = .ok (.if_icmp .ne 33, 3) := all_at dvX1_lastNaming_0 21 rfl
theorem dX1_lastNaming_38 : decode cX1_lastNaming 38 = .ok (.aload_n 0, 1) := all_at dvX1_lastNaming_0 22 rfl
theorem dX1_lastNaming_39 : decode cX1_lastNaming 39 = .ok (.getfield 21, 3) := all_at dvX1_lastNaming_0 23 rfl
set_option maxRecDepth 100000 in
theorem dvX1_lastNaming_42 : ([(42, .iload 6, 2), (44, .iaload, 1), (45, .iload_n 3, 1), (46, .imul, 1), (47, .iload_n 2, 1), (48, .if_icmp .gt 20, 3), (51, .iload_n 2, 1), (52, .aload_n 0, 1), (53, .getfield 24, 3), (56, .iload 6, 2), (58, .iaload, 1), (59, .iload_n 3, 1), (60, .imul, 1), (61, .if_icmp .ge 7, 3), (64, .iload 5, 2), (66, .istore 4, 2), (68, .iinc 5 1, 3), (71, .goto (-65), 3), (74, .iload 4, 2), (76, .ireturn, 1)] : List (Nat × Instr × Nat)).all (fun q => decide (decode cX1_lastNaming q.1 = .ok (q.2.1, q.2.2))) = true := by decide +kernel
theorem dX1_lastNaming_42 : decode cX1_lastNaming 42 = .ok (.iload 6, 2) := all_at dvX1_lastNaming_42 0 rfl
theorem dX1_lastNaming_44 : decode cX1_lastNaming 44 = .ok (.iaload, 1) := all_at dvX1_lastNaming_42 1 rfl
theorem dX1_lastNaming_45 : decode cX1_lastNaming 45 = .ok (.iload_n 3, 1) := all_at dvX1_lastNaming_42 2 rfl
theorem dX1_lastNaming_46 : decode cX1_lastNaming 46 = .ok (.imul, 1) := all_at dvX1_lastNaming_42 3 rfl
theorem dX1_lastNaming_47 : decode cX1_lastNaming 47 = .ok (.iload_n 2, 1) := all_at dvX1_lastNaming_42 4 rfl
theorem dX1_lastNaming_48 : decode cX1_lastNaming 48 = .ok (.if_icmp .gt 20, 3) := all_at dvX1_lastNaming_42 5 rfl
theorem dX1_lastNaming_51 : decode cX1_lastNaming 51 = .ok (.iload_n 2, 1) := all_at dvX1_lastNaming_42 6 rfl
theorem dX1_lastNaming_52 : decode cX1_lastNaming 52 = .ok (.aload_n 0, 1) := all_at dvX1_lastNaming_42 7 rfl
theorem dX1_lastNaming_53 : decode cX1_lastNaming 53 = .ok (.getfield 24, 3) := all_at dvX1_lastNaming_42 8 rfl
theorem dX1_lastNaming_56 : decode cX1_lastNaming 56 = .ok (.iload 6, 2) := all_at dvX1_lastNaming_42 9 rfl
theorem dX1_lastNaming_58 : decode cX1_lastNaming 58 = .ok (.iaload, 1) := all_at dvX1_lastNaming_42 10 rfl
theorem dX1_lastNaming_59 : decode cX1_lastNaming 59 = .ok (.iload_n 3, 1) := all_at dvX1_lastNaming_42 11 rfl
theorem dX1_lastNaming_60 : decode cX1_lastNaming 60 = .ok (.imul, 1) := all_at dvX1_lastNaming_42 12 rfl
theorem dX1_lastNaming_61 : decode cX1_lastNaming 61 = .ok (.if_icmp .ge 7, 3) := all_at dvX1_lastNaming_42 13 rfl
theorem dX1_lastNaming_64 : decode cX1_lastNaming 64 = .ok (.iload 5, 2) := all_at dvX1_lastNaming_42 14 rfl
theorem dX1_lastNaming_66 : decode cX1_lastNaming 66 = .ok (.istore 4, 2) := all_at dvX1_lastNaming_42 15 rfl
theorem dX1_lastNaming_68 : decode cX1_lastNaming 68 = .ok (.iinc 5 1, 3) := all_at dvX1_lastNaming_42 16 rfl
theorem dX1_lastNaming_71 : decode cX1_lastNaming 71 = .ok (.goto (-65), 3) := all_at dvX1_lastNaming_42 17 rfl
theorem dX1_lastNaming_74 : decode cX1_lastNaming 74 = .ok (.iload 4, 2) := all_at dvX1_lastNaming_42 18 rfl
theorem dX1_lastNaming_76 : decode cX1_lastNaming 76 = .ok (.ireturn, 1) := all_at dvX1_lastNaming_42 19 rfl
set_option maxRecDepth 100000 in
theorem dvX1_lastOf_0 : ([(0, .iconst (-1), 1), (1, .istore_n 3, 1), (2, .iload_n 1, 1), (3, .bipush 12, 2), (5, .imul, 1), (6, .istore 4, 2), (8, .iload 4, 2), (10, .iload_n 1, 1), (11, .bipush 12, 2), (13, .imul, 1), (14, .aload_n 0, 1), (15, .getfield 15, 3), (18, .iload_n 1, 1), (19, .iaload, 1), (20, .iadd, 1), (21, .if_icmp .ge 23, 3), (24, .aload_n 0, 1), (25, .getfield 18, 3), (28, .iload 4, 2), (30, .iaload, 1), (31, .iload_n 2, 1), (32, .if_icmp .ne 6, 3), (35, .iload 4, 2), (37, .istore_n 3, 1)] : List (Nat × Instr × Nat)).all (fun q => decide (decode cX1_lastOf q.1 = .ok (q.2.1, q.2.2))) = true := by decide +kernel
theorem dX1_lastOf_0 : decode cX1_lastOf 0 = .ok (.iconst (-1), 1) := all_at dvX1_lastOf_0 0 rfl
theorem dX1_lastOf_1 : decode cX1_lastOf 1 = .ok (.istore_n 3, 1) := all_at dvX1_lastOf_0 1 rfl
theorem dX1_lastOf_2 : decode cX1_lastOf 2 = .ok (.iload_n 1, 1) := all_at dvX1_lastOf_0 2 rfl
theorem dX1_lastOf_3 : decode cX1_lastOf 3 = .ok (.bipush 12, 2) := all_at dvX1_lastOf_0 3 rfl
theorem dX1_lastOf_5 : decode cX1_lastOf 5 = .ok (.imul, 1) := all_at dvX1_lastOf_0 4 rfl
theorem dX1_lastOf_6 : decode cX1_lastOf 6 = .ok (.istore 4, 2) := all_at dvX1_lastOf_0 5 rfl
theorem dX1_lastOf_8 : decode cX1_lastOf 8 = .ok (.iload 4, 2) := all_at dvX1_lastOf_0 6 rfl
theorem dX1_lastOf_10 : decode cX1_lastOf 10 = .ok (.iload_n 1, 1) := all_at dvX1_lastOf_0 7 rfl
theorem dX1_lastOf_11 : decode cX1_lastOf 11 = .ok (.bipush 12, 2) := all_at dvX1_lastOf_0 8 rfl
theorem dX1_lastOf_13 : decode cX1_lastOf 13 = .ok (.imul, 1) := all_at dvX1_lastOf_0 9 rfl
theorem dX1_lastOf_14 : decode cX1_lastOf 14 = .ok (.aload_n 0, 1) := all_at dvX1_lastOf_0 10 rfl
theorem dX1_lastOf_15 : decode cX1_lastOf 15 = .ok (.getfield 15, 3) := all_at dvX1_lastOf_0 11 rfl
theorem dX1_lastOf_18 : decode cX1_lastOf 18 = .ok (.iload_n 1, 1) := all_at dvX1_lastOf_0 12 rfl
theorem dX1_lastOf_19 : decode cX1_lastOf 19 = .ok (.iaload, 1) := all_at dvX1_lastOf_0 13 rfl
theorem dX1_lastOf_20 : decode cX1_lastOf 20 = .ok (.iadd, 1) := all_at dvX1_lastOf_0 14 rfl
theorem dX1_lastOf_21 : decode cX1_lastOf 21 = .ok (.if_icmp .ge 23, 3) := all_at dvX1_lastOf_0 15 rfl
theorem dX1_lastOf_24 : decode cX1_lastOf 24 = .ok (.aload_n 0, 1) := all_at dvX1_lastOf_0 16 rfl
theorem dX1_lastOf_25 : decode cX1_lastOf 25 = .ok (.getfield 18, 3) := all_at dvX1_lastOf_0 17 rfl
theorem dX1_lastOf_28 : decode cX1_lastOf 28 = .ok (.iload 4, 2) := all_at dvX1_lastOf_0 18 rfl
theorem dX1_lastOf_30 : decode cX1_lastOf 30 = .ok (.iaload, 1) := all_at dvX1_lastOf_0 19 rfl
theorem dX1_lastOf_31 : decode cX1_lastOf 31 = .ok (.iload_n 2, 1) := all_at dvX1_lastOf_0 20 rfl
theorem dX1_lastOf_32 : decode cX1_lastOf 32 = .ok (.if_icmp .ne 6, 3) := all_at dvX1_lastOf_0 21 rfl
theorem dX1_lastOf_35 : decode cX1_lastOf 35 = .ok (.iload 4, 2) := all_at dvX1_lastOf_0 22 rfl
theorem dX1_lastOf_37 : decode cX1_lastOf 37 = .ok (.istore_n 3, 1) := all_at dvX1_lastOf_0 23 rfl
set_option maxRecDepth 100000 in
theorem dvX1_lastOf_38 : ([(38, .iinc 4 1, 3), (41, .goto (-33), 3), (44, .iload_n 3, 1), (45, .ireturn, 1)] : List (Nat × Instr × Nat)).all (fun q => decide (decode cX1_lastOf q.1 = .ok (q.2.1, q.2.2))) = true := by decide +kernel
theorem dX1_lastOf_38 : decode cX1_lastOf 38 = .ok (.iinc 4 1, 3) := all_at dvX1_lastOf_38 0 rfl
theorem dX1_lastOf_41 : decode cX1_lastOf 41 = .ok (.goto (-33), 3) := all_at dvX1_lastOf_38 1 rfl
theorem dX1_lastOf_44 : decode cX1_lastOf 44 = .ok (.iload_n 3, 1) := all_at dvX1_lastOf_38 2 rfl
theorem dX1_lastOf_45 : decode cX1_lastOf 45 = .ok (.ireturn, 1) := all_at dvX1_lastOf_38 3 rfl
set_option maxRecDepth 100000 in
theorem dvX1_naming_0 : ([(0, .aload_n 0, 1), (1, .iload_n 3, 1), (2, .invokevirtual 42, 3), (5, .iconst (-1), 1), (6, .istore 4, 2), (8, .iconst (-1), 1), (9, .istore 5, 2), (11, .iconst 0, 1), (12, .istore 6, 2), (14, .iload 6, 2), (16, .aload_n 0, 1), (17, .getfield 35, 3), (20, .if_icmp .ge 66, 3), (23, .aload_n 0, 1), (24, .iload 6, 2), (26, .iload_n 1, 1), (27, .iload_n 2, 1), (28, .invokevirtual 53, 3), (31, .istore 7, 2), (33, .aload_n 0, 1), (34, .getfield 31, 3), (37, .iload 6, 2), (39, .baload, 1), (40, .ifCond .eq 40, 3)] : List (Nat × Instr × Nat)).all (fun q => decide (decode cX1_naming q.1 = .ok (q.2.1, q.2.2))) = true := by decide +kernel
theorem dX1_naming_0 : decode cX1_naming 0 = .ok (.aload_n 0, 1) := all_at dvX1_naming_0 0 rfl
theorem dX1_naming_1 : decode cX1_naming 1 = .ok (.iload_n 3, 1) := all_at dvX1_naming_0 1 rfl
theorem dX1_naming_2 : decode cX1_naming 2 = .ok (.invokevirtual 42, 3) := all_at dvX1_naming_0 2 rfl
theorem dX1_naming_5 : decode cX1_naming 5 = .ok (.iconst (-1), 1) := all_at dvX1_naming_0 3 rfl
theorem dX1_naming_6 : decode cX1_naming 6 = .ok (.istore 4, 2) := all_at dvX1_naming_0 4 rfl
theorem dX1_naming_8 : decode cX1_naming 8 = .ok (.iconst (-1), 1) := all_at dvX1_naming_0 5 rfl
theorem dX1_naming_9 : decode cX1_naming 9 = .ok (.istore 5, 2) := all_at dvX1_naming_0 6 rfl
theorem dX1_naming_11 : decode cX1_naming 11 = .ok (.iconst 0, 1) := all_at dvX1_naming_0 7 rfl
theorem dX1_naming_12 : decode cX1_naming 12 = .ok (.istore 6, 2) := all_at dvX1_naming_0 8 rfl
theorem dX1_naming_14 : decode cX1_naming 14 = .ok (.iload 6, 2) := all_at dvX1_naming_0 9 rfl
theorem dX1_naming_16 : decode cX1_naming 16 = .ok (.aload_n 0, 1) := all_at dvX1_naming_0 10 rfl
theorem dX1_naming_17 : decode cX1_naming 17 = .ok (.getfield 35, 3) := all_at dvX1_naming_0 11 rfl
theorem dX1_naming_20 : decode cX1_naming 20 = .ok (.if_icmp .ge 66, 3) := all_at dvX1_naming_0 12 rfl
theorem dX1_naming_23 : decode cX1_naming 23 = .ok (.aload_n 0, 1) := all_at dvX1_naming_0 13 rfl
theorem dX1_naming_24 : decode cX1_naming 24 = .ok (.iload 6, 2) := all_at dvX1_naming_0 14 rfl
theorem dX1_naming_26 : decode cX1_naming 26 = .ok (.iload_n 1, 1) := all_at dvX1_naming_0 15 rfl
theorem dX1_naming_27 : decode cX1_naming 27 = .ok (.iload_n 2, 1) := all_at dvX1_naming_0 16 rfl
theorem dX1_naming_28 : decode cX1_naming 28 = .ok (.invokevirtual 53, 3) := all_at dvX1_naming_0 17 rfl
theorem dX1_naming_31 : decode cX1_naming 31 = .ok (.istore 7, 2) := all_at dvX1_naming_0 18 rfl
theorem dX1_naming_33 : decode cX1_naming 33 = .ok (.aload_n 0, 1) := all_at dvX1_naming_0 19 rfl
theorem dX1_naming_34 : decode cX1_naming 34 = .ok (.getfield 31, 3) := all_at dvX1_naming_0 20 rfl
theorem dX1_naming_37 : decode cX1_naming 37 = .ok (.iload 6, 2) := all_at dvX1_naming_0 21 rfl
theorem dX1_naming_39 : decode cX1_naming 39 = .ok (.baload, 1) := all_at dvX1_naming_0 22 rfl
theorem dX1_naming_40 : decode cX1_naming 40 = .ok (.ifCond .eq 40, 3) := all_at dvX1_naming_0 23 rfl
set_option maxRecDepth 100000 in
theorem dvX1_naming_43 : ([(43, .iload 7, 2), (45, .iconst (-1), 1), (46, .if_icmp .eq 34, 3), (49, .aload_n 0, 1), (50, .getfield 11, 3), (53, .iload 6, 2), (55, .iaload, 1), (56, .iload 5, 2), (58, .if_icmp .lt 22, 3), (61, .iload 6, 2), (63, .bipush 100, 2), (65, .imul, 1), (66, .iload 7, 2), (68, .iadd, 1), (69, .istore 4, 2), (71, .aload_n 0, 1), (72, .getfield 11, 3), (75, .iload 6, 2), (77, .iaload, 1), (78, .istore 5, 2), (80, .iinc 6 1, 3), (83, .goto (-69), 3), (86, .iload 4, 2), (88, .ireturn, 1)] : List (Nat × Instr × Nat)).all (fun q => decide (decode cX1_naming q.1 = .ok (q.2.1, q.2.2))) = true := by decide +kernel
theorem dX1_naming_43 : decode cX1_naming 43 = .ok (.iload 7, 2) := all_at dvX1_naming_43 0 rfl
theorem dX1_naming_45 : decode cX1_naming 45 = .ok (.iconst (-1), 1) := all_at dvX1_naming_43 1 rfl
theorem dX1_naming_46 : decode cX1_naming 46 = .ok (.if_icmp .eq 34, 3) := all_at dvX1_naming_43 2 rfl
theorem dX1_naming_49 : decode cX1_naming 49 = .ok (.aload_n 0, 1) := all_at dvX1_naming_43 3 rfl
theorem dX1_naming_50 : decode cX1_naming 50 = .ok (.getfield 11, 3) := all_at dvX1_naming_43 4 rfl
theorem dX1_naming_53 : decode cX1_naming 53 = .ok (.iload 6, 2) := all_at dvX1_naming_43 5 rfl
theorem dX1_naming_55 : decode cX1_naming 55 = .ok (.iaload, 1) := all_at dvX1_naming_43 6 rfl
theorem dX1_naming_56 : decode cX1_naming 56 = .ok (.iload 5, 2) := all_at dvX1_naming_43 7 rfl
theorem dX1_naming_58 : decode cX1_naming 58 = .ok (.if_icmp .lt 22, 3) := all_at dvX1_naming_43 8 rfl
theorem dX1_naming_61 : decode cX1_naming 61 = .ok (.iload 6, 2) := all_at dvX1_naming_43 9 rfl
theorem dX1_naming_63 : decode cX1_naming 63 = .ok (.bipush 100, 2) := all_at dvX1_naming_43 10 rfl
theorem dX1_naming_65 : decode cX1_naming 65 = .ok (.imul, 1) := all_at dvX1_naming_43 11 rfl
theorem dX1_naming_66 : decode cX1_naming 66 = .ok (.iload 7, 2) := all_at dvX1_naming_43 12 rfl
theorem dX1_naming_68 : decode cX1_naming 68 = .ok (.iadd, 1) := all_at dvX1_naming_43 13 rfl
theorem dX1_naming_69 : decode cX1_naming 69 = .ok (.istore 4, 2) := all_at dvX1_naming_43 14 rfl
theorem dX1_naming_71 : decode cX1_naming 71 = .ok (.aload_n 0, 1) := all_at dvX1_naming_43 15 rfl
theorem dX1_naming_72 : decode cX1_naming 72 = .ok (.getfield 11, 3) := all_at dvX1_naming_43 16 rfl
theorem dX1_naming_75 : decode cX1_naming 75 = .ok (.iload 6, 2) := all_at dvX1_naming_43 17 rfl
theorem dX1_naming_77 : decode cX1_naming 77 = .ok (.iaload, 1) := all_at dvX1_naming_43 18 rfl
theorem dX1_naming_78 : decode cX1_naming 78 = .ok (.istore 5, 2) := all_at dvX1_naming_43 19 rfl
theorem dX1_naming_80 : decode cX1_naming 80 = .ok (.iinc 6 1, 3) := all_at dvX1_naming_43 20 rfl
theorem dX1_naming_83 : decode cX1_naming 83 = .ok (.goto (-69), 3) := all_at dvX1_naming_43 21 rfl
theorem dX1_naming_86 : decode cX1_naming 86 = .ok (.iload 4, 2) := all_at dvX1_naming_43 22 rfl
theorem dX1_naming_88 : decode cX1_naming 88 = .ok (.ireturn, 1) := all_at dvX1_naming_43 23 rfl
set_option maxRecDepth 100000 in
theorem dvX1_startDraft_0 : ([(0, .aload_n 0, 1), (1, .iconst 0, 1), (2, .putfield 39, 3), (5, .return_, 1)] : List (Nat × Instr × Nat)).all (fun q => decide (decode cX1_startDraft q.1 = .ok (q.2.1, q.2.2))) = true := by decide +kernel
theorem dX1_startDraft_0 : decode cX1_startDraft 0 = .ok (.aload_n 0, 1) := all_at dvX1_startDraft_0 0 rfl
theorem dX1_startDraft_1 : decode cX1_startDraft 1 = .ok (.iconst 0, 1) := all_at dvX1_startDraft_0 1 rfl
theorem dX1_startDraft_2 : decode cX1_startDraft 2 = .ok (.putfield 39, 3) := all_at dvX1_startDraft_0 2 rfl
theorem dX1_startDraft_5 : decode cX1_startDraft 5 = .ok (.return_, 1) := all_at dvX1_startDraft_0 3 rfl
set_option maxRecDepth 100000 in
theorem dvX1_strikes_0 : ([(0, .iload_n 1, 1), (1, .bipush 12, 2), (3, .imul, 1), (4, .istore_n 3, 1), (5, .iload_n 3, 1), (6, .iload_n 1, 1), (7, .bipush 12, 2), (9, .imul, 1), (10, .aload_n 0, 1), (11, .getfield 15, 3), (14, .iload_n 1, 1), (15, .iaload, 1), (16, .iadd, 1), (17, .if_icmp .ge 32, 3), (20, .aload_n 0, 1), (21, .getfield 18, 3), (24, .iload_n 3, 1), (25, .iaload, 1), (26, .bipush 7, 2), (28, .if_icmp .ne 15, 3), (31, .aload_n 0, 1), (32, .getfield 21, 3), (35, .iload_n 3, 1), (36, .iaload, 1)] : List (Nat × Instr × Nat)).all (fun q => decide (decode cX1_strikes q.1 = .ok (q.2.1, q.2.2))) = true := by decide +kernel
theorem dX1_strikes_0 : decode cX1_strikes 0 = .ok (.iload_n 1, 1) := all_at dvX1_strikes_0 0 rfl
theorem dX1_strikes_1 : decode cX1_strikes 1 = .ok (.bipush 12, 2) := all_at dvX1_strikes_0 1 rfl
theorem dX1_strikes_3 : decode cX1_strikes 3 = .ok (.imul, 1) := all_at dvX1_strikes_0 2 rfl
theorem dX1_strikes_4 : decode cX1_strikes 4 = .ok (.istore_n 3, 1) := all_at dvX1_strikes_0 3 rfl
theorem dX1_strikes_5 : decode cX1_strikes 5 = .ok (.iload_n 3, 1) := all_at dvX1_strikes_0 4 rfl
theorem dX1_strikes_6 : decode cX1_strikes 6 = .ok (.iload_n 1, 1) := all_at dvX1_strikes_0 5 rfl
theorem dX1_strikes_7 : decode cX1_strikes 7 = .ok (.bipush 12, 2) := all_at dvX1_strikes_0 6 rfl
theorem dX1_strikes_9 : decode cX1_strikes 9 = .ok (.imul, 1) := all_at dvX1_strikes_0 7 rfl
theorem dX1_strikes_10 : decode cX1_strikes 10 = .ok (.aload_n 0, 1) := all_at dvX1_strikes_0 8 rfl
theorem dX1_strikes_11 : decode cX1_strikes 11 = .ok (.getfield 15, 3) := all_at dvX1_strikes_0 9 rfl
theorem dX1_strikes_14 : decode cX1_strikes 14 = .ok (.iload_n 1, 1) := all_at dvX1_strikes_0 10 rfl
theorem dX1_strikes_15 : decode cX1_strikes 15 = .ok (.iaload, 1) := all_at dvX1_strikes_0 11 rfl
theorem dX1_strikes_16 : decode cX1_strikes 16 = .ok (.iadd, 1) := all_at dvX1_strikes_0 12 rfl
theorem dX1_strikes_17 : decode cX1_strikes 17 = .ok (.if_icmp .ge 32, 3) := all_at dvX1_strikes_0 13 rfl
theorem dX1_strikes_20 : decode cX1_strikes 20 = .ok (.aload_n 0, 1) := all_at dvX1_strikes_0 14 rfl
theorem dX1_strikes_21 : decode cX1_strikes 21 = .ok (.getfield 18, 3) := all_at dvX1_strikes_0 15 rfl
theorem dX1_strikes_24 : decode cX1_strikes 24 = .ok (.iload_n 3, 1) := all_at dvX1_strikes_0 16 rfl
theorem dX1_strikes_25 : decode cX1_strikes 25 = .ok (.iaload, 1) := all_at dvX1_strikes_0 17 rfl
theorem dX1_strikes_26 : decode cX1_strikes 26 = .ok (.bipush 7, 2) := all_at dvX1_strikes_0 18 rfl
theorem dX1_strikes_28 : decode cX1_strikes 28 = .ok (.if_icmp .ne 15, 3) := all_at dvX1_strikes_0 19 rfl
theorem dX1_strikes_31 : decode cX1_strikes 31 = .ok (.aload_n 0, 1) := all_at dvX1_strikes_0 20 rfl
theorem dX1_strikes_32 : decode cX1_strikes 32 = .ok (.getfield 21, 3) := all_at dvX1_strikes_0 21 rfl
theorem dX1_strikes_35 : decode cX1_strikes 35 = .ok (.iload_n 3, 1) := all_at dvX1_strikes_0 22 rfl
theorem dX1_strikes_36 : decode cX1_strikes 36 = .ok (.iaload, 1) := all_at dvX1_strikes_0 23 rfl
set_option maxRecDepth 100000 in
theorem dvX1_strikes_37 : ([(37, .iload_n 2, 1), (38, .if_icmp .ne 5, 3), (41, .iconst 1, 1), (42, .ireturn, 1), (43, .iinc 3 1, 3), (46, .goto (-41), 3), (49, .iconst 0, 1), (50, .ireturn, 1)] : List (Nat × Instr × Nat)).all (fun q => decide (decode cX1_strikes q.1 = .ok (q.2.1, q.2.2))) = true := by decide +kernel
theorem dX1_strikes_37 : decode cX1_strikes 37 = .ok (.iload_n 2, 1) := all_at dvX1_strikes_37 0 rfl
theorem dX1_strikes_38 : decode cX1_strikes 38 = .ok (.if_icmp .ne 5, 3) := all_at dvX1_strikes_37 1 rfl
theorem dX1_strikes_41 : decode cX1_strikes 41 = .ok (.iconst 1, 1) := all_at dvX1_strikes_37 2 rfl
theorem dX1_strikes_42 : decode cX1_strikes 42 = .ok (.ireturn, 1) := all_at dvX1_strikes_37 3 rfl
theorem dX1_strikes_43 : decode cX1_strikes 43 = .ok (.iinc 3 1, 3) := all_at dvX1_strikes_37 4 rfl
theorem dX1_strikes_46 : decode cX1_strikes 46 = .ok (.goto (-41), 3) := all_at dvX1_strikes_37 5 rfl
theorem dX1_strikes_49 : decode cX1_strikes 49 = .ok (.iconst 0, 1) := all_at dvX1_strikes_37 6 rfl
theorem dX1_strikes_50 : decode cX1_strikes 50 = .ok (.ireturn, 1) := all_at dvX1_strikes_37 7 rfl
set_option maxHeartbeats 4000000 in
set_option maxRecDepth 100000 in
/-- X1_lastOf -/
theorem c_X1_lastOf (l : Launch) (dC : Nat → ClassId) (dI : Nat → Nat → Nat) (h : Nat) (g : Nat → Nat → Nat) (ca : Nat → Nat → ClassId) (iv : Nat → Nat → Int32) (lv : Nat → Nat → Int64) (fa : Nat → Nat → Nat → Int32) (la : Nat → Nat → Nat → Int64) (hI : IX iv fa) (a : Int32) (b : Int32) (h_a : 0 ≤ a.toInt ∧ a.toInt ≤ 7) : Met l yX1_lastOf (wc yX1_lastOf cX1_lastOf 5 (some .int)) ({ frames := 0, cells := 0, slots := 0, locals := 0 } : Room) (pR (dC, dI) classes (WX h g ca iv lv fa la) (TX ca) [.ref (g 11 3), .int a, .int b]) (vp_Si (fun r => (-1) ≤ r.toInt ∧ r.toInt ≤ 95)) 0 0 (fun _ => False) := by
  refine Met.ofW (cc := cX1_lastOf) (maxL := 5) (ret := (some .int)) (by decide) rfl ?_
  intro p e s m args below meth c s₁ B hml hv
  obtain ⟨rfl, hP, hK⟩ := hv
  have hx := B.exec
  have hb := B.bytes
  have hr := B.returns
  have ht := tb_tl (atoms_spec (ws := wc yX1_lastOf cX1_lastOf 5 (some .int)) B.pre)
  have hown : s.vm.findClass RX1 = some m.cls := findClass_of_methodNamed B.named
  have hlocks := B.notSynchronized
  have hl := lv_entry [.ref (g 11 3), .int a, .int b] (n := 5) (Nat.le_of_ble_eq_true rfl)
  rw [lg_entry_eq]
  generalize (lg_sl [.ref (g 11 3), .int a, .int b] ++ List.replicate (5 - (lg_sl [.ref (g 11 3), .int a, .int b]).length) Slot.unset).toArray = ls at hl ⊢
  have hl : lv_has ls 5 [(0, .ref (g 11 3)), (1, .int a), (2, .int b)] := hl
  refine lv_iconst (v := (-1)) hx hb dX1_lastOf_0 (by decide) ?_
  refine lv_istore_n (lv' := [(3, .int (-1)), (0, .ref (g 11 3)), (1, .int a), (2, .int b)]) hx hb dX1_lastOf_1 rfl hl (by decide) rfl (fun ls hl => ?_)
  refine lv_iload_n hx hb dX1_lastOf_2 rfl (lv_at hl 2 rfl) ?_
  refine lv_bipush (v := 12) hx hb dX1_lastOf_3 (by decide) ?_
  refine lv_imul hx hb dX1_lastOf_5 ?_
  refine lv_topi (fun v1 ev1 => ?_)
  have tv1 := z_mul ev1 (rfl : (a).toInt = _) (by decide : (12 : Int32).toInt = 12) (by omega) (by omega)
  refine lv_istore (lv' := [(4, .int v1), (3, .int (-1)), (0, .ref (g 11 3)), (1, .int a), (2, .int b)]) hx hb dX1_lastOf_6 hl (by decide) rfl (fun ls hl => ?_)
  have lp30 : ∀ (nn30 : Nat) (x29_4 : Int32) (x29_3 : Int32), 0 ≤ x29_4.toInt ∧ x29_4.toInt ≤ 96 → (-1) ≤ x29_3.toInt ∧ x29_3.toInt ≤ 95 → 96 - x29_4.toInt < (nn30 : Int) → ∀ (ls : Array Slot), lv_has ls 5 [(4, .int x29_4), (3, .int x29_3), (0, .ref (g 11 3)), (1, .int a), (2, .int b)] → W p l e ({ frames := 0, cells := 0, slots := 0, locals := 0 } : Room) s m ([.ref (g 11 3), .int a, .int b] : List Value).toArray below meth c s.heap [] 0 0 (MQ below (vp_Si (fun r => (-1) ≤ r.toInt ∧ r.toInt ≤ 95)) ([.ref (g 11 3), .int a, .int b] : List Value).toArray s 0 0 (fun _ => False)) (F0 m 8 ls []) := by
    intro nn30
    induction nn30 with
    | zero => intro x29_4 x29_3 hx29_4 hx29_3 hm30; exfalso; omega
    | succ nn30 ih30 =>
      intro x29_4 x29_3 hx29_4 hx29_3 hm30 ls hl
      refine lv_iload hx hb dX1_lastOf_8 (lv_at hl 0 rfl) ?_
      refine lv_iload_n hx hb dX1_lastOf_10 rfl (lv_at hl 3 rfl) ?_
      refine lv_bipush (v := 12) hx hb dX1_lastOf_11 (by decide) ?_
      refine lv_imul hx hb dX1_lastOf_13 ?_
      refine lv_topi (fun v31 ev31 => ?_)
      obtain rfl : v1 = v31 := ev1.trans ev31.symm
      refine lv_aload_n hx hb dX1_lastOf_14 rfl (lv_at hl 2 rfl) ?_
      refine gX_1_1 hx hb ht hown hK hP m_190 dX1_lastOf_15 ?_
      refine lv_iload_n hx hb dX1_lastOf_18 rfl (lv_at hl 3 rfl) ?_
      refine lX_1_1 hx hb hK hP (f := (fa 1 1)) rfl (vp_in_iff.mpr ⟨by omega, by omega⟩) dX1_lastOf_19 ?_
      refine lv_topi (fun v32 ev32 => ?_)
      have tv32 : 0 ≤ v32.toInt ∧ v32.toInt ≤ 12 := by rw [ev32]; exact hI.2 1 1 _
      refine lv_iadd hx hb dX1_lastOf_20 ?_
      refine lv_topi (fun v33 ev33 => ?_)
      have tv33 := z_add ev33 (rfl : (v1).toInt = _) (rfl : (v32).toInt = _) (by omega) (by omega)
      refine lv_icmp_ge (tgt := 44) hx hb dX1_lastOf_21 (by decide) (fun c34 => ?_) (fun c34 => ?_)
      · have fc34 := z_le (rfl : (v33).toInt = _) (rfl : (x29_4).toInt = _) c34
        refine lv_iload_n hx hb dX1_lastOf_44 rfl (lv_at hl 1 rfl) ?_
        exact W.iret (v := x29_3) hx hb hr (fun t ht9 hW => ⟨x29_3, rfl, ⟨by omega, by omega⟩, ht9⟩) (fun q hq => by cases hq) dX1_lastOf_45
      · have fc34 := z_nle (rfl : (v33).toInt = _) (rfl : (x29_4).toInt = _) c34
        refine lv_aload_n hx hb dX1_lastOf_24 rfl (lv_at hl 2 rfl) ?_
        refine gX_1_2 hx hb ht hown hK hP m_191 dX1_lastOf_25 ?_
        refine lv_iload hx hb dX1_lastOf_28 (lv_at hl 0 rfl) ?_
        refine lX_1_2 hx hb hK hP (f := (fa 1 2)) rfl (vp_in_iff.mpr ⟨by omega, by omega⟩) dX1_lastOf_30 ?_
        refine lv_topi (fun v35 ev35 => ?_)
        refine lv_iload_n hx hb dX1_lastOf_31 rfl (lv_at hl 4 rfl) ?_
        refine lv_icmp_ne (tgt := 38) hx hb dX1_lastOf_32 (by decide) (fun c36 => ?_) (fun c36 => ?_)
        · have fc36 := z_ne (rfl : (v35).toInt = _) (rfl : (b).toInt = _) c36
          obtain ⟨v37, ev37⟩ : ∃ y : Int32, y = x29_4 + 1 := ⟨_, rfl⟩
          have tv37 := z_add ev37 rfl (by decide : (1 : Int32).toInt = 1) (by omega) (by omega)
          refine lv_iinc (v := v37) (lv' := [(4, .int v37), (3, .int x29_3), (0, .ref (g 11 3)), (1, .int a), (2, .int b)]) hx hb dX1_lastOf_38 hl (k := 0) rfl (by rw [ev37]; rfl) (by decide) rfl (fun ls hl => ?_)
          refine lv_goto (tgt := 8) hx hb dX1_lastOf_41 (by decide) ?_
          exact ih30 v37 x29_3 ⟨by omega, by omega⟩ ⟨by omega, by omega⟩ (by omega) ls (lv_sub hl [0, 1, 2, 3, 4] rfl)
        · have fc36 := z_eq (rfl : (v35).toInt = _) (rfl : (b).toInt = _) c36
          refine lv_iload hx hb dX1_lastOf_35 (lv_at hl 0 rfl) ?_
          refine lv_istore_n (lv' := [(3, .int x29_4), (4, .int x29_4), (0, .ref (g 11 3)), (1, .int a), (2, .int b)]) hx hb dX1_lastOf_37 rfl hl (by decide) rfl (fun ls hl => ?_)
          obtain ⟨v38, ev38⟩ : ∃ y : Int32, y = x29_4 + 1 := ⟨_, rfl⟩
          have tv38 := z_add ev38 rfl (by decide : (1 : Int32).toInt = 1) (by omega) (by omega)
          refine lv_iinc (v := v38) (lv' := [(4, .int v38), (3, .int x29_4), (0, .ref (g 11 3)), (1, .int a), (2, .int b)]) hx hb dX1_lastOf_38 hl (k := 1) rfl (by rw [ev38]; rfl) (by decide) rfl (fun ls hl => ?_)
          refine lv_goto (tgt := 8) hx hb dX1_lastOf_41 (by decide) ?_
          exact ih30 v38 x29_4 ⟨by omega, by omega⟩ ⟨by omega, by omega⟩ (by omega) ls (lv_sub hl [0, 1, 2, 3, 4] rfl)
  exact lp30 97 v1 (-1) ⟨by omega, by omega⟩ ⟨by decide, by decide⟩ (by first | decide | omega) ls (lv_sub hl [0, 1, 2, 3, 4] rfl)
set_option maxHeartbeats 4000000 in
set_option maxRecDepth 100000 in
/-- X1_lastNaming -/
theorem c_X1_lastNaming (l : Launch) (dC : Nat → ClassId) (dI : Nat → Nat → Nat) (h : Nat) (g : Nat → Nat → Nat) (ca : Nat → Nat → ClassId) (iv : Nat → Nat → Int32) (lv : Nat → Nat → Int64) (fa : Nat → Nat → Nat → Int32) (la : Nat → Nat → Nat → Int64) (hI : IX iv fa) (a : Int32) (b : Int32) (d : Int32) (h_a : 0 ≤ a.toInt ∧ a.toInt ≤ 7) : Met l yX1_lastNaming (wc yX1_lastNaming cX1_lastNaming 7 (some .int)) ({ frames := 0, cells := 0, slots := 0, locals := 0 } : Room) (pR (dC, dI) classes (WX h g ca iv lv fa la) (TX ca) [.ref (g 11 3), .int a, .int b, .int d]) (vp_Si (fun r => (-1) ≤ r.toInt ∧ r.toInt ≤ 11)) 0 0 (fun _ => False) := by
  refine Met.ofW (cc := cX1_lastNaming) (maxL := 7) (ret := (some .int)) (by decide) rfl ?_
  intro p e s m args below meth c s₁ B hml hv
  obtain ⟨rfl, hP, hK⟩ := hv
  have hx := B.exec
  have hb := B.bytes
  have hr := B.returns
  have ht := tb_tl (atoms_spec (ws := wc yX1_lastNaming cX1_lastNaming 7 (some .int)) B.pre)
  have hown : s.vm.findClass RX1 = some m.cls := findClass_of_methodNamed B.named
  have hlocks := B.notSynchronized
  have hl := lv_entry [.ref (g 11 3), .int a, .int b, .int d] (n := 7) (Nat.le_of_ble_eq_true rfl)
  rw [lg_entry_eq]
  generalize (lg_sl [.ref (g 11 3), .int a, .int b, .int d] ++ List.replicate (7 - (lg_sl [.ref (g 11 3), .int a, .int b, .int d]).length) Slot.unset).toArray = ls at hl ⊢
  have hl : lv_has ls 7 [(0, .ref (g 11 3)), (1, .int a), (2, .int b), (3, .int d)] := hl
  refine lv_iconst (v := (-1)) hx hb dX1_lastNaming_0 (by decide) ?_
  refine lv_istore (lv' := [(4, .int (-1)), (0, .ref (g 11 3)), (1, .int a), (2, .int b), (3, .int d)]) hx hb dX1_lastNaming_1 hl (by decide) rfl (fun ls hl => ?_)
  refine lv_iconst (v := 0) hx hb dX1_lastNaming_3 (by decide) ?_
  refine lv_istore (lv' := [(5, .int 0), (4, .int (-1)), (0, .ref (g 11 3)), (1, .int a), (2, .int b), (3, .int d)]) hx hb dX1_lastNaming_4 hl (by decide) rfl (fun ls hl => ?_)
  have lp223 : ∀ (nn223 : Nat) (x222_5 : Int32) (x222_4 : Int32), 0 ≤ x222_5.toInt ∧ x222_5.toInt ≤ 12 → (-1) ≤ x222_4.toInt ∧ x222_4.toInt ≤ 11 → 12 - x222_5.toInt < (nn223 : Int) → ∀ (ls : Array Slot), lv_has ls 7 [(5, .int x222_5), (4, .int x222_4), (0, .ref (g 11 3)), (1, .int a), (2, .int b), (3, .int d)] → W p l e ({ frames := 0, cells := 0, slots := 0, locals := 0 } : Room) s m ([.ref (g 11 3), .int a, .int b, .int d] : List Value).toArray below meth c s.heap [] 0 0 (MQ below (vp_Si (fun r => (-1) ≤ r.toInt ∧ r.toInt ≤ 11)) ([.ref (g 11 3), .int a, .int b, .int d] : List Value).toArray s 0 0 (fun _ => False)) (F0 m 6 ls []) := by
    intro nn223
    induction nn223 with
    | zero => intro x222_5 x222_4 hx222_5 hx222_4 hm223; exfalso; omega
    | succ nn223 ih223 =>
      intro x222_5 x222_4 hx222_5 hx222_4 hm223 ls hl
      refine lv_iload hx hb dX1_lastNaming_6 (lv_at hl 0 rfl) ?_
      refine lv_aload_n hx hb dX1_lastNaming_8 rfl (lv_at hl 2 rfl) ?_
      refine gX_1_1 hx hb ht hown hK hP m_190 dX1_lastNaming_9 ?_
      refine lv_iload_n hx hb dX1_lastNaming_12 rfl (lv_at hl 3 rfl) ?_
      refine lX_1_1 hx hb hK hP (f := (fa 1 1)) rfl (vp_in_iff.mpr ⟨by omega, by omega⟩) dX1_lastNaming_13 ?_
      refine lv_topi (fun v224 ev224 => ?_)
      have tv224 : 0 ≤ v224.toInt ∧ v224.toInt ≤ 12 := by rw [ev224]; exact hI.2 1 1 _
      refine lv_icmp_ge (tgt := 74) hx hb dX1_lastNaming_14 (by decide) (fun c225 => ?_) (fun c225 => ?_)
      · have fc225 := z_le (rfl : (v224).toInt = _) (rfl : (x222_5).toInt = _) c225
        refine lv_iload hx hb dX1_lastNaming_74 (lv_at hl 1 rfl) ?_
        exact W.iret (v := x222_4) hx hb hr (fun t ht9 hW => ⟨x222_4, rfl, ⟨by omega, by omega⟩, ht9⟩) (fun q hq => by cases hq) dX1_lastNaming_76
      · have fc225 := z_nle (rfl : (v224).toInt = _) (rfl : (x222_5).toInt = _) c225
        refine lv_iload_n hx hb dX1_lastNaming_17 rfl (lv_at hl 3 rfl) ?_
        refine lv_bipush (v := 12) hx hb dX1_lastNaming_18 (by decide) ?_
        refine lv_imul hx hb dX1_lastNaming_20 ?_
        refine lv_topi (fun v226 ev226 => ?_)
        have tv226 := z_mul ev226 (rfl : (a).toInt = _) (by decide : (12 : Int32).toInt = 12) (by omega) (by omega)
        refine lv_iload hx hb dX1_lastNaming_21 (lv_at hl 0 rfl) ?_
        refine lv_iadd hx hb dX1_lastNaming_23 ?_
        refine lv_topi (fun v227 ev227 => ?_)
        have tv227 := z_add ev227 (rfl : (v226).toInt = _) (rfl : (x222_5).toInt = _) (by omega) (by omega)
        refine lv_istore (lv' := [(6, .int v227), (5, .int x222_5), (4, .int x222_4), (0, .ref (g 11 3)), (1, .int a), (2, .int b), (3, .int d)]) hx hb dX1_lastNaming_24 hl (by decide) rfl (fun ls hl => ?_)
        refine lv_aload_n hx hb dX1_lastNaming_26 rfl (lv_at hl 3 rfl) ?_
        refine gX_1_2 hx hb ht hown hK hP m_191 dX1_lastNaming_27 ?_
        refine lv_iload hx hb dX1_lastNaming_30 (lv_at hl 0 rfl) ?_
        refine lX_1_2 hx hb hK hP (f := (fa 1 2)) rfl (vp_in_iff.mpr ⟨by omega, by omega⟩) dX1_lastNaming_32 ?_
        refine lv_topi (fun v228 ev228 => ?_)
        refine lv_bipush (v := 6) hx hb dX1_lastNaming_33 (by decide) ?_
        refine lv_icmp_ne (tgt := 68) hx hb dX1_lastNaming_35 (by decide) (fun c229 => ?_) (fun c229 => ?_)
        · have fc229 := z_ne (rfl : (v228).toInt = _) (by decide : (6 : Int32).toInt = 6) c229
          obtain ⟨v230, ev230⟩ : ∃ y : Int32, y = x222_5 + 1 := ⟨_, rfl⟩
          have tv230 := z_add ev230 rfl (by decide : (1 : Int32).toInt = 1) (by omega) (by omega)
          refine lv_iinc (v := v230) (lv' := [(5, .int v230), (6, .int v227), (4, .int x222_4), (0, .ref (g 11 3)), (1, .int a), (2, .int b), (3, .int d)]) hx hb dX1_lastNaming_68 hl (k := 1) rfl (by rw [ev230]; rfl) (by decide) rfl (fun ls hl => ?_)
          refine lv_goto (tgt := 6) hx hb dX1_lastNaming_71 (by decide) ?_
          exact ih223 v230 x222_4 ⟨by omega, by omega⟩ ⟨by omega, by omega⟩ (by omega) ls (lv_sub hl [0, 2, 3, 4, 5, 6] rfl)
        · have fc229 := z_eq (rfl : (v228).toInt = _) (by decide : (6 : Int32).toInt = 6) c229
          refine lv_aload_n hx hb dX1_lastNaming_38 rfl (lv_at hl 3 rfl) ?_
          refine gX_1_3 hx hb ht hown hK hP m_192 dX1_lastNaming_39 ?_
          refine lv_iload hx hb dX1_lastNaming_42 (lv_at hl 0 rfl) ?_
          refine lX_1_3 hx hb hK hP (f := (fa 1 3)) rfl (vp_in_iff.mpr ⟨by omega, by omega⟩) dX1_lastNaming_44 ?_
          refine lv_topi (fun v231 ev231 => ?_)
          refine lv_iload_n hx hb dX1_lastNaming_45 rfl (lv_at hl 6 rfl) ?_
          refine lv_imul hx hb dX1_lastNaming_46 ?_
          refine lv_topi (fun v232 ev232 => ?_)
          refine lv_iload_n hx hb dX1_lastNaming_47 rfl (lv_at hl 5 rfl) ?_
          refine lv_icmp_gt (tgt := 68) hx hb dX1_lastNaming_48 (by decide) (fun c233 => ?_) (fun c233 => ?_)
          · have fc233 := z_lt (rfl : (b).toInt = _) (rfl : (v232).toInt = _) c233
            obtain ⟨v234, ev234⟩ : ∃ y : Int32, y = x222_5 + 1 := ⟨_, rfl⟩
            have tv234 := z_add ev234 rfl (by decide : (1 : Int32).toInt = 1) (by omega) (by omega)
            refine lv_iinc (v := v234) (lv' := [(5, .int v234), (6, .int v227), (4, .int x222_4), (0, .ref (g 11 3)), (1, .int a), (2, .int b), (3, .int d)]) hx hb dX1_lastNaming_68 hl (k := 1) rfl (by rw [ev234]; rfl) (by decide) rfl (fun ls hl => ?_)
            refine lv_goto (tgt := 6) hx hb dX1_lastNaming_71 (by decide) ?_
            exact ih223 v234 x222_4 ⟨by omega, by omega⟩ ⟨by omega, by omega⟩ (by omega) ls (lv_sub hl [0, 2, 3, 4, 5, 6] rfl)
          · have fc233 := z_nlt (rfl : (b).toInt = _) (rfl : (v232).toInt = _) c233
            refine lv_iload_n hx hb dX1_lastNaming_51 rfl (lv_at hl 5 rfl) ?_
            refine lv_aload_n hx hb dX1_lastNaming_52 rfl (lv_at hl 3 rfl) ?_
            refine gX_1_4 hx hb ht hown hK hP m_193 dX1_lastNaming_53 ?_
            refine lv_iload hx hb dX1_lastNaming_56 (lv_at hl 0 rfl) ?_
            refine lX_1_4 hx hb hK hP (f := (fa 1 4)) rfl (vp_in_iff.mpr ⟨by omega, by omega⟩) dX1_lastNaming_58 ?_
            refine lv_topi (fun v235 ev235 => ?_)
            refine lv_iload_n hx hb dX1_lastNaming_59 rfl (lv_at hl 6 rfl) ?_
            refine lv_imul hx hb dX1_lastNaming_60 ?_
            refine lv_topi (fun v236 ev236 => ?_)
            refine lv_icmp_ge (tgt := 68) hx hb dX1_lastNaming_61 (by decide) (fun c237 => ?_) (fun c237 => ?_)
            · have fc237 := z_le (rfl : (v236).toInt = _) (rfl : (b).toInt = _) c237
              obtain ⟨v238, ev238⟩ : ∃ y : Int32, y = x222_5 + 1 := ⟨_, rfl⟩
              have tv238 := z_add ev238 rfl (by decide : (1 : Int32).toInt = 1) (by omega) (by omega)
              refine lv_iinc (v := v238) (lv' := [(5, .int v238), (6, .int v227), (4, .int x222_4), (0, .ref (g 11 3)), (1, .int a), (2, .int b), (3, .int d)]) hx hb dX1_lastNaming_68 hl (k := 1) rfl (by rw [ev238]; rfl) (by decide) rfl (fun ls hl => ?_)
              refine lv_goto (tgt := 6) hx hb dX1_lastNaming_71 (by decide) ?_
              exact ih223 v238 x222_4 ⟨by omega, by omega⟩ ⟨by omega, by omega⟩ (by omega) ls (lv_sub hl [0, 2, 3, 4, 5, 6] rfl)
            · have fc237 := z_nle (rfl : (v236).toInt = _) (rfl : (b).toInt = _) c237
              refine lv_iload hx hb dX1_lastNaming_64 (lv_at hl 1 rfl) ?_
              refine lv_istore (lv' := [(4, .int x222_5), (6, .int v227), (5, .int x222_5), (0, .ref (g 11 3)), (1, .int a), (2, .int b), (3, .int d)]) hx hb dX1_lastNaming_66 hl (by decide) rfl (fun ls hl => ?_)
              obtain ⟨v239, ev239⟩ : ∃ y : Int32, y = x222_5 + 1 := ⟨_, rfl⟩
              have tv239 := z_add ev239 rfl (by decide : (1 : Int32).toInt = 1) (by omega) (by omega)
              refine lv_iinc (v := v239) (lv' := [(5, .int v239), (4, .int x222_5), (6, .int v227), (0, .ref (g 11 3)), (1, .int a), (2, .int b), (3, .int d)]) hx hb dX1_lastNaming_68 hl (k := 2) rfl (by rw [ev239]; rfl) (by decide) rfl (fun ls hl => ?_)
              refine lv_goto (tgt := 6) hx hb dX1_lastNaming_71 (by decide) ?_
              exact ih223 v239 x222_5 ⟨by omega, by omega⟩ ⟨by omega, by omega⟩ (by omega) ls (lv_sub hl [0, 1, 3, 4, 5, 6] rfl)
  exact lp223 13 0 (-1) ⟨by decide, by decide⟩ ⟨by decide, by decide⟩ (by first | decide | omega) ls (lv_sub hl [0, 1, 2, 3, 4, 5] rfl)
set_option maxHeartbeats 4000000 in
set_option maxRecDepth 100000 in
/-- X1_strikes -/
theorem c_X1_strikes (l : Launch) (dC : Nat → ClassId) (dI : Nat → Nat → Nat) (h : Nat) (g : Nat → Nat → Nat) (ca : Nat → Nat → ClassId) (iv : Nat → Nat → Int32) (lv : Nat → Nat → Int64) (fa : Nat → Nat → Nat → Int32) (la : Nat → Nat → Nat → Int64) (hI : IX iv fa) (a : Int32) (b : Int32) (h_a : 0 ≤ a.toInt ∧ a.toInt ≤ 7) : Met l yX1_strikes (wc yX1_strikes cX1_strikes 4 (some .boolean)) ({ frames := 0, cells := 0, slots := 0, locals := 0 } : Room) (pR (dC, dI) classes (WX h g ca iv lv fa la) (TX ca) [.ref (g 11 3), .int a, .int b]) (vp_Si (fun r => 0 ≤ r.toInt ∧ r.toInt ≤ 1)) 0 0 (fun _ => False) := by
  refine Met.ofW (cc := cX1_strikes) (maxL := 4) (ret := (some .boolean)) (by decide) rfl ?_
  intro p e s m args below meth c s₁ B hml hv
  obtain ⟨rfl, hP, hK⟩ := hv
  have hx := B.exec
  have hb := B.bytes
  have hr := B.returns
  have ht := tb_tl (atoms_spec (ws := wc yX1_strikes cX1_strikes 4 (some .boolean)) B.pre)
  have hown : s.vm.findClass RX1 = some m.cls := findClass_of_methodNamed B.named
  have hlocks := B.notSynchronized
  have hl := lv_entry [.ref (g 11 3), .int a, .int b] (n := 4) (Nat.le_of_ble_eq_true rfl)
  rw [lg_entry_eq]
  generalize (lg_sl [.ref (g 11 3), .int a, .int b] ++ List.replicate (4 - (lg_sl [.ref (g 11 3), .int a, .int b]).length) Slot.unset).toArray = ls at hl ⊢
  have hl : lv_has ls 4 [(0, .ref (g 11 3)), (1, .int a), (2, .int b)] := hl
  refine lv_iload_n hx hb dX1_strikes_0 rfl (lv_at hl 1 rfl) ?_
  refine lv_bipush (v := 12) hx hb dX1_strikes_1 (by decide) ?_
  refine lv_imul hx hb dX1_strikes_3 ?_
  refine lv_topi (fun v1 ev1 => ?_)
  have tv1 := z_mul ev1 (rfl : (a).toInt = _) (by decide : (12 : Int32).toInt = 12) (by omega) (by omega)
  refine lv_istore_n (lv' := [(3, .int v1), (0, .ref (g 11 3)), (1, .int a), (2, .int b)]) hx hb dX1_strikes_4 rfl hl (by decide) rfl (fun ls hl => ?_)
  have lp36 : ∀ (nn36 : Nat) (x35_3 : Int32), 0 ≤ x35_3.toInt ∧ x35_3.toInt ≤ 96 → 96 - x35_3.toInt < (nn36 : Int) → ∀ (ls : Array Slot), lv_has ls 4 [(3, .int x35_3), (0, .ref (g 11 3)), (1, .int a), (2, .int b)] → W p l e ({ frames := 0, cells := 0, slots := 0, locals := 0 } : Room) s m ([.ref (g 11 3), .int a, .int b] : List Value).toArray below meth c s.heap [] 0 0 (MQ below (vp_Si (fun r => 0 ≤ r.toInt ∧ r.toInt ≤ 1)) ([.ref (g 11 3), .int a, .int b] : List Value).toArray s 0 0 (fun _ => False)) (F0 m 5 ls []) := by
    intro nn36
    induction nn36 with
    | zero => intro x35_3 hx35_3 hm36; exfalso; omega
    | succ nn36 ih36 =>
      intro x35_3 hx35_3 hm36 ls hl
      refine lv_iload_n hx hb dX1_strikes_5 rfl (lv_at hl 0 rfl) ?_
      refine lv_iload_n hx hb dX1_strikes_6 rfl (lv_at hl 2 rfl) ?_
      refine lv_bipush (v := 12) hx hb dX1_strikes_7 (by decide) ?_
      refine lv_imul hx hb dX1_strikes_9 ?_
      refine lv_topi (fun v37 ev37 => ?_)
      obtain rfl : v1 = v37 := ev1.trans ev37.symm
      refine lv_aload_n hx hb dX1_strikes_10 rfl (lv_at hl 1 rfl) ?_
      refine gX_1_1 hx hb ht hown hK hP m_190 dX1_strikes_11 ?_
      refine lv_iload_n hx hb dX1_strikes_14 rfl (lv_at hl 2 rfl) ?_
      refine lX_1_1 hx hb hK hP (f := (fa 1 1)) rfl (vp_in_iff.mpr ⟨by omega, by omega⟩) dX1_strikes_15 ?_
      refine lv_topi (fun v38 ev38 => ?_)
      have tv38 : 0 ≤ v38.toInt ∧ v38.toInt ≤ 12 := by rw [ev38]; exact hI.2 1 1 _
      refine lv_iadd hx hb dX1_strikes_16 ?_
      refine lv_topi (fun v39 ev39 => ?_)
      have tv39 := z_add ev39 (rfl : (v1).toInt = _) (rfl : (v38).toInt = _) (by omega) (by omega)
      refine lv_icmp_ge (tgt := 49) hx hb dX1_strikes_17 (by decide) (fun c40 => ?_) (fun c40 => ?_)
      · have fc40 := z_le (rfl : (v39).toInt = _) (rfl : (x35_3).toInt = _) c40
        refine lv_iconst (v := 0) hx hb dX1_strikes_49 (by decide) ?_
        exact W.zret (v := 0) hx hb hr rfl (fun t ht9 hW => ⟨0, rfl, ⟨by decide, by decide⟩, ht9⟩) (fun q hq => by cases hq) dX1_strikes_50
      · have fc40 := z_nle (rfl : (v39).toInt = _) (rfl : (x35_3).toInt = _) c40
        refine lv_aload_n hx hb dX1_strikes_20 rfl (lv_at hl 1 rfl) ?_
        refine gX_1_2 hx hb ht hown hK hP m_191 dX1_strikes_21 ?_
        refine lv_iload_n hx hb dX1_strikes_24 rfl (lv_at hl 0 rfl) ?_
        refine lX_1_2 hx hb hK hP (f := (fa 1 2)) rfl (vp_in_iff.mpr ⟨by omega, by omega⟩) dX1_strikes_25 ?_
        refine lv_topi (fun v41 ev41 => ?_)
        refine lv_bipush (v := 7) hx hb dX1_strikes_26 (by decide) ?_
        refine lv_icmp_ne (tgt := 43) hx hb dX1_strikes_28 (by decide) (fun c42 => ?_) (fun c42 => ?_)
        · have fc42 := z_ne (rfl : (v41).toInt = _) (by decide : (7 : Int32).toInt = 7) c42
          obtain ⟨v43, ev43⟩ : ∃ y : Int32, y = x35_3 + 1 := ⟨_, rfl⟩
          have tv43 := z_add ev43 rfl (by decide : (1 : Int32).toInt = 1) (by omega) (by omega)
          refine lv_iinc (v := v43) (lv' := [(3, .int v43), (0, .ref (g 11 3)), (1, .int a), (2, .int b)]) hx hb dX1_strikes_43 hl (k := 0) rfl (by rw [ev43]; rfl) (by decide) rfl (fun ls hl => ?_)
          refine lv_goto (tgt := 5) hx hb dX1_strikes_46 (by decide) ?_
          exact ih36 v43 ⟨by omega, by omega⟩ (by omega) ls (lv_sub hl [0, 1, 2, 3] rfl)
        · have fc42 := z_eq (rfl : (v41).toInt = _) (by decide : (7 : Int32).toInt = 7) c42
          refine lv_aload_n hx hb dX1_strikes_31 rfl (lv_at hl 1 rfl) ?_
          refine gX_1_3 hx hb ht hown hK hP m_192 dX1_strikes_32 ?_
          refine lv_iload_n hx hb dX1_strikes_35 rfl (lv_at hl 0 rfl) ?_
          refine lX_1_3 hx hb hK hP (f := (fa 1 3)) rfl (vp_in_iff.mpr ⟨by omega, by omega⟩) dX1_strikes_36 ?_
          refine lv_topi (fun v44 ev44 => ?_)
          refine lv_iload_n hx hb dX1_strikes_37 rfl (lv_at hl 3 rfl) ?_
          refine lv_icmp_ne (tgt := 43) hx hb dX1_strikes_38 (by decide) (fun c45 => ?_) (fun c45 => ?_)
          · have fc45 := z_ne (rfl : (v44).toInt = _) (rfl : (b).toInt = _) c45
            obtain ⟨v46, ev46⟩ : ∃ y : Int32, y = x35_3 + 1 := ⟨_, rfl⟩
            have tv46 := z_add ev46 rfl (by decide : (1 : Int32).toInt = 1) (by omega) (by omega)
            refine lv_iinc (v := v46) (lv' := [(3, .int v46), (0, .ref (g 11 3)), (1, .int a), (2, .int b)]) hx hb dX1_strikes_43 hl (k := 0) rfl (by rw [ev46]; rfl) (by decide) rfl (fun ls hl => ?_)
            refine lv_goto (tgt := 5) hx hb dX1_strikes_46 (by decide) ?_
            exact ih36 v46 ⟨by omega, by omega⟩ (by omega) ls (lv_sub hl [0, 1, 2, 3] rfl)
          · have fc45 := z_eq (rfl : (v44).toInt = _) (rfl : (b).toInt = _) c45
            refine lv_iconst (v := 1) hx hb dX1_strikes_41 (by decide) ?_
            exact W.zret (v := 1) hx hb hr rfl (fun t ht9 hW => ⟨1, rfl, ⟨by decide, by decide⟩, ht9⟩) (fun q hq => by cases hq) dX1_strikes_42
  exact lp36 97 v1 ⟨by omega, by omega⟩ (by first | decide | omega) ls (lv_sub hl [0, 1, 2, 3] rfl)
set_option maxHeartbeats 4000000 in
set_option maxRecDepth 100000 in
/-- X1_isStruck -/
theorem c_X1_isStruck (l : Launch) (dC : Nat → ClassId) (dI : Nat → Nat → Nat) (h : Nat) (g : Nat → Nat → Nat) (ca : Nat → Nat → ClassId) (iv : Nat → Nat → Int32) (lv : Nat → Nat → Int64) (fa : Nat → Nat → Nat → Int32) (la : Nat → Nat → Nat → Int64) (hI : IX iv fa) (a : Int32) (h_a : 0 ≤ a.toInt ∧ a.toInt ≤ 7) : Met l yX1_isStruck (wc yX1_isStruck cX1_isStruck 3 (some .boolean)) ({ frames := 1, cells := 0, slots := 0, locals := 23 } : Room) (pR (dC, dI) classes (WX h g ca iv lv fa la) (TX ca) [.ref (g 11 3), .int a]) (vp_Si (fun r => 0 ≤ r.toInt ∧ r.toInt ≤ 1)) 0 0 (fun _ => False) := by
  refine Met.ofW (cc := cX1_isStruck) (maxL := 3) (ret := (some .boolean)) (by decide) rfl ?_
  intro p e s m args below meth c s₁ B hml hv
  obtain ⟨rfl, hP, hK⟩ := hv
  have hx := B.exec
  have hb := B.bytes
  have hr := B.returns
  have ht := tb_tl (atoms_spec (ws := wc yX1_isStruck cX1_isStruck 3 (some .boolean)) B.pre)
  have hown : s.vm.findClass RX1 = some m.cls := findClass_of_methodNamed B.named
  have hlocks := B.notSynchronized
  have hl := lv_entry [.ref (g 11 3), .int a] (n := 3) (Nat.le_of_ble_eq_true rfl)
  rw [lg_entry_eq]
  generalize (lg_sl [.ref (g 11 3), .int a] ++ List.replicate (3 - (lg_sl [.ref (g 11 3), .int a]).length) Slot.unset).toArray = ls at hl ⊢
  have hl : lv_has ls 3 [(0, .ref (g 11 3)), (1, .int a)] := hl
  refine lv_iload_n hx hb dX1_isStruck_0 rfl (lv_at hl 1 rfl) ?_
  refine lv_iconst (v := 1) hx hb dX1_isStruck_1 (by decide) ?_
  refine lv_iadd hx hb dX1_isStruck_2 ?_
  refine lv_topi (fun v1 ev1 => ?_)
  have tv1 := z_add ev1 (rfl : (a).toInt = _) (by decide : (1 : Int32).toInt = 1) (by omega) (by omega)
  refine lv_istore_n (lv' := [(2, .int v1), (0, .ref (g 11 3)), (1, .int a)]) hx hb dX1_isStruck_3 rfl hl (by decide) rfl (fun ls hl => ?_)
  have lp11 : ∀ (nn11 : Nat) (x10_2 : Int32), 1 ≤ x10_2.toInt ∧ x10_2.toInt ≤ 8 → 8 - x10_2.toInt < (nn11 : Int) → ∀ (ls : Array Slot), lv_has ls 3 [(2, .int x10_2), (0, .ref (g 11 3)), (1, .int a)] → W p l e ({ frames := 1, cells := 0, slots := 0, locals := 23 } : Room) s m ([.ref (g 11 3), .int a] : List Value).toArray below meth c s.heap [] 0 0 (MQ below (vp_Si (fun r => 0 ≤ r.toInt ∧ r.toInt ≤ 1)) ([.ref (g 11 3), .int a] : List Value).toArray s 0 0 (fun _ => False)) (F0 m 4 ls []) := by
    intro nn11
    induction nn11 with
    | zero => intro x10_2 hx10_2 hm11; exfalso; omega
    | succ nn11 ih11 =>
      intro x10_2 hx10_2 hm11 ls hl
      refine lv_iload_n hx hb dX1_isStruck_4 rfl (lv_at hl 0 rfl) ?_
      refine lv_aload_n hx hb dX1_isStruck_5 rfl (lv_at hl 1 rfl) ?_
      have i_1_7 : 0 ≤ (iv 1 7).toInt ∧ (iv 1 7).toInt ≤ 8 := hI.1 1 7
      refine gX_1_7 hx hb ht hown hK hP m_196 (v := (iv 1 7)) rfl dX1_isStruck_6 ?_
      refine lv_icmp_ge (tgt := 38) hx hb dX1_isStruck_9 (by decide) (fun c12 => ?_) (fun c12 => ?_)
      · have fc12 := z_le (rfl : ((iv 1 7)).toInt = _) (rfl : (x10_2).toInt = _) c12
        refine lv_iconst (v := 0) hx hb dX1_isStruck_38 (by decide) ?_
        exact W.zret (v := 0) hx hb hr rfl (fun t ht9 hW => ⟨0, rfl, ⟨by decide, by decide⟩, ht9⟩) (fun q hq => by cases hq) dX1_isStruck_39
      · have fc12 := z_nle (rfl : ((iv 1 7)).toInt = _) (rfl : (x10_2).toInt = _) c12
        refine lv_aload_n hx hb dX1_isStruck_12 rfl (lv_at hl 1 rfl) ?_
        refine gX_1_6 hx hb ht hown hK hP m_195 dX1_isStruck_13 ?_
        refine lv_iload_n hx hb dX1_isStruck_16 rfl (lv_at hl 0 rfl) ?_
        refine lX_1_6 hx hb hK hP (f := (fa 1 6)) rfl (vp_in_iff.mpr ⟨by omega, by omega⟩) dX1_isStruck_17 ?_
        refine lv_topi (fun v13 ev13 => ?_)
        have tv13 : 0 ≤ v13.toInt ∧ v13.toInt ≤ 1 := by rw [ev13]; exact hI.2 1 6 _
        refine lv_if_eq (tgt := 32) hx hb dX1_isStruck_18 (by decide) (fun c14 => ?_) (fun c14 => ?_)
        · have fc14 := z_eq (rfl : (v13).toInt = _) (by decide : (0 : Int32).toInt = 0) c14
          obtain ⟨v15, ev15⟩ : ∃ y : Int32, y = x10_2 + 1 := ⟨_, rfl⟩
          have tv15 := z_add ev15 rfl (by decide : (1 : Int32).toInt = 1) (by omega) (by omega)
          refine lv_iinc (v := v15) (lv' := [(2, .int v15), (0, .ref (g 11 3)), (1, .int a)]) hx hb dX1_isStruck_32 hl (k := 0) rfl (by rw [ev15]; rfl) (by decide) rfl (fun ls hl => ?_)
          refine lv_goto (tgt := 4) hx hb dX1_isStruck_35 (by decide) ?_
          exact ih11 v15 ⟨by omega, by omega⟩ (by omega) ls (lv_sub hl [0, 1, 2] rfl)
        · have fc14 := z_ne (rfl : (v13).toInt = _) (by decide : (0 : Int32).toInt = 0) c14
          refine lv_aload_n hx hb dX1_isStruck_21 rfl (lv_at hl 1 rfl) ?_
          refine lv_iload_n hx hb dX1_isStruck_22 rfl (lv_at hl 0 rfl) ?_
          refine lv_iload_n hx hb dX1_isStruck_23 rfl (lv_at hl 2 rfl) ?_
          refine vp_callSi (W.runV (As := [.int x10_2, .int a]) (rest := []) ⟨hx, hb, hml, hown, ht⟩ (c_X1_strikes l dC dI h g ca iv lv fa la hI x10_2 a ⟨by omega, by omega⟩) (kV 2 ht m_612 m_614 m_7 m_81 m_615 rfl rfl hd_X1_strikes_v ⟨Nat.le_of_ble_eq_true rfl, Nat.le_of_ble_eq_true rfl⟩) (vR hP hK (rX_1 hK hP)) rfl rfl hl.1 rfl (lv_room (Nat.le_of_ble_eq_true rfl)) dX1_isStruck_24 ⟨Nat.le_of_ble_eq_true rfl, Nat.le_of_ble_eq_true rfl⟩) (fun r16 hr16 => ?_)
          refine lv_if_eq (tgt := 32) hx hb dX1_isStruck_27 (by decide) (fun c17 => ?_) (fun c17 => ?_)
          · have fc17 := z_eq (rfl : (r16).toInt = _) (by decide : (0 : Int32).toInt = 0) c17
            obtain ⟨v18, ev18⟩ : ∃ y : Int32, y = x10_2 + 1 := ⟨_, rfl⟩
            have tv18 := z_add ev18 rfl (by decide : (1 : Int32).toInt = 1) (by omega) (by omega)
            refine lv_iinc (v := v18) (lv' := [(2, .int v18), (0, .ref (g 11 3)), (1, .int a)]) hx hb dX1_isStruck_32 hl (k := 0) rfl (by rw [ev18]; rfl) (by decide) rfl (fun ls hl => ?_)
            refine lv_goto (tgt := 4) hx hb dX1_isStruck_35 (by decide) ?_
            exact ih11 v18 ⟨by omega, by omega⟩ (by omega) ls (lv_sub hl [0, 1, 2] rfl)
          · have fc17 := z_ne (rfl : (r16).toInt = _) (by decide : (0 : Int32).toInt = 0) c17
            refine lv_iconst (v := 1) hx hb dX1_isStruck_30 (by decide) ?_
            exact W.zret (v := 1) hx hb hr rfl (fun t ht9 hW => ⟨1, rfl, ⟨by decide, by decide⟩, ht9⟩) (fun q hq => by cases hq) dX1_isStruck_31
  exact lp11 8 v1 ⟨by omega, by omega⟩ (by first | decide | omega) ls (lv_sub hl [0, 1, 2] rfl)
set_option maxHeartbeats 4000000 in
set_option maxRecDepth 100000 in
/-- X1_findCounting -/
theorem c_X1_findCounting (l : Launch) (dC : Nat → ClassId) (dI : Nat → Nat → Nat) (sz : Nat) (h : Nat) (g : Nat → Nat → Nat) (ca : Nat → Nat → ClassId) (iv : Nat → Nat → Int32) (lv : Nat → Nat → Int64) (fa : Nat → Nat → Nat → Int32) (la : Nat → Nat → Nat → Int64) (hI : IX iv fa) (a : Int32) : Met l yX1_findCounting (wc yX1_findCounting cX1_findCounting 3 none) ({ frames := 2, cells := 0, slots := 0, locals := 45 } : Room) (pW (dC, dI) classes (WX h g ca iv lv fa la) (TX ca) sz [.ref (g 11 3), .int a]) (va_Qv (fun (u : SS) => ∃ (na_1_6 : Nat → Int32), (∀ j, inb (bA 1 6 j) (na_1_6 j)) ∧ u = (iv, lv, (u2 fa 1 6 na_1_6), la)) (bX (dC, dI) h g ca (va_A (WX h g ca iv lv fa la) sz)) (va_A (WX h g ca iv lv fa la) sz)) 0 0 (va_A (WX h g ca iv lv fa la) sz) := by
  refine Met.ofW (cc := cX1_findCounting) (maxL := 3) (ret := none) (by decide) rfl ?_
  intro p e s m args below meth c s₁ B hml hv
  obtain ⟨rfl, hsz, hP, hK, hD0⟩ := hv
  have hx := B.exec
  have hb := B.bytes
  have hr := B.returns
  have ht := tb_tl (atoms_spec (ws := wc yX1_findCounting cX1_findCounting 3 none) B.pre)
  have hown : s.vm.findClass RX1 = some m.cls := findClass_of_methodNamed B.named
  have hlocks := B.notSynchronized
  subst hsz
  have hD := hD0.self (sz := s.heap.size)
  generalize hAe : va_A (WX h g ca iv lv fa la) s.heap.size = A at hD ⊢
  have hA : ∀ q : Nat, s.heap.size ≤ q → A q := fun q h => by rw [← hAe]; exact Or.inr h
  have hS : va_S A s.heap s.heap [] := va_S.rf
  have hl := lv_entry [.ref (g 11 3), .int a] (n := 3) (Nat.le_of_ble_eq_true rfl)
  rw [lg_entry_eq]
  generalize (lg_sl [.ref (g 11 3), .int a] ++ List.replicate (3 - (lg_sl [.ref (g 11 3), .int a]).length) Slot.unset).toArray = ls at hl ⊢
  have hl : lv_has ls 3 [(0, .ref (g 11 3)), (1, .int a)] := hl
  refine lv_aload_n hx hb dX1_findCounting_0 rfl (lv_at hl 0 rfl) ?_
  have i_1_7 : 0 ≤ (iv 1 7).toInt ∧ (iv 1 7).toInt ≤ 8 := hI.1 1 7
  refine gX_1_7 hx hb ht hown hK hP m_196 (v := (iv 1 7)) rfl dX1_findCounting_1 ?_
  refine lv_iconst (v := 1) hx hb dX1_findCounting_4 (by decide) ?_
  refine lv_isub hx hb dX1_findCounting_5 ?_
  refine lv_topi (fun v1 ev1 => ?_)
  have tv1 := z_sub ev1 (rfl : ((iv 1 7)).toInt = _) (by decide : (1 : Int32).toInt = 1) (by omega) (by omega)
  refine lv_istore_n (lv' := [(2, .int v1), (0, .ref (g 11 3)), (1, .int a)]) hx hb dX1_findCounting_6 rfl hl (by decide) rfl (fun ls hl => ?_)
  have lp27 : ∀ (nn27 : Nat) (x26_2 : Int32) (w26_a_1_6 : Nat → Int32), (-1) ≤ x26_2.toInt ∧ x26_2.toInt ≤ 7 → (∀ j, inb (bA 1 6 j) (w26_a_1_6 j)) → x26_2.toInt - (-1) < (nn27 : Int) → ∀ (H : Heap) (locs : List Loc), ∀ (ls : Array Slot), va_P (dC, dI) classes (WX h g ca iv lv (u2 fa 1 6 w26_a_1_6) la) H → va_D A (WX h g ca iv lv (u2 fa 1 6 w26_a_1_6) la) → va_S A s.heap H locs → lv_has ls 3 [(2, .int x26_2), (0, .ref (g 11 3)), (1, .int a)] → W p l e ({ frames := 2, cells := 0, slots := 0, locals := 45 } : Room) s m ([.ref (g 11 3), .int a] : List Value).toArray below meth c H locs 0 0 (MQ below (va_Qv (fun (u : SS) => ∃ (na_1_6 : Nat → Int32), (∀ j, inb (bA 1 6 j) (na_1_6 j)) ∧ u = (iv, lv, (u2 fa 1 6 na_1_6), la)) (bX (dC, dI) h g ca A) A) ([.ref (g 11 3), .int a] : List Value).toArray s 0 0 A) (F0 m 7 ls []) := by
    intro nn27
    induction nn27 with
    | zero => intro x26_2 w26_a_1_6 hx26_2 hw26_a_1_6 hm27; exfalso; omega
    | succ nn27 ih27 =>
      intro x26_2 w26_a_1_6 hx26_2 hw26_a_1_6 hm27 H locs ls hP hD hS hl
      refine lv_iload_n hx hb dX1_findCounting_7 rfl (lv_at hl 0 rfl) ?_
      refine lv_if_lt (tgt := 46) hx hb dX1_findCounting_8 (by decide) (fun c28 => ?_) (fun c28 => ?_)
      · have fc28 := z_lt (rfl : (x26_2).toInt = _) (by decide : (0 : Int32).toInt = 0) c28
        have hP9 : va_P (dC, dI) classes (WX h g ca iv lv (u2 fa 1 6 w26_a_1_6) la) H := hP
        have hD9 : va_D A (WX h g ca iv lv (u2 fa 1 6 w26_a_1_6) la) := hD
        exact W.vret hx hb hr (fun t ht9 hW => ⟨⟨(iv, lv, (u2 fa 1 6 w26_a_1_6), la), rfl, ⟨w26_a_1_6, hw26_a_1_6, rfl⟩, by rw [ht9]; exact hP9, hD9⟩, hS.F ht9⟩) hS.2.2 dX1_findCounting_46
      · have fc28 := z_nlt (rfl : (x26_2).toInt = _) (by decide : (0 : Int32).toInt = 0) c28
        refine lv_aload_n hx hb dX1_findCounting_11 rfl (lv_at hl 1 rfl) ?_
        refine gX_1_6 hx hb ht hown hK hP m_195 dX1_findCounting_12 ?_
        refine lv_iload_n hx hb dX1_findCounting_15 rfl (lv_at hl 0 rfl) ?_
        refine lv_aload_n hx hb dX1_findCounting_16 rfl (lv_at hl 1 rfl) ?_
        refine gX_1_0 hx hb ht hown hK hP m_189 dX1_findCounting_17 ?_
        refine lv_iload_n hx hb dX1_findCounting_20 rfl (lv_at hl 0 rfl) ?_
        refine lX_1_0 hx hb hK hP (f := (fa 1 0)) rfl (vp_in_iff.mpr ⟨by omega, by omega⟩) dX1_findCounting_21 ?_
        refine lv_topi (fun v29 ev29 => ?_)
        refine lv_iload_n hx hb dX1_findCounting_22 rfl (lv_at hl 2 rfl) ?_
        refine lv_icmp_gt (tgt := 38) hx hb dX1_findCounting_23 (by decide) (fun c30 => ?_) (fun c30 => ?_)
        · have fc30 := z_lt (rfl : (a).toInt = _) (rfl : (v29).toInt = _) c30
          refine lv_iconst (v := 0) hx hb dX1_findCounting_38 (by decide) ?_
          refine tX_1_6 hx hb hK hP hD hS (f0 := w26_a_1_6) rfl (i := x26_2) (x := 0) (vp_in_iff.mpr ⟨by omega, by omega⟩) dX1_findCounting_39 (fun f31 ef31 H locs hP hD hS => ?_)
          have hf31 : ∀ j, inb (bA 1 6 j) (f31 j) := by rw [ef31]; exact upd_b (b := bA 1 6) hw26_a_1_6 (show inb (0, 1) (vp_nar .boolean 0) from ⟨by decide, by decide⟩)
          have hP : va_P (dC, dI) classes (WX h g ca iv lv (u2 fa 1 6 f31) la) H := hP
          have hD : va_D A (WX h g ca iv lv (u2 fa 1 6 f31) la) := hD
          obtain ⟨v32, ev32⟩ : ∃ y : Int32, y = x26_2 + (-1) := ⟨_, rfl⟩
          have tv32 := z_add ev32 rfl (by decide : ((-1) : Int32).toInt = (-1)) (by omega) (by omega)
          refine lv_iinc (v := v32) (lv' := [(2, .int v32), (0, .ref (g 11 3)), (1, .int a)]) hx hb dX1_findCounting_40 hl (k := 0) rfl (by rw [ev32]; rfl) (by decide) rfl (fun ls hl => ?_)
          refine lv_goto (tgt := 7) hx hb dX1_findCounting_43 (by decide) ?_
          exact ih27 v32 f31 ⟨by omega, by omega⟩ hf31 (by omega) _ _ ls hP hD hS (lv_sub hl [0, 1, 2] rfl)
        · have fc30 := z_nlt (rfl : (a).toInt = _) (rfl : (v29).toInt = _) c30
          refine lv_aload_n hx hb dX1_findCounting_26 rfl (lv_at hl 1 rfl) ?_
          refine lv_iload_n hx hb dX1_findCounting_27 rfl (lv_at hl 0 rfl) ?_
          refine vp_callSi (W.runV (As := [.int x26_2]) (rest := [.int x26_2, .ref (g 1 6)]) ⟨hx, hb, hml, hown, ht⟩ (c_X1_isStruck l dC dI h g ca iv lv (u2 fa 1 6 w26_a_1_6) la (IX_a (c := 1) (k := 6) hI hw26_a_1_6) x26_2 ⟨by omega, by omega⟩) (kV 1 ht m_608 m_610 m_6 m_81 m_611 rfl rfl hd_X1_isStruck_v ⟨Nat.le_of_ble_eq_true rfl, Nat.le_of_ble_eq_true rfl⟩) (vR hP hK (rX_1 hK hP)) rfl rfl hl.1 rfl (lv_room (Nat.le_of_ble_eq_true rfl)) dX1_findCounting_28 ⟨Nat.le_of_ble_eq_true rfl, Nat.le_of_ble_eq_true rfl⟩) (fun r33 hr33 => ?_)
          refine lv_if_ne (tgt := 38) hx hb dX1_findCounting_31 (by decide) (fun c34 => ?_) (fun c34 => ?_)
          · have fc34 := z_ne (rfl : (r33).toInt = _) (by decide : (0 : Int32).toInt = 0) c34
            refine lv_iconst (v := 0) hx hb dX1_findCounting_38 (by decide) ?_
            refine tX_1_6 hx hb hK hP hD hS (f0 := w26_a_1_6) rfl (i := x26_2) (x := 0) (vp_in_iff.mpr ⟨by omega, by omega⟩) dX1_findCounting_39 (fun f35 ef35 H locs hP hD hS => ?_)
            have hf35 : ∀ j, inb (bA 1 6 j) (f35 j) := by rw [ef35]; exact upd_b (b := bA 1 6) hw26_a_1_6 (show inb (0, 1) (vp_nar .boolean 0) from ⟨by decide, by decide⟩)
            have hP : va_P (dC, dI) classes (WX h g ca iv lv (u2 fa 1 6 f35) la) H := hP
            have hD : va_D A (WX h g ca iv lv (u2 fa 1 6 f35) la) := hD
            obtain ⟨v36, ev36⟩ : ∃ y : Int32, y = x26_2 + (-1) := ⟨_, rfl⟩
            have tv36 := z_add ev36 rfl (by decide : ((-1) : Int32).toInt = (-1)) (by omega) (by omega)
            refine lv_iinc (v := v36) (lv' := [(2, .int v36), (0, .ref (g 11 3)), (1, .int a)]) hx hb dX1_findCounting_40 hl (k := 0) rfl (by rw [ev36]; rfl) (by decide) rfl (fun ls hl => ?_)
            refine lv_goto (tgt := 7) hx hb dX1_findCounting_43 (by decide) ?_
            exact ih27 v36 f35 ⟨by omega, by omega⟩ hf35 (by omega) _ _ ls hP hD hS (lv_sub hl [0, 1, 2] rfl)
          · have fc34 := z_eq (rfl : (r33).toInt = _) (by decide : (0 : Int32).toInt = 0) c34
            refine lv_iconst (v := 1) hx hb dX1_findCounting_34 (by decide) ?_
            refine lv_goto (tgt := 39) hx hb dX1_findCounting_35 (by decide) ?_
            refine tX_1_6 hx hb hK hP hD hS (f0 := w26_a_1_6) rfl (i := x26_2) (x := 1) (vp_in_iff.mpr ⟨by omega, by omega⟩) dX1_findCounting_39 (fun f37 ef37 H locs hP hD hS => ?_)
            have hf37 : ∀ j, inb (bA 1 6 j) (f37 j) := by rw [ef37]; exact upd_b (b := bA 1 6) hw26_a_1_6 (show inb (0, 1) (vp_nar .boolean 1) from ⟨by decide, by decide⟩)
            have hP : va_P (dC, dI) classes (WX h g ca iv lv (u2 fa 1 6 f37) la) H := hP
            have hD : va_D A (WX h g ca iv lv (u2 fa 1 6 f37) la) := hD
            obtain ⟨v38, ev38⟩ : ∃ y : Int32, y = x26_2 + (-1) := ⟨_, rfl⟩
            have tv38 := z_add ev38 rfl (by decide : ((-1) : Int32).toInt = (-1)) (by omega) (by omega)
            refine lv_iinc (v := v38) (lv' := [(2, .int v38), (0, .ref (g 11 3)), (1, .int a)]) hx hb dX1_findCounting_40 hl (k := 0) rfl (by rw [ev38]; rfl) (by decide) rfl (fun ls hl => ?_)
            refine lv_goto (tgt := 7) hx hb dX1_findCounting_43 (by decide) ?_
            exact ih27 v38 f37 ⟨by omega, by omega⟩ hf37 (by omega) _ _ ls hP hD hS (lv_sub hl [0, 1, 2] rfl)
  exact lp27 9 v1 (fa 1 6) ⟨by omega, by omega⟩ (hI.2 1 6) (by first | decide | omega) _ _ ls hP hD hS (lv_sub hl [0, 1, 2] rfl)
set_option maxHeartbeats 4000000 in
set_option maxRecDepth 100000 in
/-- X1_naming -/
theorem c_X1_naming (l : Launch) (dC : Nat → ClassId) (dI : Nat → Nat → Nat) (sz : Nat) (h : Nat) (g : Nat → Nat → Nat) (ca : Nat → Nat → ClassId) (iv : Nat → Nat → Int32) (lv : Nat → Nat → Int64) (fa : Nat → Nat → Nat → Int32) (la : Nat → Nat → Nat → Int64) (hI : IX iv fa) (a : Int32) (b : Int32) (d : Int32) : Met l yX1_naming (wc yX1_naming cX1_naming 8 (some .int)) ({ frames := 3, cells := 0, slots := 0, locals := 67 } : Room) (pW (dC, dI) classes (WX h g ca iv lv fa la) (TX ca) sz [.ref (g 11 3), .int a, .int b, .int d]) (va_Qi (fun r (u : SS) => ∃ (na_1_6 : Nat → Int32), (∀ j, inb (bA 1 6 j) (na_1_6 j)) ∧ ((-1) ≤ r.toInt ∧ r.toInt ≤ 767) ∧ u = (iv, lv, (u2 fa 1 6 na_1_6), la)) (bX (dC, dI) h g ca (va_A (WX h g ca iv lv fa la) sz)) (va_A (WX h g ca iv lv fa la) sz)) 0 0 (va_A (WX h g ca iv lv fa la) sz) := by
  refine Met.ofW (cc := cX1_naming) (maxL := 8) (ret := (some .int)) (by decide) rfl ?_
  intro p e s m args below meth c s₁ B hml hv
  obtain ⟨rfl, hsz, hP, hK, hD0⟩ := hv
  have hx := B.exec
  have hb := B.bytes
  have hr := B.returns
  have ht := tb_tl (atoms_spec (ws := wc yX1_naming cX1_naming 8 (some .int)) B.pre)
  have hown : s.vm.findClass RX1 = some m.cls := findClass_of_methodNamed B.named
  have hlocks := B.notSynchronized
  subst hsz
  have hD := hD0.self (sz := s.heap.size)
  generalize hAe : va_A (WX h g ca iv lv fa la) s.heap.size = A at hD ⊢
  have hA : ∀ q : Nat, s.heap.size ≤ q → A q := fun q h => by rw [← hAe]; exact Or.inr h
  have hS : va_S A s.heap s.heap [] := va_S.rf
  have hl := lv_entry [.ref (g 11 3), .int a, .int b, .int d] (n := 8) (Nat.le_of_ble_eq_true rfl)
  rw [lg_entry_eq]
  generalize (lg_sl [.ref (g 11 3), .int a, .int b, .int d] ++ List.replicate (8 - (lg_sl [.ref (g 11 3), .int a, .int b, .int d]).length) Slot.unset).toArray = ls at hl ⊢
  have hl : lv_has ls 8 [(0, .ref (g 11 3)), (1, .int a), (2, .int b), (3, .int d)] := hl
  refine lv_aload_n hx hb dX1_naming_0 rfl (lv_at hl 0 rfl) ?_
  refine lv_iload_n hx hb dX1_naming_1 rfl (lv_at hl 3 rfl) ?_
  have hFc := free_all hD hS hA
  refine va_callv (va_runV (As := [.int d]) (rest := []) ⟨hx, hb, hml, hown, ht⟩ (c_X1_findCounting l dC dI s.heap.size h g ca iv lv fa la hI d) (kV 1 ht m_604 m_606 m_5 m_81 m_607 rfl rfl hd_X1_findCounting_v ⟨Nat.le_of_ble_eq_true rfl, Nat.le_of_ble_eq_true rfl⟩) (vW hP hK hD (rX_1 hK hP)) rfl rfl hl.1 rfl (lv_room (Nat.le_of_ble_eq_true rfl)) dX1_naming_2 ⟨Nat.le_of_ble_eq_true rfl, Nat.le_of_ble_eq_true rfl⟩) hS (fun q _ h => hFc q h) hFc (fun u t H1 locs ht9 hvm hr1 hB hz1 hk1 hS => ?_)
  obtain ⟨n2, hn2, rfl⟩ := hr1
  obtain ⟨hP, hD⟩ := hB
  rw [ht9] at hP
  generalize H1 = H at hP hS ⊢
  have hP : va_P (dC, dI) classes (WX h g ca iv lv (u2 fa 1 6 n2) la) H := hP
  have hD : va_D A (WX h g ca iv lv (u2 fa 1 6 n2) la) := (show va_D _ (WX h g ca iv lv (u2 fa 1 6 n2) la) from hD).weaken (fun _ _ _ h => hFc _ h)
  refine lv_iconst (v := (-1)) hx hb dX1_naming_5 (by decide) ?_
  refine lv_istore (lv' := [(4, .int (-1)), (0, .ref (g 11 3)), (1, .int a), (2, .int b), (3, .int d)]) hx hb dX1_naming_6 hl (by decide) rfl (fun ls hl => ?_)
  refine lv_iconst (v := (-1)) hx hb dX1_naming_8 (by decide) ?_
  refine lv_istore (lv' := [(5, .int (-1)), (4, .int (-1)), (0, .ref (g 11 3)), (1, .int a), (2, .int b), (3, .int d)]) hx hb dX1_naming_9 hl (by decide) rfl (fun ls hl => ?_)
  refine lv_iconst (v := 0) hx hb dX1_naming_11 (by decide) ?_
  refine lv_istore (lv' := [(6, .int 0), (5, .int (-1)), (4, .int (-1)), (0, .ref (g 11 3)), (1, .int a), (2, .int b), (3, .int d)]) hx hb dX1_naming_12 hl (by decide) rfl (fun ls hl => ?_)
  have lp139 : ∀ (nn139 : Nat) (x138_6 : Int32) (x138_5 : Int32) (x138_4 : Int32), 0 ≤ x138_6.toInt ∧ x138_6.toInt ≤ 8 → (-1) ≤ x138_5.toInt → (-1) ≤ x138_4.toInt ∧ x138_4.toInt ≤ 767 → 8 - x138_6.toInt < (nn139 : Int) → ∀ (H : Heap) (locs : List Loc), ∀ (ls : Array Slot), va_P (dC, dI) classes (WX h g ca iv lv (u2 fa 1 6 n2) la) H → va_D A (WX h g ca iv lv (u2 fa 1 6 n2) la) → va_S A s.heap H locs → lv_has ls 8 [(6, .int x138_6), (5, .int x138_5), (4, .int x138_4), (0, .ref (g 11 3)), (1, .int a), (2, .int b), (3, .int d)] → W p l e ({ frames := 3, cells := 0, slots := 0, locals := 67 } : Room) s m ([.ref (g 11 3), .int a, .int b, .int d] : List Value).toArray below meth c H locs 0 0 (MQ below (va_Qi (fun r (u : SS) => ∃ (na_1_6 : Nat → Int32), (∀ j, inb (bA 1 6 j) (na_1_6 j)) ∧ ((-1) ≤ r.toInt ∧ r.toInt ≤ 767) ∧ u = (iv, lv, (u2 fa 1 6 na_1_6), la)) (bX (dC, dI) h g ca A) A) ([.ref (g 11 3), .int a, .int b, .int d] : List Value).toArray s 0 0 A) (F0 m 14 ls []) := by
    intro nn139
    induction nn139 with
    | zero => intro x138_6 x138_5 x138_4 hx138_6 hx138_5 hx138_4 hm139; exfalso; omega
    | succ nn139 ih139 =>
      intro x138_6 x138_5 x138_4 hx138_6 hx138_5 hx138_4 hm139 H locs ls hP hD hS hl
      refine lv_iload hx hb dX1_naming_14 (lv_at hl 0 rfl) ?_
      refine lv_aload_n hx hb dX1_naming_16 rfl (lv_at hl 3 rfl) ?_
      have i_1_7 : 0 ≤ (iv 1 7).toInt ∧ (iv 1 7).toInt ≤ 8 := hI.1 1 7
      refine gX_1_7 hx hb ht hown hK hP m_196 (v := (iv 1 7)) rfl dX1_naming_17 ?_
      refine lv_icmp_ge (tgt := 86) hx hb dX1_naming_20 (by decide) (fun c140 => ?_) (fun c140 => ?_)
      · have fc140 := z_le (rfl : ((iv 1 7)).toInt = _) (rfl : (x138_6).toInt = _) c140
        refine lv_iload hx hb dX1_naming_86 (lv_at hl 2 rfl) ?_
        have hP9 : va_P (dC, dI) classes (WX h g ca iv lv (u2 fa 1 6 n2) la) H := hP
        have hD9 : va_D A (WX h g ca iv lv (u2 fa 1 6 n2) la) := hD
        exact W.iret (v := x138_4) hx hb hr (fun t ht9 hW => ⟨⟨x138_4, (iv, lv, (u2 fa 1 6 n2), la), rfl, ⟨n2, hn2, ⟨by omega, by omega⟩, rfl⟩, by rw [ht9]; exact hP9, hD9⟩, hS.F ht9⟩) hS.2.2 dX1_naming_88
      · have fc140 := z_nle (rfl : ((iv 1 7)).toInt = _) (rfl : (x138_6).toInt = _) c140
        refine lv_aload_n hx hb dX1_naming_23 rfl (lv_at hl 3 rfl) ?_
        refine lv_iload hx hb dX1_naming_24 (lv_at hl 0 rfl) ?_
        refine lv_iload_n hx hb dX1_naming_26 rfl (lv_at hl 4 rfl) ?_
        refine lv_iload_n hx hb dX1_naming_27 rfl (lv_at hl 5 rfl) ?_
        refine vp_callSi (W.runV (As := [.int x138_6, .int a, .int b]) (rest := []) ⟨hx, hb, hml, hown, ht⟩ (c_X1_lastNaming l dC dI h g ca iv lv (u2 fa 1 6 n2) la (IX_a (c := 1) (k := 6) hI hn2) x138_6 a b ⟨by omega, by omega⟩) (kV 3 ht m_969 m_971 m_39 m_81 m_972 rfl rfl hd_X1_lastNaming_v ⟨Nat.le_of_ble_eq_true rfl, Nat.le_of_ble_eq_true rfl⟩) (vR hP hK (rX_1 hK hP)) rfl rfl hl.1 rfl (lv_room (Nat.le_of_ble_eq_true rfl)) dX1_naming_28 ⟨Nat.le_of_ble_eq_true rfl, Nat.le_of_ble_eq_true rfl⟩) (fun r141 hr141 => ?_)
        refine lv_istore (lv' := [(7, .int r141), (6, .int x138_6), (5, .int x138_5), (4, .int x138_4), (0, .ref (g 11 3)), (1, .int a), (2, .int b), (3, .int d)]) hx hb dX1_naming_31 hl (by decide) rfl (fun ls hl => ?_)
        refine lv_aload_n hx hb dX1_naming_33 rfl (lv_at hl 4 rfl) ?_
        refine gX_1_6 hx hb ht hown hK hP m_195 dX1_naming_34 ?_
        refine lv_iload hx hb dX1_naming_37 (lv_at hl 1 rfl) ?_
        refine lX_1_6 hx hb hK hP (f := n2) rfl (vp_in_iff.mpr ⟨by omega, by omega⟩) dX1_naming_39 ?_
        refine lv_topi (fun v142 ev142 => ?_)
        have tv142 : 0 ≤ v142.toInt ∧ v142.toInt ≤ 1 := by rw [ev142]; exact hn2 _
        refine lv_if_eq (tgt := 80) hx hb dX1_naming_40 (by decide) (fun c143 => ?_) (fun c143 => ?_)
        · have fc143 := z_eq (rfl : (v142).toInt = _) (by decide : (0 : Int32).toInt = 0) c143
          obtain ⟨v144, ev144⟩ : ∃ y : Int32, y = x138_6 + 1 := ⟨_, rfl⟩
          have tv144 := z_add ev144 rfl (by decide : (1 : Int32).toInt = 1) (by omega) (by omega)
          refine lv_iinc (v := v144) (lv' := [(6, .int v144), (7, .int r141), (5, .int x138_5), (4, .int x138_4), (0, .ref (g 11 3)), (1, .int a), (2, .int b), (3, .int d)]) hx hb dX1_naming_80 hl (k := 1) rfl (by rw [ev144]; rfl) (by decide) rfl (fun ls hl => ?_)
          refine lv_goto (tgt := 14) hx hb dX1_naming_83 (by decide) ?_
          exact ih139 v144 x138_5 x138_4 ⟨by omega, by omega⟩ (by omega) ⟨by omega, by omega⟩ (by omega) _ _ ls hP hD hS (lv_sub hl [0, 2, 3, 4, 5, 6, 7] rfl)
        · have fc143 := z_ne (rfl : (v142).toInt = _) (by decide : (0 : Int32).toInt = 0) c143
          refine lv_iload hx hb dX1_naming_43 (lv_at hl 0 rfl) ?_
          refine lv_iconst (v := (-1)) hx hb dX1_naming_45 (by decide) ?_
          refine lv_icmp_eq (tgt := 80) hx hb dX1_naming_46 (by decide) (fun c145 => ?_) (fun c145 => ?_)
          · have fc145 := z_eq (rfl : (r141).toInt = _) (by decide : ((-1) : Int32).toInt = (-1)) c145
            obtain ⟨v146, ev146⟩ : ∃ y : Int32, y = x138_6 + 1 := ⟨_, rfl⟩
            have tv146 := z_add ev146 rfl (by decide : (1 : Int32).toInt = 1) (by omega) (by omega)
            refine lv_iinc (v := v146) (lv' := [(6, .int v146), (7, .int r141), (5, .int x138_5), (4, .int x138_4), (0, .ref (g 11 3)), (1, .int a), (2, .int b), (3, .int d)]) hx hb dX1_naming_80 hl (k := 1) rfl (by rw [ev146]; rfl) (by decide) rfl (fun ls hl => ?_)
            refine lv_goto (tgt := 14) hx hb dX1_naming_83 (by decide) ?_
            exact ih139 v146 x138_5 x138_4 ⟨by omega, by omega⟩ (by omega) ⟨by omega, by omega⟩ (by omega) _ _ ls hP hD hS (lv_sub hl [0, 2, 3, 4, 5, 6, 7] rfl)
          · have fc145 := z_ne (rfl : (r141).toInt = _) (by decide : ((-1) : Int32).toInt = (-1)) c145
            refine lv_aload_n hx hb dX1_naming_49 rfl (lv_at hl 4 rfl) ?_
            refine gX_1_0 hx hb ht hown hK hP m_189 dX1_naming_50 ?_
            refine lv_iload hx hb dX1_naming_53 (lv_at hl 1 rfl) ?_
            refine lX_1_0 hx hb hK hP (f := (fa 1 0)) rfl (vp_in_iff.mpr ⟨by omega, by omega⟩) dX1_naming_55 ?_
            refine lv_topi (fun v147 ev147 => ?_)
            refine lv_iload hx hb dX1_naming_56 (lv_at hl 2 rfl) ?_
            refine lv_icmp_lt (tgt := 80) hx hb dX1_naming_58 (by decide) (fun c148 => ?_) (fun c148 => ?_)
            · have fc148 := z_lt (rfl : (v147).toInt = _) (rfl : (x138_5).toInt = _) c148
              obtain ⟨v149, ev149⟩ : ∃ y : Int32, y = x138_6 + 1 := ⟨_, rfl⟩
              have tv149 := z_add ev149 rfl (by decide : (1 : Int32).toInt = 1) (by omega) (by omega)
              refine lv_iinc (v := v149) (lv' := [(6, .int v149), (7, .int r141), (5, .int x138_5), (4, .int x138_4), (0, .ref (g 11 3)), (1, .int a), (2, .int b), (3, .int d)]) hx hb dX1_naming_80 hl (k := 1) rfl (by rw [ev149]; rfl) (by decide) rfl (fun ls hl => ?_)
              refine lv_goto (tgt := 14) hx hb dX1_naming_83 (by decide) ?_
              exact ih139 v149 x138_5 x138_4 ⟨by omega, by omega⟩ (by omega) ⟨by omega, by omega⟩ (by omega) _ _ ls hP hD hS (lv_sub hl [0, 2, 3, 4, 5, 6, 7] rfl)
            · have fc148 := z_nlt (rfl : (v147).toInt = _) (rfl : (x138_5).toInt = _) c148
              refine lv_iload hx hb dX1_naming_61 (lv_at hl 1 rfl) ?_
              refine lv_bipush (v := 100) hx hb dX1_naming_63 (by decide) ?_
              refine lv_imul hx hb dX1_naming_65 ?_
              refine lv_topi (fun v150 ev150 => ?_)
              have tv150 := z_mul ev150 (rfl : (x138_6).toInt = _) (by decide : (100 : Int32).toInt = 100) (by omega) (by omega)
              refine lv_iload hx hb dX1_naming_66 (lv_at hl 0 rfl) ?_
              refine lv_iadd hx hb dX1_naming_68 ?_
              refine lv_topi (fun v151 ev151 => ?_)
              have tv151 := z_add ev151 (rfl : (v150).toInt = _) (rfl : (r141).toInt = _) (by omega) (by omega)
              refine lv_istore (lv' := [(4, .int v151), (7, .int r141), (6, .int x138_6), (5, .int x138_5), (0, .ref (g 11 3)), (1, .int a), (2, .int b), (3, .int d)]) hx hb dX1_naming_69 hl (by decide) rfl (fun ls hl => ?_)
              refine lv_aload_n hx hb dX1_naming_71 rfl (lv_at hl 4 rfl) ?_
              refine gX_1_0 hx hb ht hown hK hP m_189 dX1_naming_72 ?_
              refine lv_iload hx hb dX1_naming_75 (lv_at hl 2 rfl) ?_
              refine lX_1_0 hx hb hK hP (f := (fa 1 0)) rfl (vp_in_iff.mpr ⟨by omega, by omega⟩) dX1_naming_77 ?_
              refine lv_topi (fun v152 ev152 => ?_)
              obtain rfl : v147 = v152 := ev147.trans ev152.symm
              refine lv_istore (lv' := [(5, .int v147), (4, .int v151), (7, .int r141), (6, .int x138_6), (0, .ref (g 11 3)), (1, .int a), (2, .int b), (3, .int d)]) hx hb dX1_naming_78 hl (by decide) rfl (fun ls hl => ?_)
              obtain ⟨v153, ev153⟩ : ∃ y : Int32, y = x138_6 + 1 := ⟨_, rfl⟩
              have tv153 := z_add ev153 rfl (by decide : (1 : Int32).toInt = 1) (by omega) (by omega)
              refine lv_iinc (v := v153) (lv' := [(6, .int v153), (5, .int v147), (4, .int v151), (7, .int r141), (0, .ref (g 11 3)), (1, .int a), (2, .int b), (3, .int d)]) hx hb dX1_naming_80 hl (k := 3) rfl (by rw [ev153]; rfl) (by decide) rfl (fun ls hl => ?_)
              refine lv_goto (tgt := 14) hx hb dX1_naming_83 (by decide) ?_
              exact ih139 v153 v147 v151 ⟨by omega, by omega⟩ (by omega) ⟨by omega, by omega⟩ (by omega) _ _ ls hP hD hS (lv_sub hl [0, 1, 2, 4, 5, 6, 7] rfl)
  exact lp139 9 0 (-1) (-1) ⟨by decide, by decide⟩ (by decide) ⟨by decide, by decide⟩ (by first | decide | omega) _ _ ls hP hD hS (lv_sub hl [0, 1, 2, 3, 4, 5, 6] rfl)
/-! ===== mtests ===== -/
theorem m_89 : Cond.initialized RX12 ∈ tb := mb_1_0 _ (List.mem_of_getElem? (i := 12) rfl)
theorem m_1139 : Cond.fieldLink RX12 171 "SilkHouseModel" "now" "I" ∈ tb := mb_5_4 _ (List.mem_of_getElem? (i := 4) rfl)
theorem m_1140 : Cond.fieldLink RX12 164 "SilkHouseModel" "bales" "I" ∈ tb := mb_5_4 _ (List.mem_of_getElem? (i := 5) rfl)
theorem m_1142 : Cond.fieldLink RX12 200 "SilkHouseModel" "skeins" "I" ∈ tb := mb_5_4 _ (List.mem_of_getElem? (i := 7) rfl)
theorem m_1206 : Cond.fieldLink RX12 429 "SilkHouseModel" "papers" "I" ∈ tb := mb_5_6 _ (List.mem_of_getElem? (i := 23) rfl)
theorem m_1370 : Cond.methodLink RX12 167 yX12_in ∈ tb := mb_6_0 _ (List.mem_of_getElem? (i := 5) rfl)
theorem m_1371 : Cond.static yX12_in ∈ tb := mb_6_0 _ (List.mem_of_getElem? (i := 6) rfl)
theorem m_1372 : Cond.code yX12_in cX12_in 6 (some .boolean) ∈ tb := mb_6_0 _ (List.mem_of_getElem? (i := 7) rfl)
theorem m_1393 : Cond.constantLong RX12 194 (9999) ∈ tb := mb_6_1 _ (List.mem_of_getElem? (i := 3) rfl)
theorem m_1425 : Cond.constantLong RX12 174 (3000) ∈ tb := mb_6_2 _ (List.mem_of_getElem? (i := 10) rfl)
theorem hd_X12_in_v : yX12_in.cls = RX12 ∧ yX12_in.cls ≠ "java/lang/invoke/MethodHandle" ∧ yX12_in.cls ≠ "java/lang/invoke/VarHandle" ∧ (parseMethodDescriptor yX12_in.desc).map (fun d => d.parameters.length) = some 3 := by decide +kernel
set_option maxRecDepth 100000 in
theorem dvX12_bit_0 : ([(0, .iload_n 0, 1), (1, .ifCond .eq 7, 3), (4, .iconst 1, 1), (5, .goto 4, 3), (8, .iconst 0, 1), (9, .ireturn, 1)] : List (Nat × Instr × Nat)).all (fun q => decide (decode cX12_bit q.1 = .ok (q.2.1, q.2.2))) = true := by decide +kernel
theorem dX12_bit_0 : decode cX12_bit 0 = .ok (.iload_n 0, 1) := all_at dvX12_bit_0 0 rfl
theorem dX12_bit_1 : decode cX12_bit 1 = .ok (.ifCond .eq 7, 3) := all_at dvX12_bit_0 1 rfl
theorem dX12_bit_4 : decode cX12_bit 4 = .ok (.iconst 1, 1) := all_at dvX12_bit_0 2 rfl
theorem dX12_bit_5 : decode cX12_bit 5 = .ok (.goto 4, 3) := all_at dvX12_bit_0 3 rfl
theorem dX12_bit_8 : decode cX12_bit 8 = .ok (.iconst 0, 1) := all_at dvX12_bit_0 4 rfl
theorem dX12_bit_9 : decode cX12_bit 9 = .ok (.ireturn, 1) := all_at dvX12_bit_0 5 rfl
set_option maxRecDepth 100000 in
theorem dvX12_in_0 : ([(0, .lload_n 0, 1), (1, .lload_n 2, 1), (2, .lcmp, 1), (3, .ifCond .lt 14, 3), (6, .lload_n 0, 1), (7, .lload 4, 2), (9, .lcmp, 1), (10, .ifCond .gt 7, 3), (13, .iconst 1, 1), (14, .goto 4, 3), (17, .iconst 0, 1), (18, .ireturn, 1)] : List (Nat × Instr × Nat)).all (fun q => decide (decode cX12_in q.1 = .ok (q.2.1, q.2.2))) = true := by decide +kernel
theorem dX12_in_0 : decode cX12_in 0 = .ok (.lload_n 0, 1) := all_at dvX12_in_0 0 rfl
theorem dX12_in_1 : decode cX12_in 1 = .ok (.lload_n 2, 1) := all_at dvX12_in_0 1 rfl
theorem dX12_in_2 : decode cX12_in 2 = .ok (.lcmp, 1) := all_at dvX12_in_0 2 rfl
theorem dX12_in_3 : decode cX12_in 3 = .ok (.ifCond .lt 14, 3) := all_at dvX12_in_0 3 rfl
theorem dX12_in_6 : decode cX12_in 6 = .ok (.lload_n 0, 1) := all_at dvX12_in_0 4 rfl
theorem dX12_in_7 : decode cX12_in 7 = .ok (.lload 4, 2) := all_at dvX12_in_0 5 rfl
theorem dX12_in_9 : decode cX12_in 9 = .ok (.lcmp, 1) := all_at dvX12_in_0 6 rfl
theorem dX12_in_10 : decode cX12_in 10 = .ok (.ifCond .gt 7, 3) := all_at dvX12_in_0 7 rfl
theorem dX12_in_13 : decode cX12_in 13 = .ok (.iconst 1, 1) := all_at dvX12_in_0 8 rfl
theorem dX12_in_14 : decode cX12_in 14 = .ok (.goto 4, 3) := all_at dvX12_in_0 9 rfl
theorem dX12_in_17 : decode cX12_in 17 = .ok (.iconst 0, 1) := all_at dvX12_in_0 10 rfl
theorem dX12_in_18 : decode cX12_in 18 = .ok (.ireturn, 1) := all_at dvX12_in_0 11 rfl
set_option maxRecDepth 100000 in
theorem dvX12_isDay_0 : ([(0, .iload_n 0, 1), (1, .i2l, 1), (2, .lconst 0, 1), (3, .ldc2_w 174, 3), (6, .invokestatic 167, 3), (9, .ireturn, 1)] : List (Nat × Instr × Nat)).all (fun q => decide (decode cX12_isDay q.1 = .ok (q.2.1, q.2.2))) = true := by decide +kernel
theorem dX12_isDay_0 : decode cX12_isDay 0 = .ok (.iload_n 0, 1) := all_at dvX12_isDay_0 0 rfl
theorem dX12_isDay_1 : decode cX12_isDay 1 = .ok (.i2l, 1) := all_at dvX12_isDay_0 1 rfl
theorem dX12_isDay_2 : decode cX12_isDay 2 = .ok (.lconst 0, 1) := all_at dvX12_isDay_0 2 rfl
theorem dX12_isDay_3 : decode cX12_isDay 3 = .ok (.ldc2_w 174, 3) := all_at dvX12_isDay_0 3 rfl
theorem dX12_isDay_6 : decode cX12_isDay 6 = .ok (.invokestatic 167, 3) := all_at dvX12_isDay_0 4 rfl
theorem dX12_isDay_9 : decode cX12_isDay 9 = .ok (.ireturn, 1) := all_at dvX12_isDay_0 5 rfl
set_option maxRecDepth 100000 in
theorem dvX12_isPast_0 : ([(0, .iload_n 1, 1), (1, .i2l, 1), (2, .lconst 0, 1), (3, .aload_n 0, 1), (4, .getfield 171, 3), (7, .i2l, 1), (8, .invokestatic 167, 3), (11, .ireturn, 1)] : List (Nat × Instr × Nat)).all (fun q => decide (decode cX12_isPast q.1 = .ok (q.2.1, q.2.2))) = true := by decide +kernel
theorem dX12_isPast_0 : decode cX12_isPast 0 = .ok (.iload_n 1, 1) := all_at dvX12_isPast_0 0 rfl
theorem dX12_isPast_1 : decode cX12_isPast 1 = .ok (.i2l, 1) := all_at dvX12_isPast_0 1 rfl
theorem dX12_isPast_2 : decode cX12_isPast 2 = .ok (.lconst 0, 1) := all_at dvX12_isPast_0 2 rfl
theorem dX12_isPast_3 : decode cX12_isPast 3 = .ok (.aload_n 0, 1) := all_at dvX12_isPast_0 3 rfl
theorem dX12_isPast_4 : decode cX12_isPast 4 = .ok (.getfield 171, 3) := all_at dvX12_isPast_0 4 rfl
theorem dX12_isPast_7 : decode cX12_isPast 7 = .ok (.i2l, 1) := all_at dvX12_isPast_0 5 rfl
theorem dX12_isPast_8 : decode cX12_isPast 8 = .ok (.invokestatic 167, 3) := all_at dvX12_isPast_0 6 rfl
theorem dX12_isPast_11 : decode cX12_isPast 11 = .ok (.ireturn, 1) := all_at dvX12_isPast_0 7 rfl
set_option maxRecDepth 100000 in
theorem dvX12_isWeight_0 : ([(0, .iload_n 0, 1), (1, .i2l, 1), (2, .lconst 1, 1), (3, .ldc2_w 194, 3), (6, .invokestatic 167, 3), (9, .ireturn, 1)] : List (Nat × Instr × Nat)).all (fun q => decide (decode cX12_isWeight q.1 = .ok (q.2.1, q.2.2))) = true := by decide +kernel
theorem dX12_isWeight_0 : decode cX12_isWeight 0 = .ok (.iload_n 0, 1) := all_at dvX12_isWeight_0 0 rfl
theorem dX12_isWeight_1 : decode cX12_isWeight 1 = .ok (.i2l, 1) := all_at dvX12_isWeight_0 1 rfl
theorem dX12_isWeight_2 : decode cX12_isWeight 2 = .ok (.lconst 1, 1) := all_at dvX12_isWeight_0 2 rfl
theorem dX12_isWeight_3 : decode cX12_isWeight 3 = .ok (.ldc2_w 194, 3) := all_at dvX12_isWeight_0 3 rfl
theorem dX12_isWeight_6 : decode cX12_isWeight 6 = .ok (.invokestatic 167, 3) := all_at dvX12_isWeight_0 4 rfl
theorem dX12_isWeight_9 : decode cX12_isWeight 9 = .ok (.ireturn, 1) := all_at dvX12_isWeight_0 5 rfl
set_option maxRecDepth 100000 in
theorem dvX12_noBale_0 : ([(0, .iload_n 1, 1), (1, .i2l, 1), (2, .lconst 0, 1), (3, .aload_n 0, 1), (4, .getfield 164, 3), (7, .iconst 1, 1), (8, .isub, 1), (9, .i2l, 1), (10, .invokestatic 167, 3), (13, .ifCond .ne 7, 3), (16, .iconst 1, 1), (17, .goto 4, 3), (20, .iconst 0, 1), (21, .ireturn, 1)] : List (Nat × Instr × Nat)).all (fun q => decide (decode cX12_noBale q.1 = .ok (q.2.1, q.2.2))) = true := by decide +kernel
theorem dX12_noBale_0 : decode cX12_noBale 0 = .ok (.iload_n 1, 1) := all_at dvX12_noBale_0 0 rfl
theorem dX12_noBale_1 : decode cX12_noBale 1 = .ok (.i2l, 1) := all_at dvX12_noBale_0 1 rfl
theorem dX12_noBale_2 : decode cX12_noBale 2 = .ok (.lconst 0, 1) := all_at dvX12_noBale_0 2 rfl
theorem dX12_noBale_3 : decode cX12_noBale 3 = .ok (.aload_n 0, 1) := all_at dvX12_noBale_0 3 rfl
theorem dX12_noBale_4 : decode cX12_noBale 4 = .ok (.getfield 164, 3) := all_at dvX12_noBale_0 4 rfl
theorem dX12_noBale_7 : decode cX12_noBale 7 = .ok (.iconst 1, 1) := all_at dvX12_noBale_0 5 rfl
theorem dX12_noBale_8 : decode cX12_noBale 8 = .ok (.isub, 1) := all_at dvX12_noBale_0 6 rfl
theorem dX12_noBale_9 : decode cX12_noBale 9 = .ok (.i2l, 1) := all_at dvX12_noBale_0 7 rfl
theorem dX12_noBale_10 : decode cX12_noBale 10 = .ok (.invokestatic 167, 3) := all_at dvX12_noBale_0 8 rfl
theorem dX12_noBale_13 : decode cX12_noBale 13 = .ok (.ifCond .ne 7, 3) := all_at dvX12_noBale_0 9 rfl
theorem dX12_noBale_16 : decode cX12_noBale 16 = .ok (.iconst 1, 1) := all_at dvX12_noBale_0 10 rfl
theorem dX12_noBale_17 : decode cX12_noBale 17 = .ok (.goto 4, 3) := all_at dvX12_noBale_0 11 rfl
theorem dX12_noBale_20 : decode cX12_noBale 20 = .ok (.iconst 0, 1) := all_at dvX12_noBale_0 12 rfl
theorem dX12_noBale_21 : decode cX12_noBale 21 = .ok (.ireturn, 1) := all_at dvX12_noBale_0 13 rfl
set_option maxRecDepth 100000 in
theorem dvX12_noPaper_0 : ([(0, .iload_n 1, 1), (1, .i2l, 1), (2, .lconst 0, 1), (3, .aload_n 0, 1), (4, .getfield 429, 3), (7, .iconst 1, 1), (8, .isub, 1), (9, .i2l, 1), (10, .invokestatic 167, 3), (13, .ifCond .ne 7, 3), (16, .iconst 1, 1), (17, .goto 4, 3), (20, .iconst 0, 1), (21, .ireturn, 1)] : List (Nat × Instr × Nat)).all (fun q => decide (decode cX12_noPaper q.1 = .ok (q.2.1, q.2.2))) = true := by decide +kernel
theorem dX12_noPaper_0 : decode cX12_noPaper 0 = .ok (.iload_n 1, 1) := all_at dvX12_noPaper_0 0 rfl
theorem dX12_noPaper_1 : decode cX12_noPaper 1 = .ok (.i2l, 1) := all_at dvX12_noPaper_0 1 rfl
theorem dX12_noPaper_2 : decode cX12_noPaper 2 = .ok (.lconst 0, 1) := all_at dvX12_noPaper_0 2 rfl
theorem dX12_noPaper_3 : decode cX12_noPaper 3 = .ok (.aload_n 0, 1) := all_at dvX12_noPaper_0 3 rfl
theorem dX12_noPaper_4 : decode cX12_noPaper 4 = .ok (.getfield 429, 3) := all_at dvX12_noPaper_0 4 rfl
theorem dX12_noPaper_7 : decode cX12_noPaper 7 = .ok (.iconst 1, 1) := all_at dvX12_noPaper_0 5 rfl
theorem dX12_noPaper_8 : decode cX12_noPaper 8 = .ok (.isub, 1) := all_at dvX12_noPaper_0 6 rfl
theorem dX12_noPaper_9 : decode cX12_noPaper 9 = .ok (.i2l, 1) := all_at dvX12_noPaper_0 7 rfl
theorem dX12_noPaper_10 : decode cX12_noPaper 10 = .ok (.invokestatic 167, 3) := all_at dvX12_noPaper_0 8 rfl
theorem dX12_noPaper_13 : decode cX12_noPaper 13 = .ok (.ifCond .ne 7, 3) := all_at dvX12_noPaper_0 9 rfl
theorem dX12_noPaper_16 : decode cX12_noPaper 16 = .ok (.iconst 1, 1) := all_at dvX12_noPaper_0 10 rfl
theorem dX12_noPaper_17 : decode cX12_noPaper 17 = .ok (.goto 4, 3) := all_at dvX12_noPaper_0 11 rfl
theorem dX12_noPaper_20 : decode cX12_noPaper 20 = .ok (.iconst 0, 1) := all_at dvX12_noPaper_0 12 rfl
theorem dX12_noPaper_21 : decode cX12_noPaper 21 = .ok (.ireturn, 1) := all_at dvX12_noPaper_0 13 rfl
set_option maxRecDepth 100000 in
theorem dvX12_noSkein_0 : ([(0, .iload_n 1, 1), (1, .i2l, 1), (2, .lconst 0, 1), (3, .aload_n 0, 1), (4, .getfield 200, 3), (7, .iconst 1, 1), (8, .isub, 1), (9, .i2l, 1), (10, .invokestatic 167, 3), (13, .ifCond .ne 7, 3), (16, .iconst 1, 1), (17, .goto 4, 3), (20, .iconst 0, 1), (21, .ireturn, 1)] : List (Nat × Instr × Nat)).all (fun q => decide (decode cX12_noSkein q.1 = .ok (q.2.1, q.2.2))) = true := by decide +kernel
theorem dX12_noSkein_0 : decode cX12_noSkein 0 = .ok (.iload_n 1, 1) := all_at dvX12_noSkein_0 0 rfl
theorem dX12_noSkein_1 : decode cX12_noSkein 1 = .ok (.i2l, 1) := all_at dvX12_noSkein_0 1 rfl
theorem dX12_noSkein_2 : decode cX12_noSkein 2 = .ok (.lconst 0, 1) := all_at dvX12_noSkein_0 2 rfl
theorem dX12_noSkein_3 : decode cX12_noSkein 3 = .ok (.aload_n 0, 1) := all_at dvX12_noSkein_0 3 rfl
theorem dX12_noSkein_4 : decode cX12_noSkein 4 = .ok (.getfield 200, 3) := all_at dvX12_noSkein_0 4 rfl
theorem dX12_noSkein_7 : decode cX12_noSkein 7 = .ok (.iconst 1, 1) := all_at dvX12_noSkein_0 5 rfl
theorem dX12_noSkein_8 : decode cX12_noSkein 8 = .ok (.isub, 1) := all_at dvX12_noSkein_0 6 rfl
theorem dX12_noSkein_9 : decode cX12_noSkein 9 = .ok (.i2l, 1) := all_at dvX12_noSkein_0 7 rfl
theorem dX12_noSkein_10 : decode cX12_noSkein 10 = .ok (.invokestatic 167, 3) := all_at dvX12_noSkein_0 8 rfl
theorem dX12_noSkein_13 : decode cX12_noSkein 13 = .ok (.ifCond .ne 7, 3) := all_at dvX12_noSkein_0 9 rfl
theorem dX12_noSkein_16 : decode cX12_noSkein 16 = .ok (.iconst 1, 1) := all_at dvX12_noSkein_0 10 rfl
theorem dX12_noSkein_17 : decode cX12_noSkein 17 = .ok (.goto 4, 3) := all_at dvX12_noSkein_0 11 rfl
theorem dX12_noSkein_20 : decode cX12_noSkein 20 = .ok (.iconst 0, 1) := all_at dvX12_noSkein_0 12 rfl
theorem dX12_noSkein_21 : decode cX12_noSkein 21 = .ok (.ireturn, 1) := all_at dvX12_noSkein_0 13 rfl
set_option maxRecDepth 100000 in
theorem dvX12_plain_0 : ([(0, .lload_n 0, 1), (1, .lconst 0, 1), (2, .lcmp, 1), (3, .ifCond .ge 9, 3), (6, .lconst 0, 1), (7, .lload_n 0, 1), (8, .lsub, 1), (9, .goto 4, 3), (12, .lload_n 0, 1), (13, .lreturn, 1)] : List (Nat × Instr × Nat)).all (fun q => decide (decode cX12_plain q.1 = .ok (q.2.1, q.2.2))) = true := by decide +kernel
theorem dX12_plain_0 : decode cX12_plain 0 = .ok (.lload_n 0, 1) := all_at dvX12_plain_0 0 rfl
theorem dX12_plain_1 : decode cX12_plain 1 = .ok (.lconst 0, 1) := all_at dvX12_plain_0 1 rfl
theorem dX12_plain_2 : decode cX12_plain 2 = .ok (.lcmp, 1) := all_at dvX12_plain_0 2 rfl
theorem dX12_plain_3 : decode cX12_plain 3 = .ok (.ifCond .ge 9, 3) := all_at dvX12_plain_0 3 rfl
theorem dX12_plain_6 : decode cX12_plain 6 = .ok (.lconst 0, 1) := all_at dvX12_plain_0 4 rfl
theorem dX12_plain_7 : decode cX12_plain 7 = .ok (.lload_n 0, 1) := all_at dvX12_plain_0 5 rfl
theorem dX12_plain_8 : decode cX12_plain 8 = .ok (.lsub, 1) := all_at dvX12_plain_0 6 rfl
theorem dX12_plain_9 : decode cX12_plain 9 = .ok (.goto 4, 3) := all_at dvX12_plain_0 7 rfl
theorem dX12_plain_12 : decode cX12_plain 12 = .ok (.lload_n 0, 1) := all_at dvX12_plain_0 8 rfl
theorem dX12_plain_13 : decode cX12_plain 13 = .ok (.lreturn, 1) := all_at dvX12_plain_0 9 rfl
set_option maxHeartbeats 4000000 in
set_option maxRecDepth 100000 in
/-- X12_in -/
theorem c_X12_in (l : Launch) (dC : Nat → ClassId) (dI : Nat → Nat → Nat) (n : Int64) (lo : Int64) (hi : Int64) (N L M : Int) (hn : n.toInt = N) (hlo : lo.toInt = L) (hhi : hi.toInt = M) : Met l yX12_in (wc yX12_in cX12_in 6 (some .boolean)) ({ frames := 0, cells := 0, slots := 0, locals := 0 } : Room) (pR (dC, dI) classes [] [] [.long n, .long lo, .long hi]) (vp_Si (fun r => (r = 1 ∧ (L ≤ N ∧ N ≤ M)) ∨ (r = 0 ∧ ¬ (L ≤ N ∧ N ≤ M)))) 0 0 (fun _ => False) := by
  refine Met.ofW (cc := cX12_in) (maxL := 6) (ret := (some .boolean)) (by decide) rfl ?_
  intro p e s m args below meth c s₁ B hml hv
  obtain ⟨rfl, hP, hK⟩ := hv
  have hx := B.exec
  have hb := B.bytes
  have hr := B.returns
  have ht := tb_tl (atoms_spec (ws := wc yX12_in cX12_in 6 (some .boolean)) B.pre)
  have hown : s.vm.findClass RX12 = some m.cls := findClass_of_methodNamed B.named
  have hlocks := B.notSynchronized
  have hl := lv_entry [.long n, .long lo, .long hi] (n := 6) (Nat.le_of_ble_eq_true rfl)
  rw [lg_entry_eq]
  generalize (lg_sl [.long n, .long lo, .long hi] ++ List.replicate (6 - (lg_sl [.long n, .long lo, .long hi]).length) Slot.unset).toArray = ls at hl ⊢
  have hl : lv_has ls 6 [(0, .long n), (2, .long lo), (4, .long hi)] := hl
  refine lv_lload_n hx hb dX12_in_0 rfl (lv_at hl 0 rfl) ?_
  refine lv_lload_n hx hb dX12_in_1 rfl (lv_at hl 1 rfl) ?_
  refine W.lcmp hx hb dX12_in_2 ?_
  refine lv_topi (fun v1 ev1 => ?_)
  refine lv_if_lt (tgt := 17) hx hb dX12_in_3 (by decide) (fun c2 => ?_) (fun c2 => ?_)
  · have fc2 := zc_lt ev1 hn hlo c2
    refine lv_iconst (v := 0) hx hb dX12_in_17 (by decide) ?_
    exact W.zret (v := 0) hx hb hr rfl (fun t ht9 hW => ⟨0, rfl, Or.inr ⟨rfl, by omega⟩, ht9⟩) (fun q hq => by cases hq) dX12_in_18
  · have fc2 := zc_nlt ev1 hn hlo c2
    refine lv_lload_n hx hb dX12_in_6 rfl (lv_at hl 0 rfl) ?_
    refine lv_lload hx hb dX12_in_7 (lv_at hl 2 rfl) ?_
    refine W.lcmp hx hb dX12_in_9 ?_
    refine lv_topi (fun v3 ev3 => ?_)
    refine lv_if_gt (tgt := 17) hx hb dX12_in_10 (by decide) (fun c4 => ?_) (fun c4 => ?_)
    · have fc4 := zc_gt ev3 hn hhi c4
      refine lv_iconst (v := 0) hx hb dX12_in_17 (by decide) ?_
      exact W.zret (v := 0) hx hb hr rfl (fun t ht9 hW => ⟨0, rfl, Or.inr ⟨rfl, by omega⟩, ht9⟩) (fun q hq => by cases hq) dX12_in_18
    · have fc4 := zc_ngt ev3 hn hhi c4
      refine lv_iconst (v := 1) hx hb dX12_in_13 (by decide) ?_
      refine lv_goto (tgt := 18) hx hb dX12_in_14 (by decide) ?_
      exact W.zret (v := 1) hx hb hr rfl (fun t ht9 hW => ⟨1, rfl, Or.inl ⟨rfl, by omega⟩, ht9⟩) (fun q hq => by cases hq) dX12_in_18
set_option maxHeartbeats 4000000 in
set_option maxRecDepth 100000 in
/-- X12_bit -/
theorem c_X12_bit (l : Launch) (dC : Nat → ClassId) (dI : Nat → Nat → Nat) (a : Int32) (h_a : 0 ≤ a.toInt ∧ a.toInt ≤ 1) : Met l yX12_bit (wc yX12_bit cX12_bit 1 (some .int)) ({ frames := 0, cells := 0, slots := 0, locals := 0 } : Room) (pR (dC, dI) classes [] [] [.int a]) (vp_Si (fun r => 0 ≤ r.toInt ∧ r.toInt ≤ 1)) 0 0 (fun _ => False) := by
  refine Met.ofW (cc := cX12_bit) (maxL := 1) (ret := (some .int)) (by decide) rfl ?_
  intro p e s m args below meth c s₁ B hml hv
  obtain ⟨rfl, hP, hK⟩ := hv
  have hx := B.exec
  have hb := B.bytes
  have hr := B.returns
  have ht := tb_tl (atoms_spec (ws := wc yX12_bit cX12_bit 1 (some .int)) B.pre)
  have hown : s.vm.findClass RX12 = some m.cls := findClass_of_methodNamed B.named
  have hlocks := B.notSynchronized
  have hl := lv_entry [.int a] (n := 1) (Nat.le_of_ble_eq_true rfl)
  rw [lg_entry_eq]
  generalize (lg_sl [.int a] ++ List.replicate (1 - (lg_sl [.int a]).length) Slot.unset).toArray = ls at hl ⊢
  have hl : lv_has ls 1 [(0, .int a)] := hl
  refine lv_iload_n hx hb dX12_bit_0 rfl (lv_at hl 0 rfl) ?_
  refine lv_if_eq (tgt := 8) hx hb dX12_bit_1 (by decide) (fun c1 => ?_) (fun c1 => ?_)
  · have fc1 := z_eq (rfl : (a).toInt = _) (by decide : (0 : Int32).toInt = 0) c1
    refine lv_iconst (v := 0) hx hb dX12_bit_8 (by decide) ?_
    exact W.iret (v := 0) hx hb hr (fun t ht9 hW => ⟨0, rfl, ⟨by decide, by decide⟩, ht9⟩) (fun q hq => by cases hq) dX12_bit_9
  · have fc1 := z_ne (rfl : (a).toInt = _) (by decide : (0 : Int32).toInt = 0) c1
    refine lv_iconst (v := 1) hx hb dX12_bit_4 (by decide) ?_
    refine lv_goto (tgt := 9) hx hb dX12_bit_5 (by decide) ?_
    exact W.iret (v := 1) hx hb hr (fun t ht9 hW => ⟨1, rfl, ⟨by decide, by decide⟩, ht9⟩) (fun q hq => by cases hq) dX12_bit_9
set_option maxHeartbeats 4000000 in
set_option maxRecDepth 100000 in
/-- X12_plain -/
theorem c_X12_plain (l : Launch) (dC : Nat → ClassId) (dI : Nat → Nat → Nat) (a : Int64) : Met l yX12_plain (wc yX12_plain cX12_plain 2 (some .long)) ({ frames := 0, cells := 0, slots := 0, locals := 0 } : Room) (pR (dC, dI) classes [] [] [.long a]) (vp_Sl (fun r => True)) 0 0 (fun _ => False) := by
  refine Met.ofW (cc := cX12_plain) (maxL := 2) (ret := (some .long)) (by decide) rfl ?_
  intro p e s m args below meth c s₁ B hml hv
  obtain ⟨rfl, hP, hK⟩ := hv
  have hx := B.exec
  have hb := B.bytes
  have hr := B.returns
  have ht := tb_tl (atoms_spec (ws := wc yX12_plain cX12_plain 2 (some .long)) B.pre)
  have hown : s.vm.findClass RX12 = some m.cls := findClass_of_methodNamed B.named
  have hlocks := B.notSynchronized
  have hl := lv_entry [.long a] (n := 2) (Nat.le_of_ble_eq_true rfl)
  rw [lg_entry_eq]
  generalize (lg_sl [.long a] ++ List.replicate (2 - (lg_sl [.long a]).length) Slot.unset).toArray = ls at hl ⊢
  have hl : lv_has ls 2 [(0, .long a)] := hl
  refine lv_lload_n hx hb dX12_plain_0 rfl (lv_at hl 0 rfl) ?_
  refine lv_lconst (v := 0) hx hb dX12_plain_1 (by decide) ?_
  refine W.lcmp hx hb dX12_plain_2 ?_
  refine lv_topi (fun v1 ev1 => ?_)
  refine lv_if_ge (tgt := 12) hx hb dX12_plain_3 (by decide) (fun c2 => ?_) (fun c2 => ?_)
  · have fc2 := zc_nlt ev1 (rfl : (a).toInt = _) (by decide : (0 : Int64).toInt = 0) (Int32.not_lt.mpr c2)
    refine lv_lload_n hx hb dX12_plain_12 rfl (lv_at hl 0 rfl) ?_
    exact W.lret (v := a) hx hb hr (fun t ht9 hW => ⟨a, rfl, trivial, ht9⟩) (fun q hq => by cases hq) dX12_plain_13
  · have fc2 := zc_lt ev1 (rfl : (a).toInt = _) (by decide : (0 : Int64).toInt = 0) (Int32.not_le.mp c2)
    refine lv_lconst (v := 0) hx hb dX12_plain_6 (by decide) ?_
    refine lv_lload_n hx hb dX12_plain_7 rfl (lv_at hl 0 rfl) ?_
    refine lv_lsub hx hb dX12_plain_8 ?_
    refine lv_topl (fun w3 ew3 => ?_)
    refine lv_goto (tgt := 13) hx hb dX12_plain_9 (by decide) ?_
    exact W.lret (v := w3) hx hb hr (fun t ht9 hW => ⟨w3, rfl, trivial, ht9⟩) (fun q hq => by cases hq) dX12_plain_13
set_option maxHeartbeats 4000000 in
set_option maxRecDepth 100000 in
/-- X12_noBale -/
theorem c_X12_noBale (l : Launch) (dC : Nat → ClassId) (dI : Nat → Nat → Nat) (h : Nat) (g : Nat → Nat → Nat) (ca : Nat → Nat → ClassId) (iv : Nat → Nat → Int32) (lv : Nat → Nat → Int64) (fa : Nat → Nat → Nat → Int32) (la : Nat → Nat → Nat → Int64) (hI : IX iv fa) (a : Int32) : Met l yX12_noBale (wc yX12_noBale cX12_noBale 2 (some .boolean)) ({ frames := 1, cells := 0, slots := 0, locals := 25 } : Room) (pR (dC, dI) classes (WM h g ca iv lv fa la) (TM ca) [.ref h, .int a]) (vp_Si (fun r => (r = 1 ∧ (¬ (0 ≤ a.toInt ∧ a.toInt < (iv 12 1).toInt))) ∨ (r = 0 ∧ ¬ (¬ (0 ≤ a.toInt ∧ a.toInt < (iv 12 1).toInt))))) 0 0 (fun _ => False) := by
  refine Met.ofW (cc := cX12_noBale) (maxL := 2) (ret := (some .boolean)) (by decide) rfl ?_
  intro p e s m args below meth c s₁ B hml hv
  obtain ⟨rfl, hP, hK⟩ := hv
  have hx := B.exec
  have hb := B.bytes
  have hr := B.returns
  have ht := tb_tl (atoms_spec (ws := wc yX12_noBale cX12_noBale 2 (some .boolean)) B.pre)
  have hown : s.vm.findClass RX12 = some m.cls := findClass_of_methodNamed B.named
  have hlocks := B.notSynchronized
  have hl := lv_entry [.ref h, .int a] (n := 2) (Nat.le_of_ble_eq_true rfl)
  rw [lg_entry_eq]
  generalize (lg_sl [.ref h, .int a] ++ List.replicate (2 - (lg_sl [.ref h, .int a]).length) Slot.unset).toArray = ls at hl ⊢
  have hl : lv_has ls 2 [(0, .ref h), (1, .int a)] := hl
  refine lv_iload_n hx hb dX12_noBale_0 rfl (lv_at hl 1 rfl) ?_
  refine lv_i2l (v := (a.toInt64)) hx hb dX12_noBale_1 rfl ?_
  refine lv_lconst (v := 0) hx hb dX12_noBale_2 (by decide) ?_
  refine lv_aload_n hx hb dX12_noBale_3 rfl (lv_at hl 0 rfl) ?_
  have i_12_1 : 0 ≤ (iv 12 1).toInt ∧ (iv 12 1).toInt ≤ 10 := hI.1 12 1
  refine gM_12_1 hx hb ht hown hK hP m_1140 (v := (iv 12 1)) rfl dX12_noBale_4 ?_
  refine lv_iconst (v := 1) hx hb dX12_noBale_7 (by decide) ?_
  refine lv_isub hx hb dX12_noBale_8 ?_
  refine lv_topi (fun v1 ev1 => ?_)
  have tv1 := z_sub ev1 (rfl : ((iv 12 1)).toInt = _) (by decide : (1 : Int32).toInt = 1) (by omega) (by omega)
  refine lv_i2l (v := (v1.toInt64)) hx hb dX12_noBale_9 rfl ?_
  refine vp_callSi (W.runS (As := [.long (a.toInt64), .long 0, .long (v1.toInt64)]) (rest := []) ⟨hx, hb, hml, hown, ht⟩ (c_X12_in l dC dI (a.toInt64) 0 (v1.toInt64) (a.toInt) (0) (v1.toInt) ((Int32.toInt_toInt64 a).trans rfl) (by decide : (0 : Int64).toInt = 0) ((Int32.toInt_toInt64 v1).trans rfl)) (kS 3 ht m_1370 m_1371 m_89 m_1372 rfl rfl hd_X12_in_v ⟨Nat.le_of_ble_eq_true rfl, Nat.le_of_ble_eq_true rfl⟩) (sR noP (hK.sub (tys' := []) [] rfl)) rfl rfl hl.1 rfl (lv_room (Nat.le_of_ble_eq_true rfl)) dX12_noBale_10 ⟨Nat.le_of_ble_eq_true rfl, Nat.le_of_ble_eq_true rfl⟩) (fun r2 hr2 => ?_)
  rcases hr2 with ⟨rfl, fr2⟩ | ⟨rfl, fr2⟩
  · skip
    refine lv_if_ne (tgt := 20) hx hb dX12_noBale_13 (by decide) (fun c3 => ?_) (fun c3 => ?_)
    · skip
      refine lv_iconst (v := 0) hx hb dX12_noBale_20 (by decide) ?_
      exact W.zret (v := 0) hx hb hr rfl (fun t ht9 hW => ⟨0, rfl, Or.inr ⟨rfl, by omega⟩, ht9⟩) (fun q hq => by cases hq) dX12_noBale_21
    · exact absurd c3 (by decide)
  · skip
    refine lv_if_ne (tgt := 20) hx hb dX12_noBale_13 (by decide) (fun c4 => ?_) (fun c4 => ?_)
    · exact absurd rfl c4
    · skip
      refine lv_iconst (v := 1) hx hb dX12_noBale_16 (by decide) ?_
      refine lv_goto (tgt := 21) hx hb dX12_noBale_17 (by decide) ?_
      exact W.zret (v := 1) hx hb hr rfl (fun t ht9 hW => ⟨1, rfl, Or.inl ⟨rfl, by omega⟩, ht9⟩) (fun q hq => by cases hq) dX12_noBale_21
set_option maxHeartbeats 4000000 in
set_option maxRecDepth 100000 in
/-- X12_noSkein -/
theorem c_X12_noSkein (l : Launch) (dC : Nat → ClassId) (dI : Nat → Nat → Nat) (h : Nat) (g : Nat → Nat → Nat) (ca : Nat → Nat → ClassId) (iv : Nat → Nat → Int32) (lv : Nat → Nat → Int64) (fa : Nat → Nat → Nat → Int32) (la : Nat → Nat → Nat → Int64) (hI : IX iv fa) (a : Int32) : Met l yX12_noSkein (wc yX12_noSkein cX12_noSkein 2 (some .boolean)) ({ frames := 1, cells := 0, slots := 0, locals := 25 } : Room) (pR (dC, dI) classes (WM h g ca iv lv fa la) (TM ca) [.ref h, .int a]) (vp_Si (fun r => (r = 1 ∧ (¬ (0 ≤ a.toInt ∧ a.toInt < (iv 12 3).toInt))) ∨ (r = 0 ∧ ¬ (¬ (0 ≤ a.toInt ∧ a.toInt < (iv 12 3).toInt))))) 0 0 (fun _ => False) := by
  refine Met.ofW (cc := cX12_noSkein) (maxL := 2) (ret := (some .boolean)) (by decide) rfl ?_
  intro p e s m args below meth c s₁ B hml hv
  obtain ⟨rfl, hP, hK⟩ := hv
  have hx := B.exec
  have hb := B.bytes
  have hr := B.returns
  have ht := tb_tl (atoms_spec (ws := wc yX12_noSkein cX12_noSkein 2 (some .boolean)) B.pre)
  have hown : s.vm.findClass RX12 = some m.cls := findClass_of_methodNamed B.named
  have hlocks := B.notSynchronized
  have hl := lv_entry [.ref h, .int a] (n := 2) (Nat.le_of_ble_eq_true rfl)
  rw [lg_entry_eq]
  generalize (lg_sl [.ref h, .int a] ++ List.replicate (2 - (lg_sl [.ref h, .int a]).length) Slot.unset).toArray = ls at hl ⊢
  have hl : lv_has ls 2 [(0, .ref h), (1, .int a)] := hl
  refine lv_iload_n hx hb dX12_noSkein_0 rfl (lv_at hl 1 rfl) ?_
  refine lv_i2l (v := (a.toInt64)) hx hb dX12_noSkein_1 rfl ?_
  refine lv_lconst (v := 0) hx hb dX12_noSkein_2 (by decide) ?_
  refine lv_aload_n hx hb dX12_noSkein_3 rfl (lv_at hl 0 rfl) ?_
  have i_12_3 : 0 ≤ (iv 12 3).toInt ∧ (iv 12 3).toInt ≤ 60 := hI.1 12 3
  refine gM_12_3 hx hb ht hown hK hP m_1142 (v := (iv 12 3)) rfl dX12_noSkein_4 ?_
  refine lv_iconst (v := 1) hx hb dX12_noSkein_7 (by decide) ?_
  refine lv_isub hx hb dX12_noSkein_8 ?_
  refine lv_topi (fun v1 ev1 => ?_)
  have tv1 := z_sub ev1 (rfl : ((iv 12 3)).toInt = _) (by decide : (1 : Int32).toInt = 1) (by omega) (by omega)
  refine lv_i2l (v := (v1.toInt64)) hx hb dX12_noSkein_9 rfl ?_
  refine vp_callSi (W.runS (As := [.long (a.toInt64), .long 0, .long (v1.toInt64)]) (rest := []) ⟨hx, hb, hml, hown, ht⟩ (c_X12_in l dC dI (a.toInt64) 0 (v1.toInt64) (a.toInt) (0) (v1.toInt) ((Int32.toInt_toInt64 a).trans rfl) (by decide : (0 : Int64).toInt = 0) ((Int32.toInt_toInt64 v1).trans rfl)) (kS 3 ht m_1370 m_1371 m_89 m_1372 rfl rfl hd_X12_in_v ⟨Nat.le_of_ble_eq_true rfl, Nat.le_of_ble_eq_true rfl⟩) (sR noP (hK.sub (tys' := []) [] rfl)) rfl rfl hl.1 rfl (lv_room (Nat.le_of_ble_eq_true rfl)) dX12_noSkein_10 ⟨Nat.le_of_ble_eq_true rfl, Nat.le_of_ble_eq_true rfl⟩) (fun r2 hr2 => ?_)
  rcases hr2 with ⟨rfl, fr2⟩ | ⟨rfl, fr2⟩
  · skip
    refine lv_if_ne (tgt := 20) hx hb dX12_noSkein_13 (by decide) (fun c3 => ?_) (fun c3 => ?_)
    · skip
      refine lv_iconst (v := 0) hx hb dX12_noSkein_20 (by decide) ?_
      exact W.zret (v := 0) hx hb hr rfl (fun t ht9 hW => ⟨0, rfl, Or.inr ⟨rfl, by omega⟩, ht9⟩) (fun q hq => by cases hq) dX12_noSkein_21
    · exact absurd c3 (by decide)
  · skip
    refine lv_if_ne (tgt := 20) hx hb dX12_noSkein_13 (by decide) (fun c4 => ?_) (fun c4 => ?_)
    · exact absurd rfl c4
    · skip
      refine lv_iconst (v := 1) hx hb dX12_noSkein_16 (by decide) ?_
      refine lv_goto (tgt := 21) hx hb dX12_noSkein_17 (by decide) ?_
      exact W.zret (v := 1) hx hb hr rfl (fun t ht9 hW => ⟨1, rfl, Or.inl ⟨rfl, by omega⟩, ht9⟩) (fun q hq => by cases hq) dX12_noSkein_21
set_option maxHeartbeats 4000000 in
set_option maxRecDepth 100000 in
/-- X12_noPaper -/
theorem c_X12_noPaper (l : Launch) (dC : Nat → ClassId) (dI : Nat → Nat → Nat) (h : Nat) (g : Nat → Nat → Nat) (ca : Nat → Nat → ClassId) (iv : Nat → Nat → Int32) (lv : Nat → Nat → Int64) (fa : Nat → Nat → Nat → Int32) (la : Nat → Nat → Nat → Int64) (hI : IX iv fa) (a : Int32) : Met l yX12_noPaper (wc yX12_noPaper cX12_noPaper 2 (some .boolean)) ({ frames := 1, cells := 0, slots := 0, locals := 25 } : Room) (pR (dC, dI) classes (WM h g ca iv lv fa la) (TM ca) [.ref h, .int a]) (vp_Si (fun r => (r = 1 ∧ (¬ (0 ≤ a.toInt ∧ a.toInt < (iv 12 67).toInt))) ∨ (r = 0 ∧ ¬ (¬ (0 ≤ a.toInt ∧ a.toInt < (iv 12 67).toInt))))) 0 0 (fun _ => False) := by
  refine Met.ofW (cc := cX12_noPaper) (maxL := 2) (ret := (some .boolean)) (by decide) rfl ?_
  intro p e s m args below meth c s₁ B hml hv
  obtain ⟨rfl, hP, hK⟩ := hv
  have hx := B.exec
  have hb := B.bytes
  have hr := B.returns
  have ht := tb_tl (atoms_spec (ws := wc yX12_noPaper cX12_noPaper 2 (some .boolean)) B.pre)
  have hown : s.vm.findClass RX12 = some m.cls := findClass_of_methodNamed B.named
  have hlocks := B.notSynchronized
  have hl := lv_entry [.ref h, .int a] (n := 2) (Nat.le_of_ble_eq_true rfl)
  rw [lg_entry_eq]
  generalize (lg_sl [.ref h, .int a] ++ List.replicate (2 - (lg_sl [.ref h, .int a]).length) Slot.unset).toArray = ls at hl ⊢
  have hl : lv_has ls 2 [(0, .ref h), (1, .int a)] := hl
  refine lv_iload_n hx hb dX12_noPaper_0 rfl (lv_at hl 1 rfl) ?_
  refine lv_i2l (v := (a.toInt64)) hx hb dX12_noPaper_1 rfl ?_
  refine lv_lconst (v := 0) hx hb dX12_noPaper_2 (by decide) ?_
  refine lv_aload_n hx hb dX12_noPaper_3 rfl (lv_at hl 0 rfl) ?_
  have i_12_67 : 0 ≤ (iv 12 67).toInt ∧ (iv 12 67).toInt ≤ 40 := hI.1 12 67
  refine gM_12_67 hx hb ht hown hK hP m_1206 (v := (iv 12 67)) rfl dX12_noPaper_4 ?_
  refine lv_iconst (v := 1) hx hb dX12_noPaper_7 (by decide) ?_
  refine lv_isub hx hb dX12_noPaper_8 ?_
  refine lv_topi (fun v1 ev1 => ?_)
  have tv1 := z_sub ev1 (rfl : ((iv 12 67)).toInt = _) (by decide : (1 : Int32).toInt = 1) (by omega) (by omega)
  refine lv_i2l (v := (v1.toInt64)) hx hb dX12_noPaper_9 rfl ?_
  refine vp_callSi (W.runS (As := [.long (a.toInt64), .long 0, .long (v1.toInt64)]) (rest := []) ⟨hx, hb, hml, hown, ht⟩ (c_X12_in l dC dI (a.toInt64) 0 (v1.toInt64) (a.toInt) (0) (v1.toInt) ((Int32.toInt_toInt64 a).trans rfl) (by decide : (0 : Int64).toInt = 0) ((Int32.toInt_toInt64 v1).trans rfl)) (kS 3 ht m_1370 m_1371 m_89 m_1372 rfl rfl hd_X12_in_v ⟨Nat.le_of_ble_eq_true rfl, Nat.le_of_ble_eq_true rfl⟩) (sR noP (hK.sub (tys' := []) [] rfl)) rfl rfl hl.1 rfl (lv_room (Nat.le_of_ble_eq_true rfl)) dX12_noPaper_10 ⟨Nat.le_of_ble_eq_true rfl, Nat.le_of_ble_eq_true rfl⟩) (fun r2 hr2 => ?_)
  rcases hr2 with ⟨rfl, fr2⟩ | ⟨rfl, fr2⟩
  · skip
    refine lv_if_ne (tgt := 20) hx hb dX12_noPaper_13 (by decide) (fun c3 => ?_) (fun c3 => ?_)
    · skip
      refine lv_iconst (v := 0) hx hb dX12_noPaper_20 (by decide) ?_
      exact W.zret (v := 0) hx hb hr rfl (fun t ht9 hW => ⟨0, rfl, Or.inr ⟨rfl, by omega⟩, ht9⟩) (fun q hq => by cases hq) dX12_noPaper_21
    · exact absurd c3 (by decide)
  · skip
    refine lv_if_ne (tgt := 20) hx hb dX12_noPaper_13 (by decide) (fun c4 => ?_) (fun c4 => ?_)
    · exact absurd rfl c4
    · skip
      refine lv_iconst (v := 1) hx hb dX12_noPaper_16 (by decide) ?_
      refine lv_goto (tgt := 21) hx hb dX12_noPaper_17 (by decide) ?_
      exact W.zret (v := 1) hx hb hr rfl (fun t ht9 hW => ⟨1, rfl, Or.inl ⟨rfl, by omega⟩, ht9⟩) (fun q hq => by cases hq) dX12_noPaper_21
set_option maxHeartbeats 4000000 in
set_option maxRecDepth 100000 in
/-- X12_isPast -/
theorem c_X12_isPast (l : Launch) (dC : Nat → ClassId) (dI : Nat → Nat → Nat) (h : Nat) (g : Nat → Nat → Nat) (ca : Nat → Nat → ClassId) (iv : Nat → Nat → Int32) (lv : Nat → Nat → Int64) (fa : Nat → Nat → Nat → Int32) (la : Nat → Nat → Nat → Int64) (hI : IX iv fa) (a : Int32) : Met l yX12_isPast (wc yX12_isPast cX12_isPast 2 (some .boolean)) ({ frames := 1, cells := 0, slots := 0, locals := 25 } : Room) (pR (dC, dI) classes (WM h g ca iv lv fa la) (TM ca) [.ref h, .int a]) (vp_Si (fun r => (r = 1 ∧ (0 ≤ a.toInt ∧ a.toInt ≤ (iv 12 0).toInt)) ∨ (r = 0 ∧ ¬ (0 ≤ a.toInt ∧ a.toInt ≤ (iv 12 0).toInt)))) 0 0 (fun _ => False) := by
  refine Met.ofW (cc := cX12_isPast) (maxL := 2) (ret := (some .boolean)) (by decide) rfl ?_
  intro p e s m args below meth c s₁ B hml hv
  obtain ⟨rfl, hP, hK⟩ := hv
  have hx := B.exec
  have hb := B.bytes
  have hr := B.returns
  have ht := tb_tl (atoms_spec (ws := wc yX12_isPast cX12_isPast 2 (some .boolean)) B.pre)
  have hown : s.vm.findClass RX12 = some m.cls := findClass_of_methodNamed B.named
  have hlocks := B.notSynchronized
  have hl := lv_entry [.ref h, .int a] (n := 2) (Nat.le_of_ble_eq_true rfl)
  rw [lg_entry_eq]
  generalize (lg_sl [.ref h, .int a] ++ List.replicate (2 - (lg_sl [.ref h, .int a]).length) Slot.unset).toArray = ls at hl ⊢
  have hl : lv_has ls 2 [(0, .ref h), (1, .int a)] := hl
  refine lv_iload_n hx hb dX12_isPast_0 rfl (lv_at hl 1 rfl) ?_
  refine lv_i2l (v := (a.toInt64)) hx hb dX12_isPast_1 rfl ?_
  refine lv_lconst (v := 0) hx hb dX12_isPast_2 (by decide) ?_
  refine lv_aload_n hx hb dX12_isPast_3 rfl (lv_at hl 0 rfl) ?_
  have i_12_0 : 0 ≤ (iv 12 0).toInt ∧ (iv 12 0).toInt ≤ 3000 := hI.1 12 0
  refine gM_12_0 hx hb ht hown hK hP m_1139 (v := (iv 12 0)) rfl dX12_isPast_4 ?_
  refine lv_i2l (v := ((iv 12 0).toInt64)) hx hb dX12_isPast_7 rfl ?_
  refine vp_callSi (W.runS (As := [.long (a.toInt64), .long 0, .long ((iv 12 0).toInt64)]) (rest := []) ⟨hx, hb, hml, hown, ht⟩ (c_X12_in l dC dI (a.toInt64) 0 ((iv 12 0).toInt64) (a.toInt) (0) ((iv 12 0).toInt) ((Int32.toInt_toInt64 a).trans rfl) (by decide : (0 : Int64).toInt = 0) ((Int32.toInt_toInt64 (iv 12 0)).trans rfl)) (kS 3 ht m_1370 m_1371 m_89 m_1372 rfl rfl hd_X12_in_v ⟨Nat.le_of_ble_eq_true rfl, Nat.le_of_ble_eq_true rfl⟩) (sR noP (hK.sub (tys' := []) [] rfl)) rfl rfl hl.1 rfl (lv_room (Nat.le_of_ble_eq_true rfl)) dX12_isPast_8 ⟨Nat.le_of_ble_eq_true rfl, Nat.le_of_ble_eq_true rfl⟩) (fun r1 hr1 => ?_)
  rcases hr1 with ⟨rfl, fr1⟩ | ⟨rfl, fr1⟩
  · skip
    exact W.zret (v := 1) hx hb hr rfl (fun t ht9 hW => ⟨1, rfl, Or.inl ⟨rfl, by omega⟩, ht9⟩) (fun q hq => by cases hq) dX12_isPast_11
  · skip
    exact W.zret (v := 0) hx hb hr rfl (fun t ht9 hW => ⟨0, rfl, Or.inr ⟨rfl, by omega⟩, ht9⟩) (fun q hq => by cases hq) dX12_isPast_11
set_option maxHeartbeats 4000000 in
set_option maxRecDepth 100000 in
/-- X12_isDay -/
theorem c_X12_isDay (l : Launch) (dC : Nat → ClassId) (dI : Nat → Nat → Nat) (a : Int32) : Met l yX12_isDay (wc yX12_isDay cX12_isDay 1 (some .boolean)) ({ frames := 1, cells := 0, slots := 0, locals := 25 } : Room) (pR (dC, dI) classes [] [] [.int a]) (vp_Si (fun r => (r = 1 ∧ (0 ≤ a.toInt ∧ a.toInt ≤ 3000)) ∨ (r = 0 ∧ ¬ (0 ≤ a.toInt ∧ a.toInt ≤ 3000)))) 0 0 (fun _ => False) := by
  refine Met.ofW (cc := cX12_isDay) (maxL := 1) (ret := (some .boolean)) (by decide) rfl ?_
  intro p e s m args below meth c s₁ B hml hv
  obtain ⟨rfl, hP, hK⟩ := hv
  have hx := B.exec
  have hb := B.bytes
  have hr := B.returns
  have ht := tb_tl (atoms_spec (ws := wc yX12_isDay cX12_isDay 1 (some .boolean)) B.pre)
  have hown : s.vm.findClass RX12 = some m.cls := findClass_of_methodNamed B.named
  have hlocks := B.notSynchronized
  have hl := lv_entry [.int a] (n := 1) (Nat.le_of_ble_eq_true rfl)
  rw [lg_entry_eq]
  generalize (lg_sl [.int a] ++ List.replicate (1 - (lg_sl [.int a]).length) Slot.unset).toArray = ls at hl ⊢
  have hl : lv_has ls 1 [(0, .int a)] := hl
  refine lv_iload_n hx hb dX12_isDay_0 rfl (lv_at hl 0 rfl) ?_
  refine lv_i2l (v := (a.toInt64)) hx hb dX12_isDay_1 rfl ?_
  refine lv_lconst (v := 0) hx hb dX12_isDay_2 (by decide) ?_
  refine lv_ldc2 hx hb hown (ht _ m_1425) dX12_isDay_3 ?_
  refine vp_callSi (W.runS (As := [.long (a.toInt64), .long 0, .long 3000]) (rest := []) ⟨hx, hb, hml, hown, ht⟩ (c_X12_in l dC dI (a.toInt64) 0 3000 (a.toInt) (0) (3000) ((Int32.toInt_toInt64 a).trans rfl) (by decide : (0 : Int64).toInt = 0) (by decide : (3000 : Int64).toInt = 3000)) (kS 3 ht m_1370 m_1371 m_89 m_1372 rfl rfl hd_X12_in_v ⟨Nat.le_of_ble_eq_true rfl, Nat.le_of_ble_eq_true rfl⟩) (sR noP (hK.sub (tys' := []) [] rfl)) rfl rfl hl.1 rfl (lv_room (Nat.le_of_ble_eq_true rfl)) dX12_isDay_6 ⟨Nat.le_of_ble_eq_true rfl, Nat.le_of_ble_eq_true rfl⟩) (fun r1 hr1 => ?_)
  rcases hr1 with ⟨rfl, fr1⟩ | ⟨rfl, fr1⟩
  · skip
    exact W.zret (v := 1) hx hb hr rfl (fun t ht9 hW => ⟨1, rfl, Or.inl ⟨rfl, by omega⟩, ht9⟩) (fun q hq => by cases hq) dX12_isDay_9
  · skip
    exact W.zret (v := 0) hx hb hr rfl (fun t ht9 hW => ⟨0, rfl, Or.inr ⟨rfl, by omega⟩, ht9⟩) (fun q hq => by cases hq) dX12_isDay_9
set_option maxHeartbeats 4000000 in
set_option maxRecDepth 100000 in
/-- X12_isWeight -/
theorem c_X12_isWeight (l : Launch) (dC : Nat → ClassId) (dI : Nat → Nat → Nat) (a : Int32) : Met l yX12_isWeight (wc yX12_isWeight cX12_isWeight 1 (some .boolean)) ({ frames := 1, cells := 0, slots := 0, locals := 25 } : Room) (pR (dC, dI) classes [] [] [.int a]) (vp_Si (fun r => (r = 1 ∧ (1 ≤ a.toInt ∧ a.toInt ≤ 9999)) ∨ (r = 0 ∧ ¬ (1 ≤ a.toInt ∧ a.toInt ≤ 9999)))) 0 0 (fun _ => False) := by
  refine Met.ofW (cc := cX12_isWeight) (maxL := 1) (ret := (some .boolean)) (by decide) rfl ?_
  intro p e s m args below meth c s₁ B hml hv
  obtain ⟨rfl, hP, hK⟩ := hv
  have hx := B.exec
  have hb := B.bytes
  have hr := B.returns
  have ht := tb_tl (atoms_spec (ws := wc yX12_isWeight cX12_isWeight 1 (some .boolean)) B.pre)
  have hown : s.vm.findClass RX12 = some m.cls := findClass_of_methodNamed B.named
  have hlocks := B.notSynchronized
  have hl := lv_entry [.int a] (n := 1) (Nat.le_of_ble_eq_true rfl)
  rw [lg_entry_eq]
  generalize (lg_sl [.int a] ++ List.replicate (1 - (lg_sl [.int a]).length) Slot.unset).toArray = ls at hl ⊢
  have hl : lv_has ls 1 [(0, .int a)] := hl
  refine lv_iload_n hx hb dX12_isWeight_0 rfl (lv_at hl 0 rfl) ?_
  refine lv_i2l (v := (a.toInt64)) hx hb dX12_isWeight_1 rfl ?_
  refine lv_lconst (v := 1) hx hb dX12_isWeight_2 (by decide) ?_
  refine lv_ldc2 hx hb hown (ht _ m_1393) dX12_isWeight_3 ?_
  refine vp_callSi (W.runS (As := [.long (a.toInt64), .long 1, .long 9999]) (rest := []) ⟨hx, hb, hml, hown, ht⟩ (c_X12_in l dC dI (a.toInt64) 1 9999 (a.toInt) (1) (9999) ((Int32.toInt_toInt64 a).trans rfl) (by decide : (1 : Int64).toInt = 1) (by decide : (9999 : Int64).toInt = 9999)) (kS 3 ht m_1370 m_1371 m_89 m_1372 rfl rfl hd_X12_in_v ⟨Nat.le_of_ble_eq_true rfl, Nat.le_of_ble_eq_true rfl⟩) (sR noP (hK.sub (tys' := []) [] rfl)) rfl rfl hl.1 rfl (lv_room (Nat.le_of_ble_eq_true rfl)) dX12_isWeight_6 ⟨Nat.le_of_ble_eq_true rfl, Nat.le_of_ble_eq_true rfl⟩) (fun r1 hr1 => ?_)
  rcases hr1 with ⟨rfl, fr1⟩ | ⟨rfl, fr1⟩
  · skip
    exact W.zret (v := 1) hx hb hr rfl (fun t ht9 hW => ⟨1, rfl, Or.inl ⟨rfl, by omega⟩, ht9⟩) (fun q hq => by cases hq) dX12_isWeight_9
  · skip
    exact W.zret (v := 0) hx hb hr rfl (fun t ht9 hW => ⟨0, rfl, Or.inr ⟨rfl, by omega⟩, ht9⟩) (fun q hq => by cases hq) dX12_isWeight_9
