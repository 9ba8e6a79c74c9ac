/-! ===== ovens ===== -/
theorem m_335 : Cond.fieldLink RX5 9 "SilkHouse$Ovens" "minutes" "[I" ∈ tb := mb_2_0 _ (List.mem_of_getElem? (i := 5) rfl)
theorem m_340 : Cond.fieldLink RX5 22 "SilkHouse$Ovens" "number" "I" ∈ tb := mb_2_0 _ (List.mem_of_getElem? (i := 10) rfl)
theorem m_344 : Cond.fieldLink RX5 29 "SilkHouse$Ovens" "arrangedFor" "I" ∈ tb := mb_2_0 _ (List.mem_of_getElem? (i := 14) rfl)
theorem m_366 : Cond.fieldLink RX4 9 "SilkHouse$Neighbours" "low" "[I" ∈ tb := mb_2_0 _ (List.mem_of_getElem? (i := 20) rfl)
theorem m_367 : Cond.fieldLink RX4 13 "SilkHouse$Neighbours" "high" "[I" ∈ tb := mb_2_0 _ (List.mem_of_getElem? (i := 21) rfl)
theorem m_368 : Cond.fieldLink RX4 16 "SilkHouse$Neighbours" "number" "I" ∈ tb := mb_2_0 _ (List.mem_of_getElem? (i := 22) rfl)
theorem m_1060 : Cond.constant RX4 20 (-1000000) ∈ tb := mb_5_0 _ (List.mem_of_getElem? (i := 21) rfl)
theorem m_1061 : Cond.methodLink RX4 21 Lib.Math.max.name ∈ tb := mb_5_0 _ (List.mem_of_getElem? (i := 22) rfl)
theorem m_1066 : Cond.constant RX4 27 (1000000) ∈ tb := mb_5_1 _ (List.mem_of_getElem? (i := 3) rfl)
theorem m_1067 : Cond.methodLink RX4 28 Lib.Math.min.name ∈ tb := mb_5_1 _ (List.mem_of_getElem? (i := 4) rfl)
set_option maxRecDepth 100000 in
theorem dvX4_compare_0 : ([(0, .aload_n 0, 1), (1, .getfield 9, 3), (4, .aload_n 0, 1), (5, .getfield 16, 3), (8, .iload_n 1, 1), (9, .iastore, 1), (10, .aload_n 0, 1), (11, .getfield 13, 3), (14, .aload_n 0, 1), (15, .getfield 16, 3), (18, .iload_n 2, 1), (19, .iastore, 1), (20, .aload_n 0, 1), (21, .dup, 1), (22, .getfield 16, 3), (25, .iconst 1, 1), (26, .iadd, 1), (27, .putfield 16, 3), (30, .aload_n 0, 1), (31, .getfield 16, 3), (34, .ireturn, 1)] : List (Nat × Instr × Nat)).all (fun q => decide (decode cX4_compare q.1 = .ok (q.2.1, q.2.2))) = true := by decide +kernel
theorem dX4_compare_0 : decode cX4_compare 0 = .ok (.aload_n 0, 1) := all_at dvX4_compare_0 0 rfl
theorem dX4_compare_1 : decode cX4_compare 1 = .ok (.getfield 9, 3) := all_at dvX4_compare_0 1 rfl
theorem dX4_compare_4 : decode cX4_compare 4 = .ok (.aload_n 0, 1) := all_at dvX4_compare_0 2 rfl
theorem dX4_compare_5 : decode cX4_compare 5 = .ok (.getfield 16, 3) := all_at dvX4_compare_0 3 rfl
theorem dX4_compare_8 : decode cX4_compare 8 = .ok (.iload_n 1, 1) := all_at dvX4_compare_0 4 rfl
theorem dX4_compare_9 : decode cX4_compare 9 = .ok (.iastore, 1) := all_at dvX4_compare_0 5 rfl
theorem dX4_compare_10 : decode cX4_compare 10 = .ok (.aload_n 0, 1) := all_at dvX4_compare_0 6 rfl
theorem dX4_compare_11 : decode cX4_compare 11 = .ok (.getfield 13, 3) := all_at dvX4_compare_0 7 rfl
theorem dX4_compare_14 : decode cX4_compare 14 = .ok (.aload_n 0, 1) := all_at dvX4_compare_0 8 rfl
theorem dX4_compare_15 : decode cX4_compare 15 = .ok (.getfield 16, 3) := all_at dvX4_compare_0 9 rfl
theorem dX4_compare_18 : decode cX4_compare 18 = .ok (.iload_n 2, 1) := all_at dvX4_compare_0 10 rfl
theorem dX4_compare_19 : decode cX4_compare 19 = .ok (.iastore, 1) := all_at dvX4_compare_0 11 rfl
theorem dX4_compare_20 : decode cX4_compare 20 = .ok (.aload_n 0, 1) := all_at dvX4_compare_0 12 rfl
theorem dX4_compare_21 : decode cX4_compare 21 = .ok (.dup, 1) := all_at dvX4_compare_0 13 rfl
theorem dX4_compare_22 : decode cX4_compare 22 = .ok (.getfield 16, 3) := all_at dvX4_compare_0 14 rfl
theorem dX4_compare_25 : decode cX4_compare 25 = .ok (.iconst 1, 1) := all_at dvX4_compare_0 15 rfl
theorem dX4_compare_26 : decode cX4_compare 26 = .ok (.iadd, 1) := all_at dvX4_compare_0 16 rfl
theorem dX4_compare_27 : decode cX4_compare 27 = .ok (.putfield 16, 3) := all_at dvX4_compare_0 17 rfl
theorem dX4_compare_30 : decode cX4_compare 30 = .ok (.aload_n 0, 1) := all_at dvX4_compare_0 18 rfl
theorem dX4_compare_31 : decode cX4_compare 31 = .ok (.getfield 16, 3) := all_at dvX4_compare_0 19 rfl
theorem dX4_compare_34 : decode cX4_compare 34 = .ok (.ireturn, 1) := all_at dvX4_compare_0 20 rfl
set_option maxRecDepth 100000 in
theorem dvX4_greatestWithout_0 : ([(0, .ldc 27, 2), (2, .istore_n 2, 1), (3, .iconst 0, 1), (4, .istore_n 3, 1), (5, .iload_n 3, 1), (6, .aload_n 0, 1), (7, .getfield 16, 3), (10, .if_icmp .ge 28, 3), (13, .iload_n 1, 1), (14, .iload_n 3, 1), (15, .ishr, 1), (16, .iconst 1, 1), (17, .iand, 1), (18, .ifCond .ne 14, 3), (21, .iload_n 2, 1), (22, .aload_n 0, 1), (23, .getfield 13, 3), (26, .iload_n 3, 1), (27, .iaload, 1), (28, .invokestatic 28, 3), (31, .istore_n 2, 1), (32, .iinc 3 1, 3), (35, .goto (-30), 3), (38, .iload_n 2, 1)] : List (Nat × Instr × Nat)).all (fun q => decide (decode cX4_greatestWithout q.1 = .ok (q.2.1, q.2.2))) = true := by decide +kernel
theorem dX4_greatestWithout_0 : decode cX4_greatestWithout 0 = .ok (.ldc 27, 2) := all_at dvX4_greatestWithout_0 0 rfl
theorem dX4_greatestWithout_2 : decode cX4_greatestWithout 2 = .ok (.istore_n 2, 1) := all_at dvX4_greatestWithout_0 1 rfl
theorem dX4_greatestWithout_3 : decode cX4_greatestWithout 3 = .ok (.iconst 0, 1) := all_at dvX4_greatestWithout_0 2 rfl
theorem dX4_greatestWithout_4 : decode cX4_greatestWithout 4 = .ok (.istore_n 3, 1) := all_at dvX4_greatestWithout_0 3 rfl
theorem dX4_greatestWithout_5 : decode cX4_greatestWithout 5 = .ok (.iload_n 3, 1) := all_at dvX4_greatestWithout_0 4 rfl
theorem dX4_greatestWithout_6 : decode cX4_greatestWithout 6 = .ok (.aload_n 0, 1) := all_at dvX4_greatestWithout_0 5 rfl
theorem dX4_greatestWithout_7 : decode cX4_greatestWithout 7 = .ok (.getfield 16, 3) := all_at dvX4_greatestWithout_0 6 rfl
theorem dX4_greatestWithout_10 : decode cX4_greatestWithout 10 = .ok (.if_icmp .ge 28, 3) := all_at dvX4_greatestWithout_0 7 rfl
theorem dX4_greatestWithout_13 : decode cX4_greatestWithout 13 = .ok (.iload_n 1, 1) := all_at dvX4_greatestWithout_0 8 rfl
theorem dX4_greatestWithout_14 : decode cX4_greatestWithout 14 = .ok (.iload_n 3, 1) := all_at dvX4_greatestWithout_0 9 rfl
theorem dX4_greatestWithout_15 : decode cX4_greatestWithout 15 = .ok (.ishr, 1) := all_at dvX4_greatestWithout_0 10 rfl
theorem dX4_greatestWithout_16 : decode cX4_greatestWithout 16 = .ok (.iconst 1, 1) := all_at dvX4_greatestWithout_0 11 rfl
theorem dX4_greatestWithout_17 : decode cX4_greatestWithout 17 = .ok (.iand, 1) := all_at dvX4_greatestWithout_0 12 rfl
theorem dX4_greatestWithout_18 : decode cX4_greatestWithout 18 = .ok (.ifCond .ne 14, 3) := all_at dvX4_greatestWithout_0 13 rfl
theorem dX4_greatestWithout_21 : decode cX4_greatestWithout 21 = .ok (.iload_n 2, 1) := all_at dvX4_greatestWithout_0 14 rfl
theorem dX4_greatestWithout_22 : decode cX4_greatestWithout 22 = .ok (.aload_n 0, 1) := all_at dvX4_greatestWithout_0 15 rfl
theorem dX4_greatestWithout_23 : decode cX4_greatestWithout 23 = .ok (.getfield 13, 3) := all_at dvX4_greatestWithout_0 16 rfl
theorem dX4_greatestWithout_26 : decode cX4_greatestWithout 26 = .ok (.iload_n 3, 1) := all_at dvX4_greatestWithout_0 17 rfl
theorem dX4_greatestWithout_27 : decode cX4_greatestWithout 27 = .ok (.iaload, 1) := all_at dvX4_greatestWithout_0 18 rfl
theorem dX4_greatestWithout_28 : decode cX4_greatestWithout 28 = .ok (.invokestatic 28, 3) := all_at dvX4_greatestWithout_0 19 rfl
theorem dX4_greatestWithout_31 : decode cX4_greatestWithout 31 = .ok (.istore_n 2, 1) := all_at dvX4_greatestWithout_0 20 rfl
theorem dX4_greatestWithout_32 : decode cX4_greatestWithout 32 = .ok (.iinc 3 1, 3) := all_at dvX4_greatestWithout_0 21 rfl
theorem dX4_greatestWithout_35 : decode cX4_greatestWithout 35 = .ok (.goto (-30), 3) := all_at dvX4_greatestWithout_0 22 rfl
theorem dX4_greatestWithout_38 : decode cX4_greatestWithout 38 = .ok (.iload_n 2, 1) := all_at dvX4_greatestWithout_0 23 rfl
theorem dX4_greatestWithout_39 : decode cX4_greatestWithout 39 = .ok (.ireturn, 1) := by decide +kernel
set_option maxRecDepth 100000 in
theorem dvX4_leastWithout_0 : ([(0, .ldc 20, 2), (2, .istore_n 2, 1), (3, .iconst 0, 1), (4, .istore_n 3, 1), (5, .iload_n 3, 1), (6, .aload_n 0, 1), (7, .getfield 16, 3), (10, .if_icmp .ge 28, 3), (13, .iload_n 1, 1), (14, .iload_n 3, 1), (15, .ishr, 1), (16, .iconst 1, 1), (17, .iand, 1), (18, .ifCond .ne 14, 3), (21, .iload_n 2, 1), (22, .aload_n 0, 1), (23, .getfield 9, 3), (26, .iload_n 3, 1), (27, .iaload, 1), (28, .invokestatic 21, 3), (31, .istore_n 2, 1), (32, .iinc 3 1, 3), (35, .goto (-30), 3), (38, .iload_n 2, 1)] : List (Nat × Instr × Nat)).all (fun q => decide (decode cX4_leastWithout q.1 = .ok (q.2.1, q.2.2))) = true := by decide +kernel
theorem dX4_leastWithout_0 : decode cX4_leastWithout 0 = .ok (.ldc 20, 2) := all_at dvX4_leastWithout_0 0 rfl
theorem dX4_leastWithout_2 : decode cX4_leastWithout 2 = .ok (.istore_n 2, 1) := all_at dvX4_leastWithout_0 1 rfl
theorem dX4_leastWithout_3 : decode cX4_leastWithout 3 = .ok (.iconst 0, 1) := all_at dvX4_leastWithout_0 2 rfl
theorem dX4_leastWithout_4 : decode cX4_leastWithout 4 = .ok (.istore_n 3, 1) := all_at dvX4_leastWithout_0 3 rfl
theorem dX4_leastWithout_5 : decode cX4_leastWithout 5 = .ok (.iload_n 3, 1) := all_at dvX4_leastWithout_0 4 rfl
theorem dX4_leastWithout_6 : decode cX4_leastWithout 6 = .ok (.aload_n 0, 1) := all_at dvX4_leastWithout_0 5 rfl
theorem dX4_leastWithout_7 : decode cX4_leastWithout 7 = .ok (.getfield 16, 3) := all_at dvX4_leastWithout_0 6 rfl
theorem dX4_leastWithout_10 : decode cX4_leastWithout 10 = .ok (.if_icmp .ge 28, 3) := all_at dvX4_leastWithout_0 7 rfl
theorem dX4_leastWithout_13 : decode cX4_leastWithout 13 = .ok (.iload_n 1, 1) := all_at dvX4_leastWithout_0 8 rfl
theorem dX4_leastWithout_14 : decode cX4_leastWithout 14 = .ok (.iload_n 3, 1) := all_at dvX4_leastWithout_0 9 rfl
theorem dX4_leastWithout_15 : decode cX4_leastWithout 15 = .ok (.ishr, 1) := all_at dvX4_leastWithout_0 10 rfl
theorem dX4_leastWithout_16 : decode cX4_leastWithout 16 = .ok (.iconst 1, 1) := all_at dvX4_leastWithout_0 11 rfl
theorem dX4_leastWithout_17 : decode cX4_leastWithout 17 = .ok (.iand, 1) := all_at dvX4_leastWithout_0 12 rfl
theorem dX4_leastWithout_18 : decode cX4_leastWithout 18 = .ok (.ifCond .ne 14, 3) := all_at dvX4_leastWithout_0 13 rfl
theorem dX4_leastWithout_21 : decode cX4_leastWithout 21 = .ok (.iload_n 2, 1) := all_at dvX4_leastWithout_0 14 rfl
theorem dX4_leastWithout_22 : decode cX4_leastWithout 22 = .ok (.aload_n 0, 1) := all_at dvX4_leastWithout_0 15 rfl
theorem dX4_leastWithout_23 : decode cX4_leastWithout 23 = .ok (.getfield 9, 3) := all_at dvX4_leastWithout_0 16 rfl
theorem dX4_leastWithout_26 : decode cX4_leastWithout 26 = .ok (.iload_n 3, 1) := all_at dvX4_leastWithout_0 17 rfl
theorem dX4_leastWithout_27 : decode cX4_leastWithout 27 = .ok (.iaload, 1) := all_at dvX4_leastWithout_0 18 rfl
theorem dX4_leastWithout_28 : decode cX4_leastWithout 28 = .ok (.invokestatic 21, 3) := all_at dvX4_leastWithout_0 19 rfl
theorem dX4_leastWithout_31 : decode cX4_leastWithout 31 = .ok (.istore_n 2, 1) := all_at dvX4_leastWithout_0 20 rfl
theorem dX4_leastWithout_32 : decode cX4_leastWithout 32 = .ok (.iinc 3 1, 3) := all_at dvX4_leastWithout_0 21 rfl
theorem dX4_leastWithout_35 : decode cX4_leastWithout 35 = .ok (.goto (-30), 3) := all_at dvX4_leastWithout_0 22 rfl
theorem dX4_leastWithout_38 : decode cX4_leastWithout 38 = .ok (.iload_n 2, 1) := all_at dvX4_leastWithout_0 23 rfl
theorem dX4_leastWithout_39 : decode cX4_leastWithout 39 = .ok (.ireturn, 1) := by decide +kernel
set_option maxRecDepth 100000 in
theorem dvX5_bring_0 : ([(0, .aload_n 0, 1), (1, .getfield 9, 3), (4, .aload_n 0, 1), (5, .getfield 22, 3), (8, .iload_n 1, 1), (9, .iastore, 1), (10, .aload_n 0, 1), (11, .dup, 1), (12, .getfield 22, 3), (15, .iconst 1, 1), (16, .iadd, 1), (17, .putfield 22, 3), (20, .aload_n 0, 1), (21, .iconst 0, 1), (22, .putfield 29, 3), (25, .aload_n 0, 1), (26, .getfield 22, 3), (29, .ireturn, 1)] : List (Nat × Instr × Nat)).all (fun q => decide (decode cX5_bring q.1 = .ok (q.2.1, q.2.2))) = true := by decide +kernel
theorem dX5_bring_0 : decode cX5_bring 0 = .ok (.aload_n 0, 1) := all_at dvX5_bring_0 0 rfl
theorem dX5_bring_1 : decode cX5_bring 1 = .ok (.getfield 9, 3) := all_at dvX5_bring_0 1 rfl
theorem dX5_bring_4 : decode cX5_bring 4 = .ok (.aload_n 0, 1) := all_at dvX5_bring_0 2 rfl
theorem dX5_bring_5 : decode cX5_bring 5 = .ok (.getfield 22, 3) := all_at dvX5_bring_0 3 rfl
theorem dX5_bring_8 : decode cX5_bring 8 = .ok (.iload_n 1, 1) := all_at dvX5_bring_0 4 rfl
theorem dX5_bring_9 : decode cX5_bring 9 = .ok (.iastore, 1) := all_at dvX5_bring_0 5 rfl
theorem dX5_bring_10 : decode cX5_bring 10 = .ok (.aload_n 0, 1) := all_at dvX5_bring_0 6 rfl
theorem dX5_bring_11 : decode cX5_bring 11 = .ok (.dup, 1) := all_at dvX5_bring_0 7 rfl
theorem dX5_bring_12 : decode cX5_bring 12 = .ok (.getfield 22, 3) := all_at dvX5_bring_0 8 rfl
theorem dX5_bring_15 : decode cX5_bring 15 = .ok (.iconst 1, 1) := all_at dvX5_bring_0 9 rfl
theorem dX5_bring_16 : decode cX5_bring 16 = .ok (.iadd, 1) := all_at dvX5_bring_0 10 rfl
theorem dX5_bring_17 : decode cX5_bring 17 = .ok (.putfield 22, 3) := all_at dvX5_bring_0 11 rfl
theorem dX5_bring_20 : decode cX5_bring 20 = .ok (.aload_n 0, 1) := all_at dvX5_bring_0 12 rfl
theorem dX5_bring_21 : decode cX5_bring 21 = .ok (.iconst 0, 1) := all_at dvX5_bring_0 13 rfl
theorem dX5_bring_22 : decode cX5_bring 22 = .ok (.putfield 29, 3) := all_at dvX5_bring_0 14 rfl
theorem dX5_bring_25 : decode cX5_bring 25 = .ok (.aload_n 0, 1) := all_at dvX5_bring_0 15 rfl
theorem dX5_bring_26 : decode cX5_bring 26 = .ok (.getfield 22, 3) := all_at dvX5_bring_0 16 rfl
theorem dX5_bring_29 : decode cX5_bring 29 = .ok (.ireturn, 1) := all_at dvX5_bring_0 17 rfl
set_option maxRecDepth 100000 in
theorem dvX5_clear_0 : ([(0, .aload_n 0, 1), (1, .getfield 22, 3), (4, .istore_n 1, 1), (5, .aload_n 0, 1), (6, .iconst 0, 1), (7, .putfield 22, 3), (10, .aload_n 0, 1), (11, .iconst 0, 1), (12, .putfield 29, 3), (15, .iload_n 1, 1), (16, .ireturn, 1)] : List (Nat × Instr × Nat)).all (fun q => decide (decode cX5_clear q.1 = .ok (q.2.1, q.2.2))) = true := by decide +kernel
theorem dX5_clear_0 : decode cX5_clear 0 = .ok (.aload_n 0, 1) := all_at dvX5_clear_0 0 rfl
theorem dX5_clear_1 : decode cX5_clear 1 = .ok (.getfield 22, 3) := all_at dvX5_clear_0 1 rfl
theorem dX5_clear_4 : decode cX5_clear 4 = .ok (.istore_n 1, 1) := all_at dvX5_clear_0 2 rfl
theorem dX5_clear_5 : decode cX5_clear 5 = .ok (.aload_n 0, 1) := all_at dvX5_clear_0 3 rfl
theorem dX5_clear_6 : decode cX5_clear 6 = .ok (.iconst 0, 1) := all_at dvX5_clear_0 4 rfl
theorem dX5_clear_7 : decode cX5_clear 7 = .ok (.putfield 22, 3) := all_at dvX5_clear_0 5 rfl
theorem dX5_clear_10 : decode cX5_clear 10 = .ok (.aload_n 0, 1) := all_at dvX5_clear_0 6 rfl
theorem dX5_clear_11 : decode cX5_clear 11 = .ok (.iconst 0, 1) := all_at dvX5_clear_0 7 rfl
theorem dX5_clear_12 : decode cX5_clear 12 = .ok (.putfield 29, 3) := all_at dvX5_clear_0 8 rfl
theorem dX5_clear_15 : decode cX5_clear 15 = .ok (.iload_n 1, 1) := all_at dvX5_clear_0 9 rfl
theorem dX5_clear_16 : decode cX5_clear 16 = .ok (.ireturn, 1) := all_at dvX5_clear_0 10 rfl
set_option maxHeartbeats 4000000 in
set_option maxRecDepth 100000 in
/-- X5_bring -/
theorem c_X5_bring (l : Launch) (dC : Nat → ClassId) (dI : Nat → Nat → Nat) (sz : Nat) (h : Nat) (g : Nat → Nat → Nat) (ca : Nat → Nat → ClassId) (iv : Nat → Nat → Int32) (lv : Nat → Nat → Int64) (fa : Nat → Nat → Nat → Int32) (la : Nat → Nat → Nat → Int64) (hI : IX iv fa) (a : Int32) (q_5_4 : 0 ≤ (iv 5 4).toInt ∧ (iv 5 4).toInt ≤ 7) : Met l yX5_bring (wc yX5_bring cX5_bring 2 (some .int)) ({ frames := 0, cells := 0, slots := 0, locals := 0 } : Room) (pW (dC, dI) classes (WX h g ca iv lv fa la) (TX ca) sz [.ref (g 11 7), .int a]) (va_Qi (fun r (u : SS) => ∃ (na_5_0 : Nat → Int32) (ni_5_4 : Int32) (ni_5_6 : Int32), inb (bI 5 4) ni_5_4 ∧ ni_5_4.toInt = (iv 5 4).toInt + 1 ∧ (1 ≤ r.toInt ∧ r.toInt ≤ 8) ∧ u = ((u2 (u2 iv 5 4 ni_5_4) 5 6 ni_5_6), lv, (u2 fa 5 0 na_5_0), la)) (bX (dC, dI) h g ca (va_A (WX h g ca iv lv fa la) sz)) (va_A (WX h g ca iv lv fa la) sz)) 0 0 (va_A (WX h g ca iv lv fa la) sz) := by
  refine Met.ofW (cc := cX5_bring) (maxL := 2) (ret := (some .int)) (by decide) rfl ?_
  intro p e s m args below meth c s₁ B hml hv
  obtain ⟨rfl, hsz, hP, hK, hD0⟩ := hv
  have hx := B.exec
  have hb := B.bytes
  have hr := B.returns
  have ht := tb_tl (atoms_spec (ws := wc yX5_bring cX5_bring 2 (some .int)) B.pre)
  have hown : s.vm.findClass RX5 = some m.cls := findClass_of_methodNamed B.named
  have hlocks := B.notSynchronized
  subst hsz
  have hD := hD0.self (sz := s.heap.size)
  generalize hAe : va_A (WX h g ca iv lv fa la) s.heap.size = A at hD ⊢
  have hA : ∀ q : Nat, s.heap.size ≤ q → A q := fun q h => by rw [← hAe]; exact Or.inr h
  have hS : va_S A s.heap s.heap [] := va_S.rf
  have hl := lv_entry [.ref (g 11 7), .int a] (n := 2) (Nat.le_of_ble_eq_true rfl)
  rw [lg_entry_eq]
  generalize (lg_sl [.ref (g 11 7), .int a] ++ List.replicate (2 - (lg_sl [.ref (g 11 7), .int a]).length) Slot.unset).toArray = ls at hl ⊢
  have hl : lv_has ls 2 [(0, .ref (g 11 7)), (1, .int a)] := hl
  refine lv_aload_n hx hb dX5_bring_0 rfl (lv_at hl 0 rfl) ?_
  refine gX_5_0 hx hb ht hown hK hP m_335 dX5_bring_1 ?_
  refine lv_aload_n hx hb dX5_bring_4 rfl (lv_at hl 0 rfl) ?_
  have i_5_4 : 0 ≤ (iv 5 4).toInt ∧ (iv 5 4).toInt ≤ 8 := hI.1 5 4
  refine gX_5_4 hx hb ht hown hK hP m_340 (v := (iv 5 4)) rfl dX5_bring_5 ?_
  refine lv_iload_n hx hb dX5_bring_8 rfl (lv_at hl 1 rfl) ?_
  refine tX_5_0 hx hb hK hP hD hS (f0 := (fa 5 0)) rfl (i := (iv 5 4)) (x := a) (vp_in_iff.mpr ⟨by omega, by omega⟩) dX5_bring_9 (fun f1 ef1 H locs hP hD hS => ?_)
  have hf1 : ∀ j, inb (bA 5 0 j) (f1 j) := fun j => full_i _
  refine lv_aload_n hx hb dX5_bring_10 rfl (lv_at hl 0 rfl) ?_
  refine lv_dup hx hb dX5_bring_11 rfl ?_
  refine gX_5_4 hx hb ht hown hK hP m_340 (v := (iv 5 4)) rfl dX5_bring_12 ?_
  refine lv_iconst (v := 1) hx hb dX5_bring_15 (by decide) ?_
  refine lv_iadd hx hb dX5_bring_16 ?_
  refine lv_topi (fun v2 ev2 => ?_)
  have tv2 := z_add ev2 (rfl : ((iv 5 4)).toInt = _) (by decide : (1 : Int32).toInt = 1) (by omega) (by omega)
  refine pX_5_4 (v := v2) hx hb ht hown hK hP hD hS m_340 dX5_bring_17 (fun H locs hP hD hS => ?_)
  refine lv_aload_n hx hb dX5_bring_20 rfl (lv_at hl 0 rfl) ?_
  refine lv_iconst (v := 0) hx hb dX5_bring_21 (by decide) ?_
  refine pX_5_6 (v := 0) hx hb ht hown hK hP hD hS m_344 dX5_bring_22 (fun H locs hP hD hS => ?_)
  refine lv_aload_n hx hb dX5_bring_25 rfl (lv_at hl 0 rfl) ?_
  refine gX_5_4 hx hb ht hown hK hP m_340 (v := v2) rfl dX5_bring_26 ?_
  have hP9 : va_P (dC, dI) classes (WX h g ca (u2 (u2 iv 5 4 v2) 5 6 0) lv (u2 fa 5 0 f1) la) H := hP
  have hD9 : va_D A (WX h g ca (u2 (u2 iv 5 4 v2) 5 6 0) lv (u2 fa 5 0 f1) la) := hD
  exact W.iret (v := v2) hx hb hr (fun t ht9 hW => ⟨⟨v2, ((u2 (u2 iv 5 4 v2) 5 6 0), lv, (u2 fa 5 0 f1), la), rfl, ⟨f1, v2, 0, (show inb (0, 8) v2 from ⟨by omega, by omega⟩), (by omega), ⟨by omega, by omega⟩, rfl⟩, by rw [ht9]; exact hP9, hD9⟩, hS.F ht9⟩) hS.2.2 dX5_bring_29
set_option maxHeartbeats 4000000 in
set_option maxRecDepth 100000 in
/-- X5_clear -/
theorem c_X5_clear (l : Launch) (dC : Nat → ClassId) (dI : Nat → Nat → Nat) (sz : Nat) (h : Nat) (g : Nat → Nat → Nat) (ca : Nat → Nat → ClassId) (iv : Nat → Nat → Int32) (lv : Nat → Nat → Int64) (fa : Nat → Nat → Nat → Int32) (la : Nat → Nat → Nat → Int64) (hI : IX iv fa) : Met l yX5_clear (wc yX5_clear cX5_clear 2 (some .int)) ({ frames := 0, cells := 0, slots := 0, locals := 0 } : Room) (pW (dC, dI) classes (WX h g ca iv lv fa la) (TX ca) sz [.ref (g 11 7)]) (va_Qi (fun r (u : SS) => ∃ (ni_5_4 : Int32) (ni_5_6 : Int32), inb (bI 5 4) ni_5_4 ∧ (0 ≤ r.toInt ∧ r.toInt ≤ 8) ∧ u = ((u2 (u2 iv 5 4 ni_5_4) 5 6 ni_5_6), lv, fa, la)) (bX (dC, dI) h g ca (va_A (WX h g ca iv lv fa la) sz)) (va_A (WX h g ca iv lv fa la) sz)) 0 0 (va_A (WX h g ca iv lv fa la) sz) := by
  refine Met.ofW (cc := cX5_clear) (maxL := 2) (ret := (some .int)) (by decide) rfl ?_
  intro p e s m args below meth c s₁ B hml hv
  obtain ⟨rfl, hsz, hP, hK, hD0⟩ := hv
  have hx := B.exec
  have hb := B.bytes
  have hr := B.returns
  have ht := tb_tl (atoms_spec (ws := wc yX5_clear cX5_clear 2 (some .int)) B.pre)
  have hown : s.vm.findClass RX5 = some m.cls := findClass_of_methodNamed B.named
  have hlocks := B.notSynchronized
  subst hsz
  have hD := hD0.self (sz := s.heap.size)
  generalize hAe : va_A (WX h g ca iv lv fa la) s.heap.size = A at hD ⊢
  have hA : ∀ q : Nat, s.heap.size ≤ q → A q := fun q h => by rw [← hAe]; exact Or.inr h
  have hS : va_S A s.heap s.heap [] := va_S.rf
  have hl := lv_entry [.ref (g 11 7)] (n := 2) (Nat.le_of_ble_eq_true rfl)
  rw [lg_entry_eq]
  generalize (lg_sl [.ref (g 11 7)] ++ List.replicate (2 - (lg_sl [.ref (g 11 7)]).length) Slot.unset).toArray = ls at hl ⊢
  have hl : lv_has ls 2 [(0, .ref (g 11 7))] := hl
  refine lv_aload_n hx hb dX5_clear_0 rfl (lv_at hl 0 rfl) ?_
  have i_5_4 : 0 ≤ (iv 5 4).toInt ∧ (iv 5 4).toInt ≤ 8 := hI.1 5 4
  refine gX_5_4 hx hb ht hown hK hP m_340 (v := (iv 5 4)) rfl dX5_clear_1 ?_
  refine lv_istore_n (lv' := [(1, .int (iv 5 4)), (0, .ref (g 11 7))]) hx hb dX5_clear_4 rfl hl (by decide) rfl (fun ls hl => ?_)
  refine lv_aload_n hx hb dX5_clear_5 rfl (lv_at hl 1 rfl) ?_
  refine lv_iconst (v := 0) hx hb dX5_clear_6 (by decide) ?_
  refine pX_5_4 (v := 0) hx hb ht hown hK hP hD hS m_340 dX5_clear_7 (fun H locs hP hD hS => ?_)
  refine lv_aload_n hx hb dX5_clear_10 rfl (lv_at hl 1 rfl) ?_
  refine lv_iconst (v := 0) hx hb dX5_clear_11 (by decide) ?_
  refine pX_5_6 (v := 0) hx hb ht hown hK hP hD hS m_344 dX5_clear_12 (fun H locs hP hD hS => ?_)
  refine lv_iload_n hx hb dX5_clear_15 rfl (lv_at hl 0 rfl) ?_
  have hP9 : va_P (dC, dI) classes (WX h g ca (u2 (u2 iv 5 4 0) 5 6 0) lv fa la) H := hP
  have hD9 : va_D A (WX h g ca (u2 (u2 iv 5 4 0) 5 6 0) lv fa la) := hD
  exact W.iret (v := (iv 5 4)) hx hb hr (fun t ht9 hW => ⟨⟨(iv 5 4), ((u2 (u2 iv 5 4 0) 5 6 0), lv, fa, la), rfl, ⟨0, 0, (show inb (0, 8) 0 from ⟨by decide, by decide⟩), ⟨by omega, by omega⟩, rfl⟩, by rw [ht9]; exact hP9, hD9⟩, hS.F ht9⟩) hS.2.2 dX5_clear_16
set_option maxHeartbeats 4000000 in
set_option maxRecDepth 100000 in
/-- X4_compare -/
theorem c_X4_compare (l : Launch) (dC : Nat → ClassId) (dI : Nat → Nat → Nat) (sz : Nat) (h : Nat) (g : Nat → Nat → Nat) (ca : Nat → Nat → ClassId) (iv : Nat → Nat → Int32) (lv : Nat → Nat → Int64) (fa : Nat → Nat → Nat → Int32) (la : Nat → Nat → Nat → Int64) (hI : IX iv fa) (a : Int32) (b : Int32) (q_4_2 : 0 ≤ (iv 4 2).toInt ∧ (iv 4 2).toInt ≤ 7) : Met l yX4_compare (wc yX4_compare cX4_compare 3 (some .int)) ({ frames := 0, cells := 0, slots := 0, locals := 0 } : Room) (pW (dC, dI) classes (WX h g ca iv lv fa la) (TX ca) sz [.ref (g 11 8), .int a, .int b]) (va_Qi (fun r (u : SS) => ∃ (na_4_0 : Nat → Int32) (na_4_1 : Nat → Int32) (ni_4_2 : Int32), inb (bI 4 2) ni_4_2 ∧ ni_4_2.toInt = (iv 4 2).toInt + 1 ∧ (1 ≤ r.toInt ∧ r.toInt ≤ 8) ∧ u = ((u2 iv 4 2 ni_4_2), lv, (u2 (u2 fa 4 0 na_4_0) 4 1 na_4_1), la)) (bX (dC, dI) h g ca (va_A (WX h g ca iv lv fa la) sz)) (va_A (WX h g ca iv lv fa la) sz)) 0 0 (va_A (WX h g ca iv lv fa la) sz) := by
  refine Met.ofW (cc := cX4_compare) (maxL := 3) (ret := (some .int)) (by decide) rfl ?_
  intro p e s m args below meth c s₁ B hml hv
  obtain ⟨rfl, hsz, hP, hK, hD0⟩ := hv
  have hx := B.exec
  have hb := B.bytes
  have hr := B.returns
  have ht := tb_tl (atoms_spec (ws := wc yX4_compare cX4_compare 3 (some .int)) B.pre)
  have hown : s.vm.findClass RX4 = some m.cls := findClass_of_methodNamed B.named
  have hlocks := B.notSynchronized
  subst hsz
  have hD := hD0.self (sz := s.heap.size)
  generalize hAe : va_A (WX h g ca iv lv fa la) s.heap.size = A at hD ⊢
  have hA : ∀ q : Nat, s.heap.size ≤ q → A q := fun q h => by rw [← hAe]; exact Or.inr h
  have hS : va_S A s.heap s.heap [] := va_S.rf
  have hl := lv_entry [.ref (g 11 8), .int a, .int b] (n := 3) (Nat.le_of_ble_eq_true rfl)
  rw [lg_entry_eq]
  generalize (lg_sl [.ref (g 11 8), .int a, .int b] ++ List.replicate (3 - (lg_sl [.ref (g 11 8), .int a, .int b]).length) Slot.unset).toArray = ls at hl ⊢
  have hl : lv_has ls 3 [(0, .ref (g 11 8)), (1, .int a), (2, .int b)] := hl
  refine lv_aload_n hx hb dX4_compare_0 rfl (lv_at hl 0 rfl) ?_
  refine gX_4_0 hx hb ht hown hK hP m_366 dX4_compare_1 ?_
  refine lv_aload_n hx hb dX4_compare_4 rfl (lv_at hl 0 rfl) ?_
  have i_4_2 : 0 ≤ (iv 4 2).toInt ∧ (iv 4 2).toInt ≤ 8 := hI.1 4 2
  refine gX_4_2 hx hb ht hown hK hP m_368 (v := (iv 4 2)) rfl dX4_compare_5 ?_
  refine lv_iload_n hx hb dX4_compare_8 rfl (lv_at hl 1 rfl) ?_
  refine tX_4_0 hx hb hK hP hD hS (f0 := (fa 4 0)) rfl (i := (iv 4 2)) (x := a) (vp_in_iff.mpr ⟨by omega, by omega⟩) dX4_compare_9 (fun f1 ef1 H locs hP hD hS => ?_)
  have hf1 : ∀ j, inb (bA 4 0 j) (f1 j) := fun j => full_i _
  refine lv_aload_n hx hb dX4_compare_10 rfl (lv_at hl 0 rfl) ?_
  refine gX_4_1 hx hb ht hown hK hP m_367 dX4_compare_11 ?_
  refine lv_aload_n hx hb dX4_compare_14 rfl (lv_at hl 0 rfl) ?_
  refine gX_4_2 hx hb ht hown hK hP m_368 (v := (iv 4 2)) rfl dX4_compare_15 ?_
  refine lv_iload_n hx hb dX4_compare_18 rfl (lv_at hl 2 rfl) ?_
  refine tX_4_1 hx hb hK hP hD hS (f0 := (fa 4 1)) rfl (i := (iv 4 2)) (x := b) (vp_in_iff.mpr ⟨by omega, by omega⟩) dX4_compare_19 (fun f2 ef2 H locs hP hD hS => ?_)
  have hf2 : ∀ j, inb (bA 4 1 j) (f2 j) := fun j => full_i _
  refine lv_aload_n hx hb dX4_compare_20 rfl (lv_at hl 0 rfl) ?_
  refine lv_dup hx hb dX4_compare_21 rfl ?_
  refine gX_4_2 hx hb ht hown hK hP m_368 (v := (iv 4 2)) rfl dX4_compare_22 ?_
  refine lv_iconst (v := 1) hx hb dX4_compare_25 (by decide) ?_
  refine lv_iadd hx hb dX4_compare_26 ?_
  refine lv_topi (fun v3 ev3 => ?_)
  have tv3 := z_add ev3 (rfl : ((iv 4 2)).toInt = _) (by decide : (1 : Int32).toInt = 1) (by omega) (by omega)
  refine pX_4_2 (v := v3) hx hb ht hown hK hP hD hS m_368 dX4_compare_27 (fun H locs hP hD hS => ?_)
  refine lv_aload_n hx hb dX4_compare_30 rfl (lv_at hl 0 rfl) ?_
  refine gX_4_2 hx hb ht hown hK hP m_368 (v := v3) rfl dX4_compare_31 ?_
  have hP9 : va_P (dC, dI) classes (WX h g ca (u2 iv 4 2 v3) lv (u2 (u2 fa 4 0 f1) 4 1 f2) la) H := hP
  have hD9 : va_D A (WX h g ca (u2 iv 4 2 v3) lv (u2 (u2 fa 4 0 f1) 4 1 f2) la) := hD
  exact W.iret (v := v3) hx hb hr (fun t ht9 hW => ⟨⟨v3, ((u2 iv 4 2 v3), lv, (u2 (u2 fa 4 0 f1) 4 1 f2), la), rfl, ⟨f1, f2, v3, (show inb (0, 8) v3 from ⟨by omega, by omega⟩), (by omega), ⟨by omega, by omega⟩, rfl⟩, by rw [ht9]; exact hP9, hD9⟩, hS.F ht9⟩) hS.2.2 dX4_compare_34
set_option maxHeartbeats 4000000 in
set_option maxRecDepth 100000 in
/-- X4_leastWithout -/
theorem c_X4_leastWithout (l : Launch) (dC : Nat → ClassId) (dI : Nat → Nat → Nat) (h : Nat) (g : Nat → Nat → Nat) (ca : Nat → Nat → ClassId) (iv : Nat → Nat → Int32) (lv : Nat → Nat → Int64) (fa : Nat → Nat → Nat → Int32) (la : Nat → Nat → Nat → Int64) (hI : IX iv fa) (a : Int32) : Met l yX4_leastWithout (wc yX4_leastWithout cX4_leastWithout 4 (some .int)) ({ frames := 1, cells := 0, slots := 0, locals := 40 } : Room) (pR (dC, dI) classes (WX h g ca iv lv fa la) (TX ca) [.ref (g 11 8), .int a]) (vp_Si (fun r => True)) 0 0 (fun _ => False) := by
  refine Met.ofW (cc := cX4_leastWithout) (maxL := 4) (ret := (some .int)) (by decide) rfl ?_
  intro p e s m args below meth c s₁ B hml hv
  obtain ⟨rfl, hP, hK⟩ := hv
  have hx := B.exec
  have hb := B.bytes
  have hr := B.returns
  have ht := tb_tl (atoms_spec (ws := wc yX4_leastWithout cX4_leastWithout 4 (some .int)) B.pre)
  have hown : s.vm.findClass RX4 = some m.cls := findClass_of_methodNamed B.named
  have hlocks := B.notSynchronized
  have hl := lv_entry [.ref (g 11 8), .int a] (n := 4) (Nat.le_of_ble_eq_true rfl)
  rw [lg_entry_eq]
  generalize (lg_sl [.ref (g 11 8), .int a] ++ List.replicate (4 - (lg_sl [.ref (g 11 8), .int a]).length) Slot.unset).toArray = ls at hl ⊢
  have hl : lv_has ls 4 [(0, .ref (g 11 8)), (1, .int a)] := hl
  refine lv_ldc hx hb hown (ht _ m_1060) dX4_leastWithout_0 ?_
  refine lv_istore_n (lv' := [(2, .int (-1000000)), (0, .ref (g 11 8)), (1, .int a)]) hx hb dX4_leastWithout_2 rfl hl (by decide) rfl (fun ls hl => ?_)
  refine lv_iconst (v := 0) hx hb dX4_leastWithout_3 (by decide) ?_
  refine lv_istore_n (lv' := [(3, .int 0), (2, .int (-1000000)), (0, .ref (g 11 8)), (1, .int a)]) hx hb dX4_leastWithout_4 rfl hl (by decide) rfl (fun ls hl => ?_)
  have lp83 : ∀ (nn83 : Nat) (x82_3 : Int32) (x82_2 : Int32), 0 ≤ x82_3.toInt ∧ x82_3.toInt ≤ 8 → (-1000000) ≤ x82_2.toInt → 8 - x82_3.toInt < (nn83 : Int) → ∀ (ls : Array Slot), lv_has ls 4 [(3, .int x82_3), (2, .int x82_2), (0, .ref (g 11 8)), (1, .int a)] → W p l e ({ frames := 1, cells := 0, slots := 0, locals := 40 } : Room) s m ([.ref (g 11 8), .int a] : List Value).toArray below meth c s.heap [] 0 0 (MQ below (vp_Si (fun r => True)) ([.ref (g 11 8), .int a] : List Value).toArray s 0 0 (fun _ => False)) (F0 m 5 ls []) := by
    intro nn83
    induction nn83 with
    | zero => intro x82_3 x82_2 hx82_3 hx82_2 hm83; exfalso; omega
    | succ nn83 ih83 =>
      intro x82_3 x82_2 hx82_3 hx82_2 hm83 ls hl
      refine lv_iload_n hx hb dX4_leastWithout_5 rfl (lv_at hl 0 rfl) ?_
      refine lv_aload_n hx hb dX4_leastWithout_6 rfl (lv_at hl 2 rfl) ?_
      have i_4_2 : 0 ≤ (iv 4 2).toInt ∧ (iv 4 2).toInt ≤ 8 := hI.1 4 2
      refine gX_4_2 hx hb ht hown hK hP m_368 (v := (iv 4 2)) rfl dX4_leastWithout_7 ?_
      refine lv_icmp_ge (tgt := 38) hx hb dX4_leastWithout_10 (by decide) (fun c84 => ?_) (fun c84 => ?_)
      · have fc84 := z_le (rfl : ((iv 4 2)).toInt = _) (rfl : (x82_3).toInt = _) c84
        refine lv_iload_n hx hb dX4_leastWithout_38 rfl (lv_at hl 1 rfl) ?_
        exact W.iret (v := x82_2) hx hb hr (fun t ht9 hW => ⟨x82_2, rfl, trivial, ht9⟩) (fun q hq => by cases hq) dX4_leastWithout_39
      · have fc84 := z_nle (rfl : ((iv 4 2)).toInt = _) (rfl : (x82_3).toInt = _) c84
        refine lv_iload_n hx hb dX4_leastWithout_13 rfl (lv_at hl 3 rfl) ?_
        refine lv_iload_n hx hb dX4_leastWithout_14 rfl (lv_at hl 0 rfl) ?_
        refine lv_ishr hx hb dX4_leastWithout_15 ?_
        refine lv_topi (fun v85 ev85 => ?_)
        refine lv_iconst (v := 1) hx hb dX4_leastWithout_16 (by decide) ?_
        refine lv_iand hx hb dX4_leastWithout_17 ?_
        refine lv_topi (fun v86 ev86 => ?_)
        refine lv_if_ne (tgt := 32) hx hb dX4_leastWithout_18 (by decide) (fun c87 => ?_) (fun c87 => ?_)
        · have fc87 := z_ne (rfl : (v86).toInt = _) (by decide : (0 : Int32).toInt = 0) c87
          obtain ⟨v88, ev88⟩ : ∃ y : Int32, y = x82_3 + 1 := ⟨_, rfl⟩
          have tv88 := z_add ev88 rfl (by decide : (1 : Int32).toInt = 1) (by omega) (by omega)
          refine lv_iinc (v := v88) (lv' := [(3, .int v88), (2, .int x82_2), (0, .ref (g 11 8)), (1, .int a)]) hx hb dX4_leastWithout_32 hl (k := 0) rfl (by rw [ev88]; rfl) (by decide) rfl (fun ls hl => ?_)
          refine lv_goto (tgt := 5) hx hb dX4_leastWithout_35 (by decide) ?_
          exact ih83 v88 x82_2 ⟨by omega, by omega⟩ (by omega) (by omega) ls (lv_sub hl [0, 1, 2, 3] rfl)
        · have fc87 := z_eq (rfl : (v86).toInt = _) (by decide : (0 : Int32).toInt = 0) c87
          refine lv_iload_n hx hb dX4_leastWithout_21 rfl (lv_at hl 1 rfl) ?_
          refine lv_aload_n hx hb dX4_leastWithout_22 rfl (lv_at hl 2 rfl) ?_
          refine gX_4_0 hx hb ht hown hK hP m_366 dX4_leastWithout_23 ?_
          refine lv_iload_n hx hb dX4_leastWithout_26 rfl (lv_at hl 0 rfl) ?_
          refine lX_4_0 hx hb hK hP (f := (fa 4 0)) rfl (vp_in_iff.mpr ⟨by omega, by omega⟩) dX4_leastWithout_27 ?_
          refine lv_topi (fun v89 ev89 => ?_)
          refine va_mmax hx hb (hml.trans hl.1.symm) hown (ht _ m_1061) (ht _ m_558) (ht _ m_90) (ht _ m_559) (Nat.le_of_ble_eq_true rfl) (Nat.le_of_ble_eq_true rfl) (Nat.le_of_ble_eq_true rfl) (Nat.le_of_ble_eq_true rfl) dX4_leastWithout_28 ?_
          refine lv_topi (fun v90 ev90 => ?_)
          have tv90 := mm_or ev90
          have uv90 := mm_max ev90 (rfl : (x82_2).toInt = _) (rfl : (v89).toInt = _)
          refine lv_istore_n (lv' := [(2, .int v90), (3, .int x82_3), (0, .ref (g 11 8)), (1, .int a)]) hx hb dX4_leastWithout_31 rfl hl (by decide) rfl (fun ls hl => ?_)
          obtain ⟨v91, ev91⟩ : ∃ y : Int32, y = x82_3 + 1 := ⟨_, rfl⟩
          have tv91 := z_add ev91 rfl (by decide : (1 : Int32).toInt = 1) (by omega) (by omega)
          refine lv_iinc (v := v91) (lv' := [(3, .int v91), (2, .int v90), (0, .ref (g 11 8)), (1, .int a)]) hx hb dX4_leastWithout_32 hl (k := 1) rfl (by rw [ev91]; rfl) (by decide) rfl (fun ls hl => ?_)
          refine lv_goto (tgt := 5) hx hb dX4_leastWithout_35 (by decide) ?_
          exact ih83 v91 v90 ⟨by omega, by omega⟩ (by omega) (by omega) ls (lv_sub hl [0, 1, 2, 3] rfl)
  exact lp83 9 0 (-1000000) ⟨by decide, by decide⟩ (by decide) (by first | decide | omega) ls (lv_sub hl [0, 1, 2, 3] rfl)
set_option maxHeartbeats 4000000 in
set_option maxRecDepth 100000 in
/-- X4_greatestWithout -/
theorem c_X4_greatestWithout (l : Launch) (dC : Nat → ClassId) (dI : Nat → Nat → Nat) (h : Nat) (g : Nat → Nat → Nat) (ca : Nat → Nat → ClassId) (iv : Nat → Nat → Int32) (lv : Nat → Nat → Int64) (fa : Nat → Nat → Nat → Int32) (la : Nat → Nat → Nat → Int64) (hI : IX iv fa) (a : Int32) : Met l yX4_greatestWithout (wc yX4_greatestWithout cX4_greatestWithout 4 (some .int)) ({ frames := 1, cells := 0, slots := 0, locals := 40 } : Room) (pR (dC, dI) classes (WX h g ca iv lv fa la) (TX ca) [.ref (g 11 8), .int a]) (vp_Si (fun r => True)) 0 0 (fun _ => False) := by
  refine Met.ofW (cc := cX4_greatestWithout) (maxL := 4) (ret := (some .int)) (by decide) rfl ?_
  intro p e s m args below meth c s₁ B hml hv
  obtain ⟨rfl, hP, hK⟩ := hv
  have hx := B.exec
  have hb := B.bytes
  have hr := B.returns
  have ht := tb_tl (atoms_spec (ws := wc yX4_greatestWithout cX4_greatestWithout 4 (some .int)) B.pre)
  have hown : s.vm.findClass RX4 = some m.cls := findClass_of_methodNamed B.named
  have hlocks := B.notSynchronized
  have hl := lv_entry [.ref (g 11 8), .int a] (n := 4) (Nat.le_of_ble_eq_true rfl)
  rw [lg_entry_eq]
  generalize (lg_sl [.ref (g 11 8), .int a] ++ List.replicate (4 - (lg_sl [.ref (g 11 8), .int a]).length) Slot.unset).toArray = ls at hl ⊢
  have hl : lv_has ls 4 [(0, .ref (g 11 8)), (1, .int a)] := hl
  refine lv_ldc hx hb hown (ht _ m_1066) dX4_greatestWithout_0 ?_
  refine lv_istore_n (lv' := [(2, .int 1000000), (0, .ref (g 11 8)), (1, .int a)]) hx hb dX4_greatestWithout_2 rfl hl (by decide) rfl (fun ls hl => ?_)
  refine lv_iconst (v := 0) hx hb dX4_greatestWithout_3 (by decide) ?_
  refine lv_istore_n (lv' := [(3, .int 0), (2, .int 1000000), (0, .ref (g 11 8)), (1, .int a)]) hx hb dX4_greatestWithout_4 rfl hl (by decide) rfl (fun ls hl => ?_)
  have lp83 : ∀ (nn83 : Nat) (x82_3 : Int32) (x82_2 : Int32), 0 ≤ x82_3.toInt ∧ x82_3.toInt ≤ 8 → x82_2.toInt ≤ 1000000 → 8 - x82_3.toInt < (nn83 : Int) → ∀ (ls : Array Slot), lv_has ls 4 [(3, .int x82_3), (2, .int x82_2), (0, .ref (g 11 8)), (1, .int a)] → W p l e ({ frames := 1, cells := 0, slots := 0, locals := 40 } : Room) s m ([.ref (g 11 8), .int a] : List Value).toArray below meth c s.heap [] 0 0 (MQ below (vp_Si (fun r => True)) ([.ref (g 11 8), .int a] : List Value).toArray s 0 0 (fun _ => False)) (F0 m 5 ls []) := by
    intro nn83
    induction nn83 with
    | zero => intro x82_3 x82_2 hx82_3 hx82_2 hm83; exfalso; omega
    | succ nn83 ih83 =>
      intro x82_3 x82_2 hx82_3 hx82_2 hm83 ls hl
      refine lv_iload_n hx hb dX4_greatestWithout_5 rfl (lv_at hl 0 rfl) ?_
      refine lv_aload_n hx hb dX4_greatestWithout_6 rfl (lv_at hl 2 rfl) ?_
      have i_4_2 : 0 ≤ (iv 4 2).toInt ∧ (iv 4 2).toInt ≤ 8 := hI.1 4 2
      refine gX_4_2 hx hb ht hown hK hP m_368 (v := (iv 4 2)) rfl dX4_greatestWithout_7 ?_
      refine lv_icmp_ge (tgt := 38) hx hb dX4_greatestWithout_10 (by decide) (fun c84 => ?_) (fun c84 => ?_)
      · have fc84 := z_le (rfl : ((iv 4 2)).toInt = _) (rfl : (x82_3).toInt = _) c84
        refine lv_iload_n hx hb dX4_greatestWithout_38 rfl (lv_at hl 1 rfl) ?_
        exact W.iret (v := x82_2) hx hb hr (fun t ht9 hW => ⟨x82_2, rfl, trivial, ht9⟩) (fun q hq => by cases hq) dX4_greatestWithout_39
      · have fc84 := z_nle (rfl : ((iv 4 2)).toInt = _) (rfl : (x82_3).toInt = _) c84
        refine lv_iload_n hx hb dX4_greatestWithout_13 rfl (lv_at hl 3 rfl) ?_
        refine lv_iload_n hx hb dX4_greatestWithout_14 rfl (lv_at hl 0 rfl) ?_
        refine lv_ishr hx hb dX4_greatestWithout_15 ?_
        refine lv_topi (fun v85 ev85 => ?_)
        refine lv_iconst (v := 1) hx hb dX4_greatestWithout_16 (by decide) ?_
        refine lv_iand hx hb dX4_greatestWithout_17 ?_
        refine lv_topi (fun v86 ev86 => ?_)
        refine lv_if_ne (tgt := 32) hx hb dX4_greatestWithout_18 (by decide) (fun c87 => ?_) (fun c87 => ?_)
        · have fc87 := z_ne (rfl : (v86).toInt = _) (by decide : (0 : Int32).toInt = 0) c87
          obtain ⟨v88, ev88⟩ : ∃ y : Int32, y = x82_3 + 1 := ⟨_, rfl⟩
          have tv88 := z_add ev88 rfl (by decide : (1 : Int32).toInt = 1) (by omega) (by omega)
          refine lv_iinc (v := v88) (lv' := [(3, .int v88), (2, .int x82_2), (0, .ref (g 11 8)), (1, .int a)]) hx hb dX4_greatestWithout_32 hl (k := 0) rfl (by rw [ev88]; rfl) (by decide) rfl (fun ls hl => ?_)
          refine lv_goto (tgt := 5) hx hb dX4_greatestWithout_35 (by decide) ?_
          exact ih83 v88 x82_2 ⟨by omega, by omega⟩ (by omega) (by omega) ls (lv_sub hl [0, 1, 2, 3] rfl)
        · have fc87 := z_eq (rfl : (v86).toInt = _) (by decide : (0 : Int32).toInt = 0) c87
          refine lv_iload_n hx hb dX4_greatestWithout_21 rfl (lv_at hl 1 rfl) ?_
          refine lv_aload_n hx hb dX4_greatestWithout_22 rfl (lv_at hl 2 rfl) ?_
          refine gX_4_1 hx hb ht hown hK hP m_367 dX4_greatestWithout_23 ?_
          refine lv_iload_n hx hb dX4_greatestWithout_26 rfl (lv_at hl 0 rfl) ?_
          refine lX_4_1 hx hb hK hP (f := (fa 4 1)) rfl (vp_in_iff.mpr ⟨by omega, by omega⟩) dX4_greatestWithout_27 ?_
          refine lv_topi (fun v89 ev89 => ?_)
          refine va_mmin hx hb (hml.trans hl.1.symm) hown (ht _ m_1067) (ht _ m_551) (ht _ m_90) (ht _ m_552) (Nat.le_of_ble_eq_true rfl) (Nat.le_of_ble_eq_true rfl) (Nat.le_of_ble_eq_true rfl) (Nat.le_of_ble_eq_true rfl) dX4_greatestWithout_28 ?_
          refine lv_topi (fun v90 ev90 => ?_)
          have tv90 := mm_or ev90
          have uv90 := mm_min ev90 (rfl : (x82_2).toInt = _) (rfl : (v89).toInt = _)
          refine lv_istore_n (lv' := [(2, .int v90), (3, .int x82_3), (0, .ref (g 11 8)), (1, .int a)]) hx hb dX4_greatestWithout_31 rfl hl (by decide) rfl (fun ls hl => ?_)
          obtain ⟨v91, ev91⟩ : ∃ y : Int32, y = x82_3 + 1 := ⟨_, rfl⟩
          have tv91 := z_add ev91 rfl (by decide : (1 : Int32).toInt = 1) (by omega) (by omega)
          refine lv_iinc (v := v91) (lv' := [(3, .int v91), (2, .int v90), (0, .ref (g 11 8)), (1, .int a)]) hx hb dX4_greatestWithout_32 hl (k := 1) rfl (by rw [ev91]; rfl) (by decide) rfl (fun ls hl => ?_)
          refine lv_goto (tgt := 5) hx hb dX4_greatestWithout_35 (by decide) ?_
          exact ih83 v91 v90 ⟨by omega, by omega⟩ (by omega) (by omega) ls (lv_sub hl [0, 1, 2, 3] rfl)
  exact lp83 9 0 1000000 ⟨by decide, by decide⟩ (by decide) (by first | decide | omega) ls (lv_sub hl [0, 1, 2, 3] rfl)
