/-! ===== skeins ===== -/
set_option maxRecDepth 100000 in
theorem m_0 : Cond.selects RX10 yX10_set yX10_set ∈ tb := tb_in 0 (by decide +kernel) rfl
theorem m_78 : Cond.initialized RX10 ∈ tb := mb_1_0 _ (List.mem_of_getElem? (i := 1) rfl)
theorem m_111 : Cond.fieldLink RX10 11 "SilkHouse$Skeins" "rows" "[I" ∈ tb := mb_1_1 _ (List.mem_of_getElem? (i := 8) rfl)
theorem m_112 : Cond.fieldLink RX10 15 "SilkHouse$Skeins" "number" "I" ∈ tb := mb_1_1 _ (List.mem_of_getElem? (i := 9) rfl)
theorem m_116 : Cond.fieldLink RX10 19 "SilkHouse$Skeins" "lost" "I" ∈ tb := mb_1_1 _ (List.mem_of_getElem? (i := 13) rfl)
theorem m_481 : Cond.methodLink RX10 22 yX10_isOf ∈ tb := mb_2_3 _ (List.mem_of_getElem? (i := 15) rfl)
theorem m_482 : Cond.instanceMethod yX10_isOf ∈ tb := mb_2_3 _ (List.mem_of_getElem? (i := 16) rfl)
theorem m_483 : Cond.selects RX10 yX10_isOf yX10_isOf ∈ tb := mb_2_3 _ (List.mem_of_getElem? (i := 17) rfl)
theorem m_484 : Cond.code yX10_isOf cX10_isOf 4 (some .boolean) ∈ tb := mb_2_3 _ (List.mem_of_getElem? (i := 18) rfl)
theorem m_485 : Cond.methodLink RX10 30 yX10_get ∈ tb := mb_2_3 _ (List.mem_of_getElem? (i := 19) rfl)
theorem m_486 : Cond.instanceMethod yX10_get ∈ tb := mb_2_3 _ (List.mem_of_getElem? (i := 20) rfl)
theorem m_487 : Cond.selects RX10 yX10_get yX10_get ∈ tb := mb_2_3 _ (List.mem_of_getElem? (i := 21) rfl)
theorem m_488 : Cond.code yX10_get cX10_get 3 (some .int) ∈ tb := mb_2_3 _ (List.mem_of_getElem? (i := 22) rfl)
theorem m_493 : Cond.methodLink RX10 26 yX10_set ∈ tb := mb_2_4 _ (List.mem_of_getElem? (i := 3) rfl)
theorem m_495 : Cond.instanceMethod yX10_set ∈ tb := mb_2_4 _ (List.mem_of_getElem? (i := 4) rfl)
theorem m_496 : Cond.code yX10_set cX10_set 4 none ∈ tb := mb_2_4 _ (List.mem_of_getElem? (i := 5) rfl)
theorem hd_X10_get_v : yX10_get.cls = RX10 ∧ yX10_get.cls ≠ "java/lang/invoke/MethodHandle" ∧ yX10_get.cls ≠ "java/lang/invoke/VarHandle" ∧ (parseMethodDescriptor yX10_get.desc).map (fun d => d.parameters.length) = some 2 := by decide +kernel
theorem hd_X10_isOf_v : yX10_isOf.cls = RX10 ∧ yX10_isOf.cls ≠ "java/lang/invoke/MethodHandle" ∧ yX10_isOf.cls ≠ "java/lang/invoke/VarHandle" ∧ (parseMethodDescriptor yX10_isOf.desc).map (fun d => d.parameters.length) = some 3 := by decide +kernel
theorem hd_X10_set_v : yX10_set.cls = RX10 ∧ yX10_set.cls ≠ "java/lang/invoke/MethodHandle" ∧ yX10_set.cls ≠ "java/lang/invoke/VarHandle" ∧ (parseMethodDescriptor yX10_set.desc).map (fun d => d.parameters.length) = some 3 := by decide +kernel
set_option maxRecDepth 100000 in
theorem dvX10_counts_0 : ([(0, .aload_n 0, 1), (1, .iload_n 1, 1), (2, .bipush 7, 2), (4, .invokevirtual 30, 3), (7, .iload_n 2, 1), (8, .if_icmp .gt 29, 3), (11, .aload_n 0, 1), (12, .iload_n 1, 1), (13, .bipush 8, 2), (15, .invokevirtual 30, 3), (18, .iconst (-1), 1), (19, .if_icmp .eq 14, 3), (22, .aload_n 0, 1), (23, .iload_n 1, 1), (24, .bipush 8, 2), (26, .invokevirtual 30, 3), (29, .iload_n 2, 1), (30, .if_icmp .le 7, 3), (33, .iconst 1, 1), (34, .goto 4, 3), (37, .iconst 0, 1), (38, .ireturn, 1)] : List (Nat × Instr × Nat)).all (fun q => decide (decode cX10_counts q.1 = .ok (q.2.1, q.2.2))) = true := by decide +kernel
theorem dX10_counts_0 : decode cX10_counts 0 = .ok (.aload_n 0, 1) := all_at dvX10_counts_0 0 rfl
theorem dX10_counts_1 : decode cX10_counts 1 = .ok (.iload_n 1, 1) := all_at dvX10_counts_0 1 rfl
theorem dX10_counts_2 : decode cX10_counts 2 = .ok (.bipush 7, 2) := all_at dvX10_counts_0 2 rfl
theorem dX10_counts_4 : decode cX10_counts 4 = .ok (.invokevirtual 30, 3) := all_at dvX10_counts_0 3 rfl
theorem dX10_counts_7 : decode cX10_counts 7 = .ok (.iload_n 2, 1) := all_at dvX10_counts_0 4 rfl
theorem dX10_counts_8 : decode cX10_counts 8 = .ok (.if_icmp .gt 29, 3) := all_at dvX10_counts_0 5 rfl
theorem dX10_counts_11 : decode cX10_counts 11 = .ok (.aload_n 0, 1) := all_at dvX10_counts_0 6 rfl
theorem dX10_counts_12 : decode cX10_counts 12 = .ok (.iload_n 1, 1) := all_at dvX10_counts_0 7 rfl
theorem dX10_counts_13 : decode cX10_counts 13 = .ok (.bipush 8, 2) := all_at dvX10_counts_0 8 rfl
theorem dX10_counts_15 : decode cX10_counts 15 = .ok (.invokevirtual 30, 3) := all_at dvX10_counts_0 9 rfl
theorem dX10_counts_18 : decode cX10_counts 18 = .ok (.iconst (-1), 1) := all_at dvX10_counts_0 10 rfl
theorem dX10_counts_19 : decode cX10_counts 19 = .ok (.if_icmp .eq 14, 3) := all_at dvX10_counts_0 11 rfl
theorem dX10_counts_22 : decode cX10_counts 22 = .ok (.aload_n 0, 1) := all_at dvX10_counts_0 12 rfl
theorem dX10_counts_23 : decode cX10_counts 23 = .ok (.iload_n 1, 1) := all_at dvX10_counts_0 13 rfl
theorem dX10_counts_24 : decode cX10_counts 24 = .ok (.bipush 8, 2) := all_at dvX10_counts_0 14 rfl
theorem dX10_counts_26 : decode cX10_counts 26 = .ok (.invokevirtual 30, 3) := all_at dvX10_counts_0 15 rfl
theorem dX10_counts_29 : decode cX10_counts 29 = .ok (.iload_n 2, 1) := all_at dvX10_counts_0 16 rfl
theorem dX10_counts_30 : decode cX10_counts 30 = .ok (.if_icmp .le 7, 3) := all_at dvX10_counts_0 17 rfl
theorem dX10_counts_33 : decode cX10_counts 33 = .ok (.iconst 1, 1) := all_at dvX10_counts_0 18 rfl
theorem dX10_counts_34 : decode cX10_counts 34 = .ok (.goto 4, 3) := all_at dvX10_counts_0 19 rfl
theorem dX10_counts_37 : decode cX10_counts 37 = .ok (.iconst 0, 1) := all_at dvX10_counts_0 20 rfl
theorem dX10_counts_38 : decode cX10_counts 38 = .ok (.ireturn, 1) := all_at dvX10_counts_0 21 rfl
set_option maxRecDepth 100000 in
theorem dvX10_draw_0 : ([(0, .aload_n 0, 1), (1, .getfield 15, 3), (4, .istore 4, 2), (6, .aload_n 0, 1), (7, .iload 4, 2), (9, .iconst 0, 1), (10, .iload_n 1, 1), (11, .invokevirtual 26, 3), (14, .aload_n 0, 1), (15, .iload 4, 2), (17, .iconst 1, 1), (18, .iload_n 2, 1), (19, .invokevirtual 26, 3), (22, .aload_n 0, 1), (23, .iload 4, 2), (25, .bipush 7, 2), (27, .iload_n 3, 1), (28, .invokevirtual 26, 3), (31, .aload_n 0, 1), (32, .iload 4, 2), (34, .bipush 8, 2), (36, .iconst (-1), 1), (37, .invokevirtual 26, 3), (40, .aload_n 0, 1)] : List (Nat × Instr × Nat)).all (fun q => decide (decode cX10_draw q.1 = .ok (q.2.1, q.2.2))) = true := by decide +kernel
theorem dX10_draw_0 : decode cX10_draw 0 = .ok (.aload_n 0, 1) := all_at dvX10_draw_0 0 rfl
theorem dX10_draw_1 : decode cX10_draw 1 = .ok (.getfield 15, 3) := all_at dvX10_draw_0 1 rfl
theorem dX10_draw_4 : decode cX10_draw 4 = .ok (.istore 4, 2) := all_at dvX10_draw_0 2 rfl
theorem dX10_draw_6 : decode cX10_draw 6 = .ok (.aload_n 0, 1) := all_at dvX10_draw_0 3 rfl
theorem dX10_draw_7 : decode cX10_draw 7 = .ok (.iload 4, 2) := all_at dvX10_draw_0 4 rfl
theorem dX10_draw_9 : decode cX10_draw 9 = .ok (.iconst 0, 1) := all_at dvX10_draw_0 5 rfl
theorem dX10_draw_10 : decode cX10_draw 10 = .ok (.iload_n 1, 1) := all_at dvX10_draw_0 6 rfl
theorem dX10_draw_11 : decode cX10_draw 11 = .ok (.invokevirtual 26, 3) := all_at dvX10_draw_0 7 rfl
theorem dX10_draw_14 : decode cX10_draw 14 = .ok (.aload_n 0, 1) := all_at dvX10_draw_0 8 rfl
theorem dX10_draw_15 : decode cX10_draw 15 = .ok (.iload 4, 2) := all_at dvX10_draw_0 9 rfl
theorem dX10_draw_17 : decode cX10_draw 17 = .ok (.iconst 1, 1) := all_at dvX10_draw_0 10 rfl
theorem dX10_draw_18 : decode cX10_draw 18 = .ok (.iload_n 2, 1) := all_at dvX10_draw_0 11 rfl
theorem dX10_draw_19 : decode cX10_draw 19 = .ok (.invokevirtual 26, 3) := all_at dvX10_draw_0 12 rfl
theorem dX10_draw_22 : decode cX10_draw 22 = .ok (.aload_n 0, 1) := all_at dvX10_draw_0 13 rfl
theorem dX10_draw_23 : decode cX10_draw 23 = .ok (.iload 4, 2) := all_at dvX10_draw_0 14 rfl
theorem dX10_draw_25 : decode cX10_draw 25 = .ok (.bipush 7, 2) := all_at dvX10_draw_0 15 rfl
theorem dX10_draw_27 : decode cX10_draw 27 = .ok (.iload_n 3, 1) := all_at dvX10_draw_0 16 rfl
theorem dX10_draw_28 : decode cX10_draw 28 = .ok (.invokevirtual 26, 3) := all_at dvX10_draw_0 17 rfl
theorem dX10_draw_31 : decode cX10_draw 31 = .ok (.aload_n 0, 1) := all_at dvX10_draw_0 18 rfl
theorem dX10_draw_32 : decode cX10_draw 32 = .ok (.iload 4, 2) := all_at dvX10_draw_0 19 rfl
theorem dX10_draw_34 : decode cX10_draw 34 = .ok (.bipush 8, 2) := all_at dvX10_draw_0 20 rfl
theorem dX10_draw_36 : decode cX10_draw 36 = .ok (.iconst (-1), 1) := all_at dvX10_draw_0 21 rfl
theorem dX10_draw_37 : decode cX10_draw 37 = .ok (.invokevirtual 26, 3) := all_at dvX10_draw_0 22 rfl
theorem dX10_draw_40 : decode cX10_draw 40 = .ok (.aload_n 0, 1) := all_at dvX10_draw_0 23 rfl
set_option maxRecDepth 100000 in
theorem dvX10_draw_41 : ([(41, .dup, 1), (42, .getfield 15, 3), (45, .iconst 1, 1), (46, .iadd, 1), (47, .putfield 15, 3), (50, .iload 4, 2), (52, .ireturn, 1)] : List (Nat × Instr × Nat)).all (fun q => decide (decode cX10_draw q.1 = .ok (q.2.1, q.2.2))) = true := by decide +kernel
theorem dX10_draw_41 : decode cX10_draw 41 = .ok (.dup, 1) := all_at dvX10_draw_41 0 rfl
theorem dX10_draw_42 : decode cX10_draw 42 = .ok (.getfield 15, 3) := all_at dvX10_draw_41 1 rfl
theorem dX10_draw_45 : decode cX10_draw 45 = .ok (.iconst 1, 1) := all_at dvX10_draw_41 2 rfl
theorem dX10_draw_46 : decode cX10_draw 46 = .ok (.iadd, 1) := all_at dvX10_draw_41 3 rfl
theorem dX10_draw_47 : decode cX10_draw 47 = .ok (.putfield 15, 3) := all_at dvX10_draw_41 4 rfl
theorem dX10_draw_50 : decode cX10_draw 50 = .ok (.iload 4, 2) := all_at dvX10_draw_41 5 rfl
theorem dX10_draw_52 : decode cX10_draw 52 = .ok (.ireturn, 1) := all_at dvX10_draw_41 6 rfl
set_option maxRecDepth 100000 in
theorem dvX10_drawn_0 : ([(0, .iconst 0, 1), (1, .istore_n 3, 1), (2, .iconst 0, 1), (3, .istore 4, 2), (5, .iload 4, 2), (7, .aload_n 0, 1), (8, .getfield 15, 3), (11, .if_icmp .ge 23, 3), (14, .aload_n 0, 1), (15, .iload 4, 2), (17, .iload_n 1, 1), (18, .iload_n 2, 1), (19, .invokevirtual 22, 3), (22, .ifCond .eq 6, 3), (25, .iinc 3 1, 3), (28, .iinc 4 1, 3), (31, .goto (-26), 3), (34, .iload_n 3, 1), (35, .ireturn, 1)] : List (Nat × Instr × Nat)).all (fun q => decide (decode cX10_drawn q.1 = .ok (q.2.1, q.2.2))) = true := by decide +kernel
theorem dX10_drawn_0 : decode cX10_drawn 0 = .ok (.iconst 0, 1) := all_at dvX10_drawn_0 0 rfl
theorem dX10_drawn_1 : decode cX10_drawn 1 = .ok (.istore_n 3, 1) := all_at dvX10_drawn_0 1 rfl
theorem dX10_drawn_2 : decode cX10_drawn 2 = .ok (.iconst 0, 1) := all_at dvX10_drawn_0 2 rfl
theorem dX10_drawn_3 : decode cX10_drawn 3 = .ok (.istore 4, 2) := all_at dvX10_drawn_0 3 rfl
theorem dX10_drawn_5 : decode cX10_drawn 5 = .ok (.iload 4, 2) := all_at dvX10_drawn_0 4 rfl
theorem dX10_drawn_7 : decode cX10_drawn 7 = .ok (.aload_n 0, 1) := all_at dvX10_drawn_0 5 rfl
theorem dX10_drawn_8 : decode cX10_drawn 8 = .ok (.getfield 15, 3) := all_at dvX10_drawn_0 6 rfl
theorem dX10_drawn_11 : decode cX10_drawn 11 = .ok (.if_icmp .ge 23, 3) := all_at dvX10_drawn_0 7 rfl
theorem dX10_drawn_14 : decode cX10_drawn 14 = .ok (.aload_n 0, 1) := all_at dvX10_drawn_0 8 rfl
theorem dX10_drawn_15 : decode cX10_drawn 15 = .ok (.iload 4, 2) := all_at dvX10_drawn_0 9 rfl
theorem dX10_drawn_17 : decode cX10_drawn 17 = .ok (.iload_n 1, 1) := all_at dvX10_drawn_0 10 rfl
theorem dX10_drawn_18 : decode cX10_drawn 18 = .ok (.iload_n 2, 1) := all_at dvX10_drawn_0 11 rfl
theorem dX10_drawn_19 : decode cX10_drawn 19 = .ok (.invokevirtual 22, 3) := all_at dvX10_drawn_0 12 rfl
theorem dX10_drawn_22 : decode cX10_drawn 22 = .ok (.ifCond .eq 6, 3) := all_at dvX10_drawn_0 13 rfl
theorem dX10_drawn_25 : decode cX10_drawn 25 = .ok (.iinc 3 1, 3) := all_at dvX10_drawn_0 14 rfl
theorem dX10_drawn_28 : decode cX10_drawn 28 = .ok (.iinc 4 1, 3) := all_at dvX10_drawn_0 15 rfl
theorem dX10_drawn_31 : decode cX10_drawn 31 = .ok (.goto (-26), 3) := all_at dvX10_drawn_0 16 rfl
theorem dX10_drawn_34 : decode cX10_drawn 34 = .ok (.iload_n 3, 1) := all_at dvX10_drawn_0 17 rfl
theorem dX10_drawn_35 : decode cX10_drawn 35 = .ok (.ireturn, 1) := all_at dvX10_drawn_0 18 rfl
set_option maxRecDepth 100000 in
theorem dvX10_dropOut_0 : ([(0, .aload_n 0, 1), (1, .iload_n 1, 1), (2, .bipush 8, 2), (4, .iload_n 2, 1), (5, .invokevirtual 26, 3), (8, .aload_n 0, 1), (9, .dup, 1), (10, .getfield 19, 3), (13, .iconst 1, 1), (14, .iadd, 1), (15, .putfield 19, 3), (18, .return_, 1)] : List (Nat × Instr × Nat)).all (fun q => decide (decode cX10_dropOut q.1 = .ok (q.2.1, q.2.2))) = true := by decide +kernel
theorem dX10_dropOut_0 : decode cX10_dropOut 0 = .ok (.aload_n 0, 1) := all_at dvX10_dropOut_0 0 rfl
theorem dX10_dropOut_1 : decode cX10_dropOut 1 = .ok (.iload_n 1, 1) := all_at dvX10_dropOut_0 1 rfl
theorem dX10_dropOut_2 : decode cX10_dropOut 2 = .ok (.bipush 8, 2) := all_at dvX10_dropOut_0 2 rfl
theorem dX10_dropOut_4 : decode cX10_dropOut 4 = .ok (.iload_n 2, 1) := all_at dvX10_dropOut_0 3 rfl
theorem dX10_dropOut_5 : decode cX10_dropOut 5 = .ok (.invokevirtual 26, 3) := all_at dvX10_dropOut_0 4 rfl
theorem dX10_dropOut_8 : decode cX10_dropOut 8 = .ok (.aload_n 0, 1) := all_at dvX10_dropOut_0 5 rfl
theorem dX10_dropOut_9 : decode cX10_dropOut 9 = .ok (.dup, 1) := all_at dvX10_dropOut_0 6 rfl
theorem dX10_dropOut_10 : decode cX10_dropOut 10 = .ok (.getfield 19, 3) := all_at dvX10_dropOut_0 7 rfl
theorem dX10_dropOut_13 : decode cX10_dropOut 13 = .ok (.iconst 1, 1) := all_at dvX10_dropOut_0 8 rfl
theorem dX10_dropOut_14 : decode cX10_dropOut 14 = .ok (.iadd, 1) := all_at dvX10_dropOut_0 9 rfl
theorem dX10_dropOut_15 : decode cX10_dropOut 15 = .ok (.putfield 19, 3) := all_at dvX10_dropOut_0 10 rfl
theorem dX10_dropOut_18 : decode cX10_dropOut 18 = .ok (.return_, 1) := all_at dvX10_dropOut_0 11 rfl
set_option maxRecDepth 100000 in
theorem dvX10_dryIn_0 : ([(0, .aload_n 0, 1), (1, .iload_n 1, 1), (2, .iconst 5, 1), (3, .iload_n 2, 1), (4, .invokevirtual 26, 3), (7, .aload_n 0, 1), (8, .iload_n 1, 1), (9, .bipush 6, 2), (11, .iload_n 3, 1), (12, .invokevirtual 26, 3), (15, .return_, 1)] : List (Nat × Instr × Nat)).all (fun q => decide (decode cX10_dryIn q.1 = .ok (q.2.1, q.2.2))) = true := by decide +kernel
theorem dX10_dryIn_0 : decode cX10_dryIn 0 = .ok (.aload_n 0, 1) := all_at dvX10_dryIn_0 0 rfl
theorem dX10_dryIn_1 : decode cX10_dryIn 1 = .ok (.iload_n 1, 1) := all_at dvX10_dryIn_0 1 rfl
theorem dX10_dryIn_2 : decode cX10_dryIn 2 = .ok (.iconst 5, 1) := all_at dvX10_dryIn_0 2 rfl
theorem dX10_dryIn_3 : decode cX10_dryIn 3 = .ok (.iload_n 2, 1) := all_at dvX10_dryIn_0 3 rfl
theorem dX10_dryIn_4 : decode cX10_dryIn 4 = .ok (.invokevirtual 26, 3) := all_at dvX10_dryIn_0 4 rfl
theorem dX10_dryIn_7 : decode cX10_dryIn 7 = .ok (.aload_n 0, 1) := all_at dvX10_dryIn_0 5 rfl
theorem dX10_dryIn_8 : decode cX10_dryIn 8 = .ok (.iload_n 1, 1) := all_at dvX10_dryIn_0 6 rfl
theorem dX10_dryIn_9 : decode cX10_dryIn 9 = .ok (.bipush 6, 2) := all_at dvX10_dryIn_0 7 rfl
theorem dX10_dryIn_11 : decode cX10_dryIn 11 = .ok (.iload_n 3, 1) := all_at dvX10_dryIn_0 8 rfl
theorem dX10_dryIn_12 : decode cX10_dryIn 12 = .ok (.invokevirtual 26, 3) := all_at dvX10_dryIn_0 9 rfl
theorem dX10_dryIn_15 : decode cX10_dryIn 15 = .ok (.return_, 1) := all_at dvX10_dryIn_0 10 rfl
set_option maxRecDepth 100000 in
theorem dvX10_get_0 : ([(0, .aload_n 0, 1), (1, .getfield 11, 3), (4, .iload_n 1, 1), (5, .bipush 9, 2), (7, .imul, 1), (8, .iload_n 2, 1), (9, .iadd, 1), (10, .iaload, 1), (11, .ireturn, 1)] : List (Nat × Instr × Nat)).all (fun q => decide (decode cX10_get q.1 = .ok (q.2.1, q.2.2))) = true := by decide +kernel
theorem dX10_get_0 : decode cX10_get 0 = .ok (.aload_n 0, 1) := all_at dvX10_get_0 0 rfl
theorem dX10_get_1 : decode cX10_get 1 = .ok (.getfield 11, 3) := all_at dvX10_get_0 1 rfl
theorem dX10_get_4 : decode cX10_get 4 = .ok (.iload_n 1, 1) := all_at dvX10_get_0 2 rfl
theorem dX10_get_5 : decode cX10_get 5 = .ok (.bipush 9, 2) := all_at dvX10_get_0 3 rfl
theorem dX10_get_7 : decode cX10_get 7 = .ok (.imul, 1) := all_at dvX10_get_0 4 rfl
theorem dX10_get_8 : decode cX10_get 8 = .ok (.iload_n 2, 1) := all_at dvX10_get_0 5 rfl
theorem dX10_get_9 : decode cX10_get 9 = .ok (.iadd, 1) := all_at dvX10_get_0 6 rfl
theorem dX10_get_10 : decode cX10_get 10 = .ok (.iaload, 1) := all_at dvX10_get_0 7 rfl
theorem dX10_get_11 : decode cX10_get 11 = .ok (.ireturn, 1) := all_at dvX10_get_0 8 rfl
set_option maxRecDepth 100000 in
theorem dvX10_has_0 : ([(0, .iload_n 1, 1), (1, .ifCond .lt 15, 3), (4, .iload_n 1, 1), (5, .aload_n 0, 1), (6, .getfield 15, 3), (9, .if_icmp .ge 7, 3), (12, .iconst 1, 1), (13, .goto 4, 3), (16, .iconst 0, 1), (17, .ireturn, 1)] : List (Nat × Instr × Nat)).all (fun q => decide (decode cX10_has q.1 = .ok (q.2.1, q.2.2))) = true := by decide +kernel
theorem dX10_has_0 : decode cX10_has 0 = .ok (.iload_n 1, 1) := all_at dvX10_has_0 0 rfl
theorem dX10_has_1 : decode cX10_has 1 = .ok (.ifCond .lt 15, 3) := all_at dvX10_has_0 1 rfl
theorem dX10_has_4 : decode cX10_has 4 = .ok (.iload_n 1, 1) := all_at dvX10_has_0 2 rfl
theorem dX10_has_5 : decode cX10_has 5 = .ok (.aload_n 0, 1) := all_at dvX10_has_0 3 rfl
theorem dX10_has_6 : decode cX10_has 6 = .ok (.getfield 15, 3) := all_at dvX10_has_0 4 rfl
theorem dX10_has_9 : decode cX10_has 9 = .ok (.if_icmp .ge 7, 3) := all_at dvX10_has_0 5 rfl
theorem dX10_has_12 : decode cX10_has 12 = .ok (.iconst 1, 1) := all_at dvX10_has_0 6 rfl
theorem dX10_has_13 : decode cX10_has 13 = .ok (.goto 4, 3) := all_at dvX10_has_0 7 rfl
theorem dX10_has_16 : decode cX10_has 16 = .ok (.iconst 0, 1) := all_at dvX10_has_0 8 rfl
theorem dX10_has_17 : decode cX10_has 17 = .ok (.ireturn, 1) := all_at dvX10_has_0 9 rfl
set_option maxRecDepth 100000 in
theorem dvX10_isOf_0 : ([(0, .aload_n 0, 1), (1, .iload_n 1, 1), (2, .iconst 0, 1), (3, .invokevirtual 30, 3), (6, .iload_n 2, 1), (7, .if_icmp .ne 17, 3), (10, .aload_n 0, 1), (11, .iload_n 1, 1), (12, .iconst 1, 1), (13, .invokevirtual 30, 3), (16, .iload_n 3, 1), (17, .if_icmp .ne 7, 3), (20, .iconst 1, 1), (21, .goto 4, 3), (24, .iconst 0, 1), (25, .ireturn, 1)] : List (Nat × Instr × Nat)).all (fun q => decide (decode cX10_isOf q.1 = .ok (q.2.1, q.2.2))) = true := by decide +kernel
theorem dX10_isOf_0 : decode cX10_isOf 0 = .ok (.aload_n 0, 1) := all_at dvX10_isOf_0 0 rfl
theorem dX10_isOf_1 : decode cX10_isOf 1 = .ok (.iload_n 1, 1) := all_at dvX10_isOf_0 1 rfl
theorem dX10_isOf_2 : decode cX10_isOf 2 = .ok (.iconst 0, 1) := all_at dvX10_isOf_0 2 rfl
theorem dX10_isOf_3 : decode cX10_isOf 3 = .ok (.invokevirtual 30, 3) := all_at dvX10_isOf_0 3 rfl
theorem dX10_isOf_6 : decode cX10_isOf 6 = .ok (.iload_n 2, 1) := all_at dvX10_isOf_0 4 rfl
theorem dX10_isOf_7 : decode cX10_isOf 7 = .ok (.if_icmp .ne 17, 3) := all_at dvX10_isOf_0 5 rfl
theorem dX10_isOf_10 : decode cX10_isOf 10 = .ok (.aload_n 0, 1) := all_at dvX10_isOf_0 6 rfl
theorem dX10_isOf_11 : decode cX10_isOf 11 = .ok (.iload_n 1, 1) := all_at dvX10_isOf_0 7 rfl
theorem dX10_isOf_12 : decode cX10_isOf 12 = .ok (.iconst 1, 1) := all_at dvX10_isOf_0 8 rfl
theorem dX10_isOf_13 : decode cX10_isOf 13 = .ok (.invokevirtual 30, 3) := all_at dvX10_isOf_0 9 rfl
theorem dX10_isOf_16 : decode cX10_isOf 16 = .ok (.iload_n 3, 1) := all_at dvX10_isOf_0 10 rfl
theorem dX10_isOf_17 : decode cX10_isOf 17 = .ok (.if_icmp .ne 7, 3) := all_at dvX10_isOf_0 11 rfl
theorem dX10_isOf_20 : decode cX10_isOf 20 = .ok (.iconst 1, 1) := all_at dvX10_isOf_0 12 rfl
theorem dX10_isOf_21 : decode cX10_isOf 21 = .ok (.goto 4, 3) := all_at dvX10_isOf_0 13 rfl
theorem dX10_isOf_24 : decode cX10_isOf 24 = .ok (.iconst 0, 1) := all_at dvX10_isOf_0 14 rfl
theorem dX10_isOf_25 : decode cX10_isOf 25 = .ok (.ireturn, 1) := all_at dvX10_isOf_0 15 rfl
set_option maxRecDepth 100000 in
theorem dvX10_set_0 : ([(0, .aload_n 0, 1), (1, .getfield 11, 3), (4, .iload_n 1, 1), (5, .bipush 9, 2), (7, .imul, 1), (8, .iload_n 2, 1), (9, .iadd, 1), (10, .iload_n 3, 1), (11, .iastore, 1), (12, .return_, 1)] : List (Nat × Instr × Nat)).all (fun q => decide (decode cX10_set q.1 = .ok (q.2.1, q.2.2))) = true := by decide +kernel
theorem dX10_set_0 : decode cX10_set 0 = .ok (.aload_n 0, 1) := all_at dvX10_set_0 0 rfl
theorem dX10_set_1 : decode cX10_set 1 = .ok (.getfield 11, 3) := all_at dvX10_set_0 1 rfl
theorem dX10_set_4 : decode cX10_set 4 = .ok (.iload_n 1, 1) := all_at dvX10_set_0 2 rfl
theorem dX10_set_5 : decode cX10_set 5 = .ok (.bipush 9, 2) := all_at dvX10_set_0 3 rfl
theorem dX10_set_7 : decode cX10_set 7 = .ok (.imul, 1) := all_at dvX10_set_0 4 rfl
theorem dX10_set_8 : decode cX10_set 8 = .ok (.iload_n 2, 1) := all_at dvX10_set_0 5 rfl
theorem dX10_set_9 : decode cX10_set 9 = .ok (.iadd, 1) := all_at dvX10_set_0 6 rfl
theorem dX10_set_10 : decode cX10_set 10 = .ok (.iload_n 3, 1) := all_at dvX10_set_0 7 rfl
theorem dX10_set_11 : decode cX10_set 11 = .ok (.iastore, 1) := all_at dvX10_set_0 8 rfl
theorem dX10_set_12 : decode cX10_set 12 = .ok (.return_, 1) := all_at dvX10_set_0 9 rfl
set_option maxRecDepth 100000 in
theorem dvX10_weigh_0 : ([(0, .aload_n 0, 1), (1, .iload_n 1, 1), (2, .iconst 2, 1), (3, .iload_n 2, 1), (4, .invokevirtual 26, 3), (7, .aload_n 0, 1), (8, .iload_n 1, 1), (9, .iconst 3, 1), (10, .iload_n 3, 1), (11, .invokevirtual 26, 3), (14, .aload_n 0, 1), (15, .iload_n 1, 1), (16, .iconst 4, 1), (17, .iload 4, 2), (19, .invokevirtual 26, 3), (22, .return_, 1)] : List (Nat × Instr × Nat)).all (fun q => decide (decode cX10_weigh q.1 = .ok (q.2.1, q.2.2))) = true := by decide +kernel
theorem dX10_weigh_0 : decode cX10_weigh 0 = .ok (.aload_n 0, 1) := all_at dvX10_weigh_0 0 rfl
theorem dX10_weigh_1 : decode cX10_weigh 1 = .ok (.iload_n 1, 1) := all_at dvX10_weigh_0 1 rfl
theorem dX10_weigh_2 : decode cX10_weigh 2 = .ok (.iconst 2, 1) := all_at dvX10_weigh_0 2 rfl
theorem dX10_weigh_3 : decode cX10_weigh 3 = .ok (.iload_n 2, 1) := all_at dvX10_weigh_0 3 rfl
theorem dX10_weigh_4 : decode cX10_weigh 4 = .ok (.invokevirtual 26, 3) := all_at dvX10_weigh_0 4 rfl
theorem dX10_weigh_7 : decode cX10_weigh 7 = .ok (.aload_n 0, 1) := all_at dvX10_weigh_0 5 rfl
theorem dX10_weigh_8 : decode cX10_weigh 8 = .ok (.iload_n 1, 1) := all_at dvX10_weigh_0 6 rfl
theorem dX10_weigh_9 : decode cX10_weigh 9 = .ok (.iconst 3, 1) := all_at dvX10_weigh_0 7 rfl
theorem dX10_weigh_10 : decode cX10_weigh 10 = .ok (.iload_n 3, 1) := all_at dvX10_weigh_0 8 rfl
theorem dX10_weigh_11 : decode cX10_weigh 11 = .ok (.invokevirtual 26, 3) := all_at dvX10_weigh_0 9 rfl
theorem dX10_weigh_14 : decode cX10_weigh 14 = .ok (.aload_n 0, 1) := all_at dvX10_weigh_0 10 rfl
theorem dX10_weigh_15 : decode cX10_weigh 15 = .ok (.iload_n 1, 1) := all_at dvX10_weigh_0 11 rfl
theorem dX10_weigh_16 : decode cX10_weigh 16 = .ok (.iconst 4, 1) := all_at dvX10_weigh_0 12 rfl
theorem dX10_weigh_17 : decode cX10_weigh 17 = .ok (.iload 4, 2) := all_at dvX10_weigh_0 13 rfl
theorem dX10_weigh_19 : decode cX10_weigh 19 = .ok (.invokevirtual 26, 3) := all_at dvX10_weigh_0 14 rfl
theorem dX10_weigh_22 : decode cX10_weigh 22 = .ok (.return_, 1) := all_at dvX10_weigh_0 15 rfl
set_option maxHeartbeats 4000000 in
set_option maxRecDepth 100000 in
/-- X10_has -/
theorem c_X10_has (l : Launch) (dC : Nat → ClassId) (dI : Nat → Nat → Nat) (h : Nat) (g : Nat → Nat → Nat) (ca : Nat → Nat → ClassId) (iv : Nat → Nat → Int32) (lv : Nat → Nat → Int64) (fa : Nat → Nat → Nat → Int32) (la : Nat → Nat → Nat → Int64) (hI : IX iv fa) (b : Int32) : Met l yX10_has (wc yX10_has cX10_has 2 (some .boolean)) ({ frames := 0, cells := 0, slots := 0, locals := 0 } : Room) (pR (dC, dI) classes (WX h g ca iv lv fa la) (TX ca) [.ref (g 11 0), .int b]) (vp_Si (fun r => (r = 1 ∧ (0 ≤ b.toInt ∧ b.toInt < (iv 10 1).toInt)) ∨ (r = 0 ∧ ¬ (0 ≤ b.toInt ∧ b.toInt < (iv 10 1).toInt)))) 0 0 (fun _ => False) := by
  refine Met.ofW (cc := cX10_has) (maxL := 2) (ret := (some .boolean)) (by decide) rfl ?_
  intro p e s m args below meth c s₁ B hml hv
  obtain ⟨rfl, hP, hK⟩ := hv
  have hx := B.exec
  have hb := B.bytes
  have hr := B.returns
  have ht := tb_tl (atoms_spec (ws := wc yX10_has cX10_has 2 (some .boolean)) B.pre)
  have hown : s.vm.findClass RX10 = some m.cls := findClass_of_methodNamed B.named
  have hlocks := B.notSynchronized
  have hl := lv_entry [.ref (g 11 0), .int b] (n := 2) (Nat.le_of_ble_eq_true rfl)
  rw [lg_entry_eq]
  generalize (lg_sl [.ref (g 11 0), .int b] ++ List.replicate (2 - (lg_sl [.ref (g 11 0), .int b]).length) Slot.unset).toArray = ls at hl ⊢
  have hl : lv_has ls 2 [(0, .ref (g 11 0)), (1, .int b)] := hl
  refine lv_iload_n hx hb dX10_has_0 rfl (lv_at hl 1 rfl) ?_
  refine lv_if_lt (tgt := 16) hx hb dX10_has_1 (by decide) (fun c1 => ?_) (fun c1 => ?_)
  · have fc1 := z_lt (rfl : (b).toInt = _) (by decide : (0 : Int32).toInt = 0) c1
    refine lv_iconst (v := 0) hx hb dX10_has_16 (by decide) ?_
    exact W.zret (v := 0) hx hb hr rfl (fun t ht9 hW => ⟨0, rfl, Or.inr ⟨rfl, by omega⟩, ht9⟩) (fun q hq => by cases hq) dX10_has_17
  · have fc1 := z_nlt (rfl : (b).toInt = _) (by decide : (0 : Int32).toInt = 0) c1
    refine lv_iload_n hx hb dX10_has_4 rfl (lv_at hl 1 rfl) ?_
    refine lv_aload_n hx hb dX10_has_5 rfl (lv_at hl 0 rfl) ?_
    have i_10_1 : 0 ≤ (iv 10 1).toInt ∧ (iv 10 1).toInt ≤ 60 := hI.1 10 1
    refine gX_10_1 hx hb ht hown hK hP m_112 (v := (iv 10 1)) rfl dX10_has_6 ?_
    refine lv_icmp_ge (tgt := 16) hx hb dX10_has_9 (by decide) (fun c2 => ?_) (fun c2 => ?_)
    · have fc2 := z_le (rfl : ((iv 10 1)).toInt = _) (rfl : (b).toInt = _) c2
      refine lv_iconst (v := 0) hx hb dX10_has_16 (by decide) ?_
      exact W.zret (v := 0) hx hb hr rfl (fun t ht9 hW => ⟨0, rfl, Or.inr ⟨rfl, by omega⟩, ht9⟩) (fun q hq => by cases hq) dX10_has_17
    · have fc2 := z_nle (rfl : ((iv 10 1)).toInt = _) (rfl : (b).toInt = _) c2
      refine lv_iconst (v := 1) hx hb dX10_has_12 (by decide) ?_
      refine lv_goto (tgt := 17) hx hb dX10_has_13 (by decide) ?_
      exact W.zret (v := 1) hx hb hr rfl (fun t ht9 hW => ⟨1, rfl, Or.inl ⟨rfl, by omega⟩, ht9⟩) (fun q hq => by cases hq) dX10_has_17
set_option maxHeartbeats 4000000 in
set_option maxRecDepth 100000 in
/-- X10_get -/
theorem c_X10_get_look (l : Launch) (dC : Nat → ClassId) (dI : Nat → Nat → Nat) (h : Nat) (g : Nat → Nat → Nat) (ca : Nat → Nat → ClassId) (iv : Nat → Nat → Int32) (lv : Nat → Nat → Int64) (fa : Nat → Nat → Nat → Int32) (la : Nat → Nat → Nat → Int64) (hI : IX iv fa) (a : Int32) (h_a : 0 ≤ a.toInt ∧ a.toInt ≤ 59) : Met l yX10_get (wc yX10_get cX10_get 3 (some .int)) ({ frames := 0, cells := 0, slots := 0, locals := 0 } : Room) (pR (dC, dI) classes (WX h g ca iv lv fa la) (TX ca) [.ref (g 11 0), .int a, .int 1]) (vp_Si (fun r => 0 ≤ r.toInt ∧ r.toInt ≤ 2)) 0 0 (fun _ => False) := by
  refine Met.ofW (cc := cX10_get) (maxL := 3) (ret := (some .int)) (by decide) rfl ?_
  intro p e s m args below meth c s₁ B hml hv
  obtain ⟨rfl, hP, hK⟩ := hv
  have hx := B.exec
  have hb := B.bytes
  have hr := B.returns
  have ht := tb_tl (atoms_spec (ws := wc yX10_get cX10_get 3 (some .int)) B.pre)
  have hown : s.vm.findClass RX10 = some m.cls := findClass_of_methodNamed B.named
  have hlocks := B.notSynchronized
  have hl := lv_entry [.ref (g 11 0), .int a, .int 1] (n := 3) (Nat.le_of_ble_eq_true rfl)
  rw [lg_entry_eq]
  generalize (lg_sl [.ref (g 11 0), .int a, .int 1] ++ List.replicate (3 - (lg_sl [.ref (g 11 0), .int a, .int 1]).length) Slot.unset).toArray = ls at hl ⊢
  have hl : lv_has ls 3 [(0, .ref (g 11 0)), (1, .int a), (2, .int 1)] := hl
  refine lv_aload_n hx hb dX10_get_0 rfl (lv_at hl 0 rfl) ?_
  refine gX_10_0 hx hb ht hown hK hP m_111 dX10_get_1 ?_
  refine lv_iload_n hx hb dX10_get_4 rfl (lv_at hl 1 rfl) ?_
  refine lv_bipush (v := 9) hx hb dX10_get_5 (by decide) ?_
  refine lv_imul hx hb dX10_get_7 ?_
  refine lv_topi (fun v1 ev1 => ?_)
  have tv1 := z_mul ev1 (rfl : (a).toInt = _) (by decide : (9 : Int32).toInt = 9) (by omega) (by omega)
  refine lv_iload_n hx hb dX10_get_8 rfl (lv_at hl 2 rfl) ?_
  refine lv_iadd hx hb dX10_get_9 ?_
  refine lv_topi (fun v2 ev2 => ?_)
  have tv2 := z_add ev2 (rfl : (v1).toInt = _) (by decide : (1 : Int32).toInt = 1) (by omega) (by omega)
  refine lX_10_0 hx hb hK hP (f := (fa 10 0)) rfl (vp_in_iff.mpr ⟨by omega, by omega⟩) dX10_get_10 ?_
  refine lv_topi (fun v3 ev3 => ?_)
  have tv3 : 0 ≤ v3.toInt ∧ v3.toInt ≤ 2 := by rw [ev3]; exact row_r (hI.2 10 0 _) (row_i (a := a.toInt) (c := 1) (by omega) (by omega) (by omega))
  exact W.iret (v := v3) hx hb hr (fun t ht9 hW => ⟨v3, rfl, ⟨by omega, by omega⟩, ht9⟩) (fun q hq => by cases hq) dX10_get_11
set_option maxHeartbeats 4000000 in
set_option maxRecDepth 100000 in
/-- X10_get -/
theorem c_X10_get (l : Launch) (dC : Nat → ClassId) (dI : Nat → Nat → Nat) (h : Nat) (g : Nat → Nat → Nat) (ca : Nat → Nat → ClassId) (iv : Nat → Nat → Int32) (lv : Nat → Nat → Int64) (fa : Nat → Nat → Nat → Int32) (la : Nat → Nat → Nat → Int64) (hI : IX iv fa) (a : Int32) (b : Int32) (h_a : 0 ≤ a.toInt ∧ a.toInt ≤ 59) (h_b : 0 ≤ b.toInt ∧ b.toInt ≤ 8) : Met l yX10_get (wc yX10_get cX10_get 3 (some .int)) ({ frames := 0, cells := 0, slots := 0, locals := 0 } : Room) (pR (dC, dI) classes (WX h g ca iv lv fa la) (TX ca) [.ref (g 11 0), .int a, .int b]) (vp_Si (fun r => True)) 0 0 (fun _ => False) := by
  refine Met.ofW (cc := cX10_get) (maxL := 3) (ret := (some .int)) (by decide) rfl ?_
  intro p e s m args below meth c s₁ B hml hv
  obtain ⟨rfl, hP, hK⟩ := hv
  have hx := B.exec
  have hb := B.bytes
  have hr := B.returns
  have ht := tb_tl (atoms_spec (ws := wc yX10_get cX10_get 3 (some .int)) B.pre)
  have hown : s.vm.findClass RX10 = some m.cls := findClass_of_methodNamed B.named
  have hlocks := B.notSynchronized
  have hl := lv_entry [.ref (g 11 0), .int a, .int b] (n := 3) (Nat.le_of_ble_eq_true rfl)
  rw [lg_entry_eq]
  generalize (lg_sl [.ref (g 11 0), .int a, .int b] ++ List.replicate (3 - (lg_sl [.ref (g 11 0), .int a, .int b]).length) Slot.unset).toArray = ls at hl ⊢
  have hl : lv_has ls 3 [(0, .ref (g 11 0)), (1, .int a), (2, .int b)] := hl
  refine lv_aload_n hx hb dX10_get_0 rfl (lv_at hl 0 rfl) ?_
  refine gX_10_0 hx hb ht hown hK hP m_111 dX10_get_1 ?_
  refine lv_iload_n hx hb dX10_get_4 rfl (lv_at hl 1 rfl) ?_
  refine lv_bipush (v := 9) hx hb dX10_get_5 (by decide) ?_
  refine lv_imul hx hb dX10_get_7 ?_
  refine lv_topi (fun v1 ev1 => ?_)
  have tv1 := z_mul ev1 (rfl : (a).toInt = _) (by decide : (9 : Int32).toInt = 9) (by omega) (by omega)
  refine lv_iload_n hx hb dX10_get_8 rfl (lv_at hl 2 rfl) ?_
  refine lv_iadd hx hb dX10_get_9 ?_
  refine lv_topi (fun v2 ev2 => ?_)
  have tv2 := z_add ev2 (rfl : (v1).toInt = _) (rfl : (b).toInt = _) (by omega) (by omega)
  refine lX_10_0 hx hb hK hP (f := (fa 10 0)) rfl (vp_in_iff.mpr ⟨by omega, by omega⟩) dX10_get_10 ?_
  refine lv_topi (fun v3 ev3 => ?_)
  exact W.iret (v := v3) hx hb hr (fun t ht9 hW => ⟨v3, rfl, trivial, ht9⟩) (fun q hq => by cases hq) dX10_get_11
set_option maxHeartbeats 4000000 in
set_option maxRecDepth 100000 in
/-- X10_set -/
theorem c_X10_set_look (l : Launch) (dC : Nat → ClassId) (dI : Nat → Nat → Nat) (sz : Nat) (h : Nat) (g : Nat → Nat → Nat) (ca : Nat → Nat → ClassId) (iv : Nat → Nat → Int32) (lv : Nat → Nat → Int64) (fa : Nat → Nat → Nat → Int32) (la : Nat → Nat → Nat → Int64) (hI : IX iv fa) (a : Int32) (d : Int32) (h_a : 0 ≤ a.toInt ∧ a.toInt ≤ 59) (h_d : 0 ≤ d.toInt ∧ d.toInt ≤ 2) : Met l yX10_set (wc yX10_set cX10_set 4 none) ({ frames := 0, cells := 0, slots := 0, locals := 0 } : Room) (pW (dC, dI) classes (WX h g ca iv lv fa la) (TX ca) sz [.ref (g 11 0), .int a, .int 1, .int d]) (va_Qv (fun (u : SS) => ∃ (na_10_0 : Nat → Int32), (∀ j, inb (bA 10 0 j) (na_10_0 j)) ∧ u = (iv, lv, (u2 fa 10 0 na_10_0), la)) (bX (dC, dI) h g ca (va_A (WX h g ca iv lv fa la) sz)) (va_A (WX h g ca iv lv fa la) sz)) 0 0 (va_A (WX h g ca iv lv fa la) sz) := by
  refine Met.ofW (cc := cX10_set) (maxL := 4) (ret := none) (by decide) rfl ?_
  intro p e s m args below meth c s₁ B hml hv
  obtain ⟨rfl, hsz, hP, hK, hD0⟩ := hv
  have hx := B.exec
  have hb := B.bytes
  have hr := B.returns
  have ht := tb_tl (atoms_spec (ws := wc yX10_set cX10_set 4 none) B.pre)
  have hown : s.vm.findClass RX10 = some m.cls := findClass_of_methodNamed B.named
  have hlocks := B.notSynchronized
  subst hsz
  have hD := hD0.self (sz := s.heap.size)
  generalize hAe : va_A (WX h g ca iv lv fa la) s.heap.size = A at hD ⊢
  have hA : ∀ q : Nat, s.heap.size ≤ q → A q := fun q h => by rw [← hAe]; exact Or.inr h
  have hS : va_S A s.heap s.heap [] := va_S.rf
  have hl := lv_entry [.ref (g 11 0), .int a, .int 1, .int d] (n := 4) (Nat.le_of_ble_eq_true rfl)
  rw [lg_entry_eq]
  generalize (lg_sl [.ref (g 11 0), .int a, .int 1, .int d] ++ List.replicate (4 - (lg_sl [.ref (g 11 0), .int a, .int 1, .int d]).length) Slot.unset).toArray = ls at hl ⊢
  have hl : lv_has ls 4 [(0, .ref (g 11 0)), (1, .int a), (2, .int 1), (3, .int d)] := hl
  refine lv_aload_n hx hb dX10_set_0 rfl (lv_at hl 0 rfl) ?_
  refine gX_10_0 hx hb ht hown hK hP m_111 dX10_set_1 ?_
  refine lv_iload_n hx hb dX10_set_4 rfl (lv_at hl 1 rfl) ?_
  refine lv_bipush (v := 9) hx hb dX10_set_5 (by decide) ?_
  refine lv_imul hx hb dX10_set_7 ?_
  refine lv_topi (fun v1 ev1 => ?_)
  have tv1 := z_mul ev1 (rfl : (a).toInt = _) (by decide : (9 : Int32).toInt = 9) (by omega) (by omega)
  refine lv_iload_n hx hb dX10_set_8 rfl (lv_at hl 2 rfl) ?_
  refine lv_iadd hx hb dX10_set_9 ?_
  refine lv_topi (fun v2 ev2 => ?_)
  have tv2 := z_add ev2 (rfl : (v1).toInt = _) (by decide : (1 : Int32).toInt = 1) (by omega) (by omega)
  refine lv_iload_n hx hb dX10_set_10 rfl (lv_at hl 3 rfl) ?_
  refine tX_10_0 hx hb hK hP hD hS (f0 := (fa 10 0)) rfl (i := v2) (x := d) (vp_in_iff.mpr ⟨by omega, by omega⟩) dX10_set_11 (fun f3 ef3 H locs hP hD hS => ?_)
  have hf3 : ∀ j, inb (bA 10 0 j) (f3 j) := by rw [ef3]; exact upd_b (b := bA 10 0) (hI.2 10 0) (row_l ⟨by omega, by omega⟩)
  have hP9 : va_P (dC, dI) classes (WX h g ca iv lv (u2 fa 10 0 f3) la) H := hP
  have hD9 : va_D A (WX h g ca iv lv (u2 fa 10 0 f3) la) := hD
  exact W.vret hx hb hr (fun t ht9 hW => ⟨⟨(iv, lv, (u2 fa 10 0 f3), la), rfl, ⟨f3, hf3, rfl⟩, by rw [ht9]; exact hP9, hD9⟩, hS.F ht9⟩) hS.2.2 dX10_set_12
set_option maxHeartbeats 4000000 in
set_option maxRecDepth 100000 in
/-- X10_set -/
theorem c_X10_set_0 (l : Launch) (dC : Nat → ClassId) (dI : Nat → Nat → Nat) (sz : Nat) (h : Nat) (g : Nat → Nat → Nat) (ca : Nat → Nat → ClassId) (iv : Nat → Nat → Int32) (lv : Nat → Nat → Int64) (fa : Nat → Nat → Nat → Int32) (la : Nat → Nat → Nat → Int64) (hI : IX iv fa) (a : Int32) (d : Int32) (h_a : 0 ≤ a.toInt ∧ a.toInt ≤ 59) : Met l yX10_set (wc yX10_set cX10_set 4 none) ({ frames := 0, cells := 0, slots := 0, locals := 0 } : Room) (pW (dC, dI) classes (WX h g ca iv lv fa la) (TX ca) sz [.ref (g 11 0), .int a, .int 0, .int d]) (va_Qv (fun (u : SS) => ∃ (na_10_0 : Nat → Int32), (∀ j, inb (bA 10 0 j) (na_10_0 j)) ∧ u = (iv, lv, (u2 fa 10 0 na_10_0), la)) (bX (dC, dI) h g ca (va_A (WX h g ca iv lv fa la) sz)) (va_A (WX h g ca iv lv fa la) sz)) 0 0 (va_A (WX h g ca iv lv fa la) sz) := by
  refine Met.ofW (cc := cX10_set) (maxL := 4) (ret := none) (by decide) rfl ?_
  intro p e s m args below meth c s₁ B hml hv
  obtain ⟨rfl, hsz, hP, hK, hD0⟩ := hv
  have hx := B.exec
  have hb := B.bytes
  have hr := B.returns
  have ht := tb_tl (atoms_spec (ws := wc yX10_set cX10_set 4 none) B.pre)
  have hown : s.vm.findClass RX10 = some m.cls := findClass_of_methodNamed B.named
  have hlocks := B.notSynchronized
  subst hsz
  have hD := hD0.self (sz := s.heap.size)
  generalize hAe : va_A (WX h g ca iv lv fa la) s.heap.size = A at hD ⊢
  have hA : ∀ q : Nat, s.heap.size ≤ q → A q := fun q h => by rw [← hAe]; exact Or.inr h
  have hS : va_S A s.heap s.heap [] := va_S.rf
  have hl := lv_entry [.ref (g 11 0), .int a, .int 0, .int d] (n := 4) (Nat.le_of_ble_eq_true rfl)
  rw [lg_entry_eq]
  generalize (lg_sl [.ref (g 11 0), .int a, .int 0, .int d] ++ List.replicate (4 - (lg_sl [.ref (g 11 0), .int a, .int 0, .int d]).length) Slot.unset).toArray = ls at hl ⊢
  have hl : lv_has ls 4 [(0, .ref (g 11 0)), (1, .int a), (2, .int 0), (3, .int d)] := hl
  refine lv_aload_n hx hb dX10_set_0 rfl (lv_at hl 0 rfl) ?_
  refine gX_10_0 hx hb ht hown hK hP m_111 dX10_set_1 ?_
  refine lv_iload_n hx hb dX10_set_4 rfl (lv_at hl 1 rfl) ?_
  refine lv_bipush (v := 9) hx hb dX10_set_5 (by decide) ?_
  refine lv_imul hx hb dX10_set_7 ?_
  refine lv_topi (fun v1 ev1 => ?_)
  have tv1 := z_mul ev1 (rfl : (a).toInt = _) (by decide : (9 : Int32).toInt = 9) (by omega) (by omega)
  refine lv_iload_n hx hb dX10_set_8 rfl (lv_at hl 2 rfl) ?_
  refine lv_iadd hx hb dX10_set_9 ?_
  refine lv_topi (fun v2 ev2 => ?_)
  have tv2 := z_add ev2 (rfl : (v1).toInt = _) (by decide : (0 : Int32).toInt = 0) (by omega) (by omega)
  refine lv_iload_n hx hb dX10_set_10 rfl (lv_at hl 3 rfl) ?_
  refine tX_10_0 hx hb hK hP hD hS (f0 := (fa 10 0)) rfl (i := v2) (x := d) (vp_in_iff.mpr ⟨by omega, by omega⟩) dX10_set_11 (fun f3 ef3 H locs hP hD hS => ?_)
  have hf3 : ∀ j, inb (bA 10 0 j) (f3 j) := by rw [ef3]; exact upd_b (b := bA 10 0) (hI.2 10 0) (row_n (by rw [row_i (a := a.toInt) (c := 0) (by omega) (by omega) (by omega)]; omega))
  have hP9 : va_P (dC, dI) classes (WX h g ca iv lv (u2 fa 10 0 f3) la) H := hP
  have hD9 : va_D A (WX h g ca iv lv (u2 fa 10 0 f3) la) := hD
  exact W.vret hx hb hr (fun t ht9 hW => ⟨⟨(iv, lv, (u2 fa 10 0 f3), la), rfl, ⟨f3, hf3, rfl⟩, by rw [ht9]; exact hP9, hD9⟩, hS.F ht9⟩) hS.2.2 dX10_set_12
set_option maxHeartbeats 4000000 in
set_option maxRecDepth 100000 in
/-- X10_set -/
theorem c_X10_set (l : Launch) (dC : Nat → ClassId) (dI : Nat → Nat → Nat) (sz : Nat) (h : Nat) (g : Nat → Nat → Nat) (ca : Nat → Nat → ClassId) (iv : Nat → Nat → Int32) (lv : Nat → Nat → Int64) (fa : Nat → Nat → Nat → Int32) (la : Nat → Nat → Nat → Int64) (hI : IX iv fa) (a : Int32) (b : Int32) (d : Int32) (h_a : 0 ≤ a.toInt ∧ a.toInt ≤ 59) (h_b : 2 ≤ b.toInt ∧ b.toInt ≤ 8) : Met l yX10_set (wc yX10_set cX10_set 4 none) ({ frames := 0, cells := 0, slots := 0, locals := 0 } : Room) (pW (dC, dI) classes (WX h g ca iv lv fa la) (TX ca) sz [.ref (g 11 0), .int a, .int b, .int d]) (va_Qv (fun (u : SS) => ∃ (na_10_0 : Nat → Int32), (∀ j, inb (bA 10 0 j) (na_10_0 j)) ∧ u = (iv, lv, (u2 fa 10 0 na_10_0), la)) (bX (dC, dI) h g ca (va_A (WX h g ca iv lv fa la) sz)) (va_A (WX h g ca iv lv fa la) sz)) 0 0 (va_A (WX h g ca iv lv fa la) sz) := by
  refine Met.ofW (cc := cX10_set) (maxL := 4) (ret := none) (by decide) rfl ?_
  intro p e s m args below meth c s₁ B hml hv
  obtain ⟨rfl, hsz, hP, hK, hD0⟩ := hv
  have hx := B.exec
  have hb := B.bytes
  have hr := B.returns
  have ht := tb_tl (atoms_spec (ws := wc yX10_set cX10_set 4 none) B.pre)
  have hown : s.vm.findClass RX10 = some m.cls := findClass_of_methodNamed B.named
  have hlocks := B.notSynchronized
  subst hsz
  have hD := hD0.self (sz := s.heap.size)
  generalize hAe : va_A (WX h g ca iv lv fa la) s.heap.size = A at hD ⊢
  have hA : ∀ q : Nat, s.heap.size ≤ q → A q := fun q h => by rw [← hAe]; exact Or.inr h
  have hS : va_S A s.heap s.heap [] := va_S.rf
  have hl := lv_entry [.ref (g 11 0), .int a, .int b, .int d] (n := 4) (Nat.le_of_ble_eq_true rfl)
  rw [lg_entry_eq]
  generalize (lg_sl [.ref (g 11 0), .int a, .int b, .int d] ++ List.replicate (4 - (lg_sl [.ref (g 11 0), .int a, .int b, .int d]).length) Slot.unset).toArray = ls at hl ⊢
  have hl : lv_has ls 4 [(0, .ref (g 11 0)), (1, .int a), (2, .int b), (3, .int d)] := hl
  refine lv_aload_n hx hb dX10_set_0 rfl (lv_at hl 0 rfl) ?_
  refine gX_10_0 hx hb ht hown hK hP m_111 dX10_set_1 ?_
  refine lv_iload_n hx hb dX10_set_4 rfl (lv_at hl 1 rfl) ?_
  refine lv_bipush (v := 9) hx hb dX10_set_5 (by decide) ?_
  refine lv_imul hx hb dX10_set_7 ?_
  refine lv_topi (fun v1 ev1 => ?_)
  have tv1 := z_mul ev1 (rfl : (a).toInt = _) (by decide : (9 : Int32).toInt = 9) (by omega) (by omega)
  refine lv_iload_n hx hb dX10_set_8 rfl (lv_at hl 2 rfl) ?_
  refine lv_iadd hx hb dX10_set_9 ?_
  refine lv_topi (fun v2 ev2 => ?_)
  have tv2 := z_add ev2 (rfl : (v1).toInt = _) (rfl : (b).toInt = _) (by omega) (by omega)
  refine lv_iload_n hx hb dX10_set_10 rfl (lv_at hl 3 rfl) ?_
  refine tX_10_0 hx hb hK hP hD hS (f0 := (fa 10 0)) rfl (i := v2) (x := d) (vp_in_iff.mpr ⟨by omega, by omega⟩) dX10_set_11 (fun f3 ef3 H locs hP hD hS => ?_)
  have hf3 : ∀ j, inb (bA 10 0 j) (f3 j) := by rw [ef3]; exact upd_b (b := bA 10 0) (hI.2 10 0) (row_n (by rw [row_i (a := a.toInt) (c := b.toInt) (by omega) (by omega) (by omega)]; omega))
  have hP9 : va_P (dC, dI) classes (WX h g ca iv lv (u2 fa 10 0 f3) la) H := hP
  have hD9 : va_D A (WX h g ca iv lv (u2 fa 10 0 f3) la) := hD
  exact W.vret hx hb hr (fun t ht9 hW => ⟨⟨(iv, lv, (u2 fa 10 0 f3), la), rfl, ⟨f3, hf3, rfl⟩, by rw [ht9]; exact hP9, hD9⟩, hS.F ht9⟩) hS.2.2 dX10_set_12
set_option maxHeartbeats 4000000 in
set_option maxRecDepth 100000 in
/-- X10_isOf -/
theorem c_X10_isOf (l : Launch) (dC : Nat → ClassId) (dI : Nat → Nat → Nat) (h : Nat) (g : Nat → Nat → Nat) (ca : Nat → Nat → ClassId) (iv : Nat → Nat → Int32) (lv : Nat → Nat → Int64) (fa : Nat → Nat → Nat → Int32) (la : Nat → Nat → Nat → Int64) (hI : IX iv fa) (a : Int32) (b : Int32) (d : Int32) (h_a : 0 ≤ a.toInt ∧ a.toInt ≤ 59) : Met l yX10_isOf (wc yX10_isOf cX10_isOf 4 (some .boolean)) ({ frames := 1, cells := 0, slots := 0, locals := 22 } : Room) (pR (dC, dI) classes (WX h g ca iv lv fa la) (TX ca) [.ref (g 11 0), .int a, .int b, .int d]) (vp_Si (fun r => 0 ≤ r.toInt ∧ r.toInt ≤ 1)) 0 0 (fun _ => False) := by
  refine Met.ofW (cc := cX10_isOf) (maxL := 4) (ret := (some .boolean)) (by decide) rfl ?_
  intro p e s m args below meth c s₁ B hml hv
  obtain ⟨rfl, hP, hK⟩ := hv
  have hx := B.exec
  have hb := B.bytes
  have hr := B.returns
  have ht := tb_tl (atoms_spec (ws := wc yX10_isOf cX10_isOf 4 (some .boolean)) B.pre)
  have hown : s.vm.findClass RX10 = some m.cls := findClass_of_methodNamed B.named
  have hlocks := B.notSynchronized
  have hl := lv_entry [.ref (g 11 0), .int a, .int b, .int d] (n := 4) (Nat.le_of_ble_eq_true rfl)
  rw [lg_entry_eq]
  generalize (lg_sl [.ref (g 11 0), .int a, .int b, .int d] ++ List.replicate (4 - (lg_sl [.ref (g 11 0), .int a, .int b, .int d]).length) Slot.unset).toArray = ls at hl ⊢
  have hl : lv_has ls 4 [(0, .ref (g 11 0)), (1, .int a), (2, .int b), (3, .int d)] := hl
  refine lv_aload_n hx hb dX10_isOf_0 rfl (lv_at hl 0 rfl) ?_
  refine lv_iload_n hx hb dX10_isOf_1 rfl (lv_at hl 1 rfl) ?_
  refine lv_iconst (v := 0) hx hb dX10_isOf_2 (by decide) ?_
  refine vp_callSi (W.runV (As := [.int a, .int 0]) (rest := []) ⟨hx, hb, hml, hown, ht⟩ (c_X10_get l dC dI h g ca iv lv fa la hI a 0 ⟨by omega, by omega⟩ ⟨by decide, by decide⟩) (kV 2 ht m_485 m_486 m_487 m_78 m_488 rfl rfl hd_X10_get_v ⟨Nat.le_of_ble_eq_true rfl, Nat.le_of_ble_eq_true rfl⟩) (vR hP hK (rX_10 hK hP)) rfl rfl hl.1 rfl (lv_room (Nat.le_of_ble_eq_true rfl)) dX10_isOf_3 ⟨Nat.le_of_ble_eq_true rfl, Nat.le_of_ble_eq_true rfl⟩) (fun r1 hr1 => ?_)
  refine lv_iload_n hx hb dX10_isOf_6 rfl (lv_at hl 2 rfl) ?_
  refine lv_icmp_ne (tgt := 24) hx hb dX10_isOf_7 (by decide) (fun c2 => ?_) (fun c2 => ?_)
  · have fc2 := z_ne (rfl : (r1).toInt = _) (rfl : (b).toInt = _) c2
    refine lv_iconst (v := 0) hx hb dX10_isOf_24 (by decide) ?_
    exact W.zret (v := 0) hx hb hr rfl (fun t ht9 hW => ⟨0, rfl, ⟨by decide, by decide⟩, ht9⟩) (fun q hq => by cases hq) dX10_isOf_25
  · have fc2 := z_eq (rfl : (r1).toInt = _) (rfl : (b).toInt = _) c2
    refine lv_aload_n hx hb dX10_isOf_10 rfl (lv_at hl 0 rfl) ?_
    refine lv_iload_n hx hb dX10_isOf_11 rfl (lv_at hl 1 rfl) ?_
    refine lv_iconst (v := 1) hx hb dX10_isOf_12 (by decide) ?_
    refine vp_callSi (W.runV (As := [.int a, .int 1]) (rest := []) ⟨hx, hb, hml, hown, ht⟩ (c_X10_get_look l dC dI h g ca iv lv fa la hI a ⟨by omega, by omega⟩) (kV 2 ht m_485 m_486 m_487 m_78 m_488 rfl rfl hd_X10_get_v ⟨Nat.le_of_ble_eq_true rfl, Nat.le_of_ble_eq_true rfl⟩) (vR hP hK (rX_10 hK hP)) rfl rfl hl.1 rfl (lv_room (Nat.le_of_ble_eq_true rfl)) dX10_isOf_13 ⟨Nat.le_of_ble_eq_true rfl, Nat.le_of_ble_eq_true rfl⟩) (fun r3 hr3 => ?_)
    refine lv_iload_n hx hb dX10_isOf_16 rfl (lv_at hl 3 rfl) ?_
    refine lv_icmp_ne (tgt := 24) hx hb dX10_isOf_17 (by decide) (fun c4 => ?_) (fun c4 => ?_)
    · have fc4 := z_ne (rfl : (r3).toInt = _) (rfl : (d).toInt = _) c4
      refine lv_iconst (v := 0) hx hb dX10_isOf_24 (by decide) ?_
      exact W.zret (v := 0) hx hb hr rfl (fun t ht9 hW => ⟨0, rfl, ⟨by decide, by decide⟩, ht9⟩) (fun q hq => by cases hq) dX10_isOf_25
    · have fc4 := z_eq (rfl : (r3).toInt = _) (rfl : (d).toInt = _) c4
      refine lv_iconst (v := 1) hx hb dX10_isOf_20 (by decide) ?_
      refine lv_goto (tgt := 25) hx hb dX10_isOf_21 (by decide) ?_
      exact W.zret (v := 1) hx hb hr rfl (fun t ht9 hW => ⟨1, rfl, ⟨by decide, by decide⟩, ht9⟩) (fun q hq => by cases hq) dX10_isOf_25
set_option maxHeartbeats 4000000 in
set_option maxRecDepth 100000 in
/-- X10_counts -/
theorem c_X10_counts (l : Launch) (dC : Nat → ClassId) (dI : Nat → Nat → Nat) (h : Nat) (g : Nat → Nat → Nat) (ca : Nat → Nat → ClassId) (iv : Nat → Nat → Int32) (lv : Nat → Nat → Int64) (fa : Nat → Nat → Nat → Int32) (la : Nat → Nat → Nat → Int64) (hI : IX iv fa) (a : Int32) (b : Int32) (h_a : 0 ≤ a.toInt ∧ a.toInt ≤ 59) : Met l yX10_counts (wc yX10_counts cX10_counts 3 (some .boolean)) ({ frames := 1, cells := 0, slots := 0, locals := 22 } : Room) (pR (dC, dI) classes (WX h g ca iv lv fa la) (TX ca) [.ref (g 11 0), .int a, .int b]) (vp_Si (fun r => 0 ≤ r.toInt ∧ r.toInt ≤ 1)) 0 0 (fun _ => False) := by
  refine Met.ofW (cc := cX10_counts) (maxL := 3) (ret := (some .boolean)) (by decide) rfl ?_
  intro p e s m args below meth c s₁ B hml hv
  obtain ⟨rfl, hP, hK⟩ := hv
  have hx := B.exec
  have hb := B.bytes
  have hr := B.returns
  have ht := tb_tl (atoms_spec (ws := wc yX10_counts cX10_counts 3 (some .boolean)) B.pre)
  have hown : s.vm.findClass RX10 = some m.cls := findClass_of_methodNamed B.named
  have hlocks := B.notSynchronized
  have hl := lv_entry [.ref (g 11 0), .int a, .int b] (n := 3) (Nat.le_of_ble_eq_true rfl)
  rw [lg_entry_eq]
  generalize (lg_sl [.ref (g 11 0), .int a, .int b] ++ List.replicate (3 - (lg_sl [.ref (g 11 0), .int a, .int b]).length) Slot.unset).toArray = ls at hl ⊢
  have hl : lv_has ls 3 [(0, .ref (g 11 0)), (1, .int a), (2, .int b)] := hl
  refine lv_aload_n hx hb dX10_counts_0 rfl (lv_at hl 0 rfl) ?_
  refine lv_iload_n hx hb dX10_counts_1 rfl (lv_at hl 1 rfl) ?_
  refine lv_bipush (v := 7) hx hb dX10_counts_2 (by decide) ?_
  refine vp_callSi (W.runV (As := [.int a, .int 7]) (rest := []) ⟨hx, hb, hml, hown, ht⟩ (c_X10_get l dC dI h g ca iv lv fa la hI a 7 ⟨by omega, by omega⟩ ⟨by decide, by decide⟩) (kV 2 ht m_485 m_486 m_487 m_78 m_488 rfl rfl hd_X10_get_v ⟨Nat.le_of_ble_eq_true rfl, Nat.le_of_ble_eq_true rfl⟩) (vR hP hK (rX_10 hK hP)) rfl rfl hl.1 rfl (lv_room (Nat.le_of_ble_eq_true rfl)) dX10_counts_4 ⟨Nat.le_of_ble_eq_true rfl, Nat.le_of_ble_eq_true rfl⟩) (fun r1 hr1 => ?_)
  refine lv_iload_n hx hb dX10_counts_7 rfl (lv_at hl 2 rfl) ?_
  refine lv_icmp_gt (tgt := 37) hx hb dX10_counts_8 (by decide) (fun c2 => ?_) (fun c2 => ?_)
  · have fc2 := z_lt (rfl : (b).toInt = _) (rfl : (r1).toInt = _) c2
    refine lv_iconst (v := 0) hx hb dX10_counts_37 (by decide) ?_
    exact W.zret (v := 0) hx hb hr rfl (fun t ht9 hW => ⟨0, rfl, ⟨by decide, by decide⟩, ht9⟩) (fun q hq => by cases hq) dX10_counts_38
  · have fc2 := z_nlt (rfl : (b).toInt = _) (rfl : (r1).toInt = _) c2
    refine lv_aload_n hx hb dX10_counts_11 rfl (lv_at hl 0 rfl) ?_
    refine lv_iload_n hx hb dX10_counts_12 rfl (lv_at hl 1 rfl) ?_
    refine lv_bipush (v := 8) hx hb dX10_counts_13 (by decide) ?_
    refine vp_callSi (W.runV (As := [.int a, .int 8]) (rest := []) ⟨hx, hb, hml, hown, ht⟩ (c_X10_get l dC dI h g ca iv lv fa la hI a 8 ⟨by omega, by omega⟩ ⟨by decide, by decide⟩) (kV 2 ht m_485 m_486 m_487 m_78 m_488 rfl rfl hd_X10_get_v ⟨Nat.le_of_ble_eq_true rfl, Nat.le_of_ble_eq_true rfl⟩) (vR hP hK (rX_10 hK hP)) rfl rfl hl.1 rfl (lv_room (Nat.le_of_ble_eq_true rfl)) dX10_counts_15 ⟨Nat.le_of_ble_eq_true rfl, Nat.le_of_ble_eq_true rfl⟩) (fun r3 hr3 => ?_)
    refine lv_iconst (v := (-1)) hx hb dX10_counts_18 (by decide) ?_
    refine lv_icmp_eq (tgt := 33) hx hb dX10_counts_19 (by decide) (fun c4 => ?_) (fun c4 => ?_)
    · have fc4 := z_eq (rfl : (r3).toInt = _) (by decide : ((-1) : Int32).toInt = (-1)) c4
      refine lv_iconst (v := 1) hx hb dX10_counts_33 (by decide) ?_
      refine lv_goto (tgt := 38) hx hb dX10_counts_34 (by decide) ?_
      exact W.zret (v := 1) hx hb hr rfl (fun t ht9 hW => ⟨1, rfl, ⟨by decide, by decide⟩, ht9⟩) (fun q hq => by cases hq) dX10_counts_38
    · have fc4 := z_ne (rfl : (r3).toInt = _) (by decide : ((-1) : Int32).toInt = (-1)) c4
      refine lv_aload_n hx hb dX10_counts_22 rfl (lv_at hl 0 rfl) ?_
      refine lv_iload_n hx hb dX10_counts_23 rfl (lv_at hl 1 rfl) ?_
      refine lv_bipush (v := 8) hx hb dX10_counts_24 (by decide) ?_
      refine vp_callSi (W.runV (As := [.int a, .int 8]) (rest := []) ⟨hx, hb, hml, hown, ht⟩ (c_X10_get l dC dI h g ca iv lv fa la hI a 8 ⟨by omega, by omega⟩ ⟨by decide, by decide⟩) (kV 2 ht m_485 m_486 m_487 m_78 m_488 rfl rfl hd_X10_get_v ⟨Nat.le_of_ble_eq_true rfl, Nat.le_of_ble_eq_true rfl⟩) (vR hP hK (rX_10 hK hP)) rfl rfl hl.1 rfl (lv_room (Nat.le_of_ble_eq_true rfl)) dX10_counts_26 ⟨Nat.le_of_ble_eq_true rfl, Nat.le_of_ble_eq_true rfl⟩) (fun r5 hr5 => ?_)
      refine lv_iload_n hx hb dX10_counts_29 rfl (lv_at hl 2 rfl) ?_
      refine lv_icmp_le (tgt := 37) hx hb dX10_counts_30 (by decide) (fun c6 => ?_) (fun c6 => ?_)
      · have fc6 := z_le (rfl : (r5).toInt = _) (rfl : (b).toInt = _) c6
        refine lv_iconst (v := 0) hx hb dX10_counts_37 (by decide) ?_
        exact W.zret (v := 0) hx hb hr rfl (fun t ht9 hW => ⟨0, rfl, ⟨by decide, by decide⟩, ht9⟩) (fun q hq => by cases hq) dX10_counts_38
      · have fc6 := z_nle (rfl : (r5).toInt = _) (rfl : (b).toInt = _) c6
        refine lv_iconst (v := 1) hx hb dX10_counts_33 (by decide) ?_
        refine lv_goto (tgt := 38) hx hb dX10_counts_34 (by decide) ?_
        exact W.zret (v := 1) hx hb hr rfl (fun t ht9 hW => ⟨1, rfl, ⟨by decide, by decide⟩, ht9⟩) (fun q hq => by cases hq) dX10_counts_38
set_option maxHeartbeats 4000000 in
set_option maxRecDepth 100000 in
/-- X10_drawn -/
theorem c_X10_drawn (l : Launch) (dC : Nat → ClassId) (dI : Nat → Nat → Nat) (h : Nat) (g : Nat → Nat → Nat) (ca : Nat → Nat → ClassId) (iv : Nat → Nat → Int32) (lv : Nat → Nat → Int64) (fa : Nat → Nat → Nat → Int32) (la : Nat → Nat → Nat → Int64) (hI : IX iv fa) (a : Int32) (b : Int32) : Met l yX10_drawn (wc yX10_drawn cX10_drawn 5 (some .int)) ({ frames := 2, cells := 0, slots := 0, locals := 45 } : Room) (pR (dC, dI) classes (WX h g ca iv lv fa la) (TX ca) [.ref (g 11 0), .int a, .int b]) (vp_Si (fun r => True)) 0 0 (fun _ => False) := by
  refine Met.ofW (cc := cX10_drawn) (maxL := 5) (ret := (some .int)) (by decide) rfl ?_
  intro p e s m args below meth c s₁ B hml hv
  obtain ⟨rfl, hP, hK⟩ := hv
  have hx := B.exec
  have hb := B.bytes
  have hr := B.returns
  have ht := tb_tl (atoms_spec (ws := wc yX10_drawn cX10_drawn 5 (some .int)) B.pre)
  have hown : s.vm.findClass RX10 = some m.cls := findClass_of_methodNamed B.named
  have hlocks := B.notSynchronized
  have hl := lv_entry [.ref (g 11 0), .int a, .int b] (n := 5) (Nat.le_of_ble_eq_true rfl)
  rw [lg_entry_eq]
  generalize (lg_sl [.ref (g 11 0), .int a, .int b] ++ List.replicate (5 - (lg_sl [.ref (g 11 0), .int a, .int b]).length) Slot.unset).toArray = ls at hl ⊢
  have hl : lv_has ls 5 [(0, .ref (g 11 0)), (1, .int a), (2, .int b)] := hl
  refine lv_iconst (v := 0) hx hb dX10_drawn_0 (by decide) ?_
  refine lv_istore_n (lv' := [(3, .int 0), (0, .ref (g 11 0)), (1, .int a), (2, .int b)]) hx hb dX10_drawn_1 rfl hl (by decide) rfl (fun ls hl => ?_)
  refine lv_iconst (v := 0) hx hb dX10_drawn_2 (by decide) ?_
  refine lv_istore (lv' := [(4, .int 0), (3, .int 0), (0, .ref (g 11 0)), (1, .int a), (2, .int b)]) hx hb dX10_drawn_3 hl (by decide) rfl (fun ls hl => ?_)
  have lp366 : ∀ (nn366 : Nat) (x365_4 : Int32) (x365_3 : Int32), 0 ≤ x365_4.toInt ∧ x365_4.toInt ≤ 60 → 60 - x365_4.toInt < (nn366 : Int) → ∀ (ls : Array Slot), lv_has ls 5 [(4, .int x365_4), (3, .int x365_3), (0, .ref (g 11 0)), (1, .int a), (2, .int b)] → W p l e ({ frames := 2, cells := 0, slots := 0, locals := 45 } : Room) s m ([.ref (g 11 0), .int a, .int b] : List Value).toArray below meth c s.heap [] 0 0 (MQ below (vp_Si (fun r => True)) ([.ref (g 11 0), .int a, .int b] : List Value).toArray s 0 0 (fun _ => False)) (F0 m 5 ls []) := by
    intro nn366
    induction nn366 with
    | zero => intro x365_4 x365_3 hx365_4 hm366; exfalso; omega
    | succ nn366 ih366 =>
      intro x365_4 x365_3 hx365_4 hm366 ls hl
      refine lv_iload hx hb dX10_drawn_5 (lv_at hl 0 rfl) ?_
      refine lv_aload_n hx hb dX10_drawn_7 rfl (lv_at hl 2 rfl) ?_
      have i_10_1 : 0 ≤ (iv 10 1).toInt ∧ (iv 10 1).toInt ≤ 60 := hI.1 10 1
      refine gX_10_1 hx hb ht hown hK hP m_112 (v := (iv 10 1)) rfl dX10_drawn_8 ?_
      refine lv_icmp_ge (tgt := 34) hx hb dX10_drawn_11 (by decide) (fun c367 => ?_) (fun c367 => ?_)
      · have fc367 := z_le (rfl : ((iv 10 1)).toInt = _) (rfl : (x365_4).toInt = _) c367
        refine lv_iload_n hx hb dX10_drawn_34 rfl (lv_at hl 1 rfl) ?_
        exact W.iret (v := x365_3) hx hb hr (fun t ht9 hW => ⟨x365_3, rfl, trivial, ht9⟩) (fun q hq => by cases hq) dX10_drawn_35
      · have fc367 := z_nle (rfl : ((iv 10 1)).toInt = _) (rfl : (x365_4).toInt = _) c367
        refine lv_aload_n hx hb dX10_drawn_14 rfl (lv_at hl 2 rfl) ?_
        refine lv_iload hx hb dX10_drawn_15 (lv_at hl 0 rfl) ?_
        refine lv_iload_n hx hb dX10_drawn_17 rfl (lv_at hl 3 rfl) ?_
        refine lv_iload_n hx hb dX10_drawn_18 rfl (lv_at hl 4 rfl) ?_
        refine vp_callSi (W.runV (As := [.int x365_4, .int a, .int b]) (rest := []) ⟨hx, hb, hml, hown, ht⟩ (c_X10_isOf l dC dI h g ca iv lv fa la hI x365_4 a b ⟨by omega, by omega⟩) (kV 3 ht m_481 m_482 m_483 m_78 m_484 rfl rfl hd_X10_isOf_v ⟨Nat.le_of_ble_eq_true rfl, Nat.le_of_ble_eq_true rfl⟩) (vR hP hK (rX_10 hK hP)) rfl rfl hl.1 rfl (lv_room (Nat.le_of_ble_eq_true rfl)) dX10_drawn_19 ⟨Nat.le_of_ble_eq_true rfl, Nat.le_of_ble_eq_true rfl⟩) (fun r368 hr368 => ?_)
        refine lv_if_eq (tgt := 28) hx hb dX10_drawn_22 (by decide) (fun c369 => ?_) (fun c369 => ?_)
        · have fc369 := z_eq (rfl : (r368).toInt = _) (by decide : (0 : Int32).toInt = 0) c369
          obtain ⟨v370, ev370⟩ : ∃ y : Int32, y = x365_4 + 1 := ⟨_, rfl⟩
          have tv370 := z_add ev370 rfl (by decide : (1 : Int32).toInt = 1) (by omega) (by omega)
          refine lv_iinc (v := v370) (lv' := [(4, .int v370), (3, .int x365_3), (0, .ref (g 11 0)), (1, .int a), (2, .int b)]) hx hb dX10_drawn_28 hl (k := 0) rfl (by rw [ev370]; rfl) (by decide) rfl (fun ls hl => ?_)
          refine lv_goto (tgt := 5) hx hb dX10_drawn_31 (by decide) ?_
          exact ih366 v370 x365_3 ⟨by omega, by omega⟩ (by omega) ls (lv_sub hl [0, 1, 2, 3, 4] rfl)
        · have fc369 := z_ne (rfl : (r368).toInt = _) (by decide : (0 : Int32).toInt = 0) c369
          obtain ⟨v371, ev371⟩ : ∃ y : Int32, y = x365_3 + 1 := ⟨_, rfl⟩
          refine lv_iinc (v := v371) (lv' := [(3, .int v371), (4, .int x365_4), (0, .ref (g 11 0)), (1, .int a), (2, .int b)]) hx hb dX10_drawn_25 hl (k := 1) rfl (by rw [ev371]; rfl) (by decide) rfl (fun ls hl => ?_)
          obtain ⟨v372, ev372⟩ : ∃ y : Int32, y = x365_4 + 1 := ⟨_, rfl⟩
          have tv372 := z_add ev372 rfl (by decide : (1 : Int32).toInt = 1) (by omega) (by omega)
          refine lv_iinc (v := v372) (lv' := [(4, .int v372), (3, .int v371), (0, .ref (g 11 0)), (1, .int a), (2, .int b)]) hx hb dX10_drawn_28 hl (k := 1) rfl (by rw [ev372]; rfl) (by decide) rfl (fun ls hl => ?_)
          refine lv_goto (tgt := 5) hx hb dX10_drawn_31 (by decide) ?_
          exact ih366 v372 v371 ⟨by omega, by omega⟩ (by omega) ls (lv_sub hl [0, 1, 2, 3, 4] rfl)
  exact lp366 61 0 0 ⟨by decide, by decide⟩ (by first | decide | omega) ls (lv_sub hl [0, 1, 2, 3, 4] rfl)
set_option maxHeartbeats 4000000 in
set_option maxRecDepth 100000 in
/-- X10_draw -/
theorem c_X10_draw (l : Launch) (dC : Nat → ClassId) (dI : Nat → Nat → Nat) (sz : Nat) (h : Nat) (g : Nat → Nat → Nat) (ca : Nat → Nat → ClassId) (iv : Nat → Nat → Int32) (lv : Nat → Nat → Int64) (fa : Nat → Nat → Nat → Int32) (la : Nat → Nat → Nat → Int64) (hI : IX iv fa) (a : Int32) (b : Int32) (d : Int32) (q_10_1 : 0 ≤ (iv 10 1).toInt ∧ (iv 10 1).toInt ≤ 59) (h_b : 0 ≤ b.toInt ∧ b.toInt ≤ 2) : Met l yX10_draw (wc yX10_draw cX10_draw 5 (some .int)) ({ frames := 1, cells := 0, slots := 0, locals := 23 } : Room) (pW (dC, dI) classes (WX h g ca iv lv fa la) (TX ca) sz [.ref (g 11 0), .int a, .int b, .int d]) (va_Qi (fun r (u : SS) => ∃ (na_10_0 : Nat → Int32) (ni_10_1 : Int32), (∀ j, inb (bA 10 0 j) (na_10_0 j)) ∧ inb (bI 10 1) ni_10_1 ∧ ni_10_1.toInt = (iv 10 1).toInt + 1 ∧ (0 ≤ r.toInt ∧ r.toInt ≤ 59) ∧ u = ((u2 iv 10 1 ni_10_1), lv, (u2 fa 10 0 na_10_0), la)) (bX (dC, dI) h g ca (va_A (WX h g ca iv lv fa la) sz)) (va_A (WX h g ca iv lv fa la) sz)) 0 0 (va_A (WX h g ca iv lv fa la) sz) := by
  refine Met.ofW (cc := cX10_draw) (maxL := 5) (ret := (some .int)) (by decide) rfl ?_
  intro p e s m args below meth c s₁ B hml hv
  obtain ⟨rfl, hsz, hP, hK, hD0⟩ := hv
  have hx := B.exec
  have hb := B.bytes
  have hr := B.returns
  have ht := tb_tl (atoms_spec (ws := wc yX10_draw cX10_draw 5 (some .int)) B.pre)
  have hown : s.vm.findClass RX10 = some m.cls := findClass_of_methodNamed B.named
  have hlocks := B.notSynchronized
  subst hsz
  have hD := hD0.self (sz := s.heap.size)
  generalize hAe : va_A (WX h g ca iv lv fa la) s.heap.size = A at hD ⊢
  have hA : ∀ q : Nat, s.heap.size ≤ q → A q := fun q h => by rw [← hAe]; exact Or.inr h
  have hS : va_S A s.heap s.heap [] := va_S.rf
  have hl := lv_entry [.ref (g 11 0), .int a, .int b, .int d] (n := 5) (Nat.le_of_ble_eq_true rfl)
  rw [lg_entry_eq]
  generalize (lg_sl [.ref (g 11 0), .int a, .int b, .int d] ++ List.replicate (5 - (lg_sl [.ref (g 11 0), .int a, .int b, .int d]).length) Slot.unset).toArray = ls at hl ⊢
  have hl : lv_has ls 5 [(0, .ref (g 11 0)), (1, .int a), (2, .int b), (3, .int d)] := hl
  refine lv_aload_n hx hb dX10_draw_0 rfl (lv_at hl 0 rfl) ?_
  have i_10_1 : 0 ≤ (iv 10 1).toInt ∧ (iv 10 1).toInt ≤ 60 := hI.1 10 1
  refine gX_10_1 hx hb ht hown hK hP m_112 (v := (iv 10 1)) rfl dX10_draw_1 ?_
  refine lv_istore (lv' := [(4, .int (iv 10 1)), (0, .ref (g 11 0)), (1, .int a), (2, .int b), (3, .int d)]) hx hb dX10_draw_4 hl (by decide) rfl (fun ls hl => ?_)
  refine lv_aload_n hx hb dX10_draw_6 rfl (lv_at hl 1 rfl) ?_
  refine lv_iload hx hb dX10_draw_7 (lv_at hl 0 rfl) ?_
  refine lv_iconst (v := 0) hx hb dX10_draw_9 (by decide) ?_
  refine lv_iload_n hx hb dX10_draw_10 rfl (lv_at hl 2 rfl) ?_
  have hFc := free_all hD hS hA
  refine va_callv (va_runV (As := [.int (iv 10 1), .int 0, .int a]) (rest := []) ⟨hx, hb, hml, hown, ht⟩ (c_X10_set_0 l dC dI s.heap.size h g ca iv lv fa la hI (iv 10 1) a ⟨by omega, by omega⟩) (kV 3 ht m_493 m_495 m_0 m_78 m_496 rfl rfl hd_X10_set_v ⟨Nat.le_of_ble_eq_true rfl, Nat.le_of_ble_eq_true rfl⟩) (vW hP hK hD (rX_10 hK hP)) rfl rfl hl.1 rfl (lv_room (Nat.le_of_ble_eq_true rfl)) dX10_draw_11 ⟨Nat.le_of_ble_eq_true rfl, Nat.le_of_ble_eq_true rfl⟩) hS (fun q _ h => hFc q h) hFc (fun u t H1 locs ht9 hvm hr1 hB hz1 hk1 hS => ?_)
  obtain ⟨n2, hn2, rfl⟩ := hr1
  obtain ⟨hP, hD⟩ := hB
  rw [ht9] at hP
  generalize H1 = H at hP hS ⊢
  have hP : va_P (dC, dI) classes (WX h g ca iv lv (u2 fa 10 0 n2) la) H := hP
  have hD : va_D A (WX h g ca iv lv (u2 fa 10 0 n2) la) := (show va_D _ (WX h g ca iv lv (u2 fa 10 0 n2) la) from hD).weaken (fun _ _ _ h => hFc _ h)
  refine lv_aload_n hx hb dX10_draw_14 rfl (lv_at hl 1 rfl) ?_
  refine lv_iload hx hb dX10_draw_15 (lv_at hl 0 rfl) ?_
  refine lv_iconst (v := 1) hx hb dX10_draw_17 (by decide) ?_
  refine lv_iload_n hx hb dX10_draw_18 rfl (lv_at hl 3 rfl) ?_
  have hFc := free_all hD hS hA
  refine va_callv (va_runV (As := [.int (iv 10 1), .int 1, .int b]) (rest := []) ⟨hx, hb, hml, hown, ht⟩ (c_X10_set_look l dC dI H.size h g ca iv lv (u2 fa 10 0 n2) la (IX_a (c := 10) (k := 0) hI hn2) (iv 10 1) b ⟨by omega, by omega⟩ ⟨by omega, by omega⟩) (kV 3 ht m_493 m_495 m_0 m_78 m_496 rfl rfl hd_X10_set_v ⟨Nat.le_of_ble_eq_true rfl, Nat.le_of_ble_eq_true rfl⟩) (vW hP hK hD (rX_10 hK hP)) rfl rfl hl.1 rfl (lv_room (Nat.le_of_ble_eq_true rfl)) dX10_draw_19 ⟨Nat.le_of_ble_eq_true rfl, Nat.le_of_ble_eq_true rfl⟩) hS (fun q _ h => hFc q h) hFc (fun u t H1 locs ht9 hvm hr3 hB hz1 hk1 hS => ?_)
  obtain ⟨n4, hn4, rfl⟩ := hr3
  obtain ⟨hP, hD⟩ := hB
  rw [ht9] at hP
  generalize H1 = H at hP hS ⊢
  have hP : va_P (dC, dI) classes (WX h g ca iv lv (u2 fa 10 0 n4) la) H := hP
  have hD : va_D A (WX h g ca iv lv (u2 fa 10 0 n4) la) := (show va_D _ (WX h g ca iv lv (u2 fa 10 0 n4) la) from hD).weaken (fun _ _ _ h => hFc _ h)
  refine lv_aload_n hx hb dX10_draw_22 rfl (lv_at hl 1 rfl) ?_
  refine lv_iload hx hb dX10_draw_23 (lv_at hl 0 rfl) ?_
  refine lv_bipush (v := 7) hx hb dX10_draw_25 (by decide) ?_
  refine lv_iload_n hx hb dX10_draw_27 rfl (lv_at hl 4 rfl) ?_
  have hFc := free_all hD hS hA
  refine va_callv (va_runV (As := [.int (iv 10 1), .int 7, .int d]) (rest := []) ⟨hx, hb, hml, hown, ht⟩ (c_X10_set l dC dI H.size h g ca iv lv (u2 fa 10 0 n4) la (IX_a (c := 10) (k := 0) hI hn4) (iv 10 1) 7 d ⟨by omega, by omega⟩ ⟨by decide, by decide⟩) (kV 3 ht m_493 m_495 m_0 m_78 m_496 rfl rfl hd_X10_set_v ⟨Nat.le_of_ble_eq_true rfl, Nat.le_of_ble_eq_true rfl⟩) (vW hP hK hD (rX_10 hK hP)) rfl rfl hl.1 rfl (lv_room (Nat.le_of_ble_eq_true rfl)) dX10_draw_28 ⟨Nat.le_of_ble_eq_true rfl, Nat.le_of_ble_eq_true rfl⟩) hS (fun q _ h => hFc q h) hFc (fun u t H1 locs ht9 hvm hr5 hB hz1 hk1 hS => ?_)
  obtain ⟨n6, hn6, rfl⟩ := hr5
  obtain ⟨hP, hD⟩ := hB
  rw [ht9] at hP
  generalize H1 = H at hP hS ⊢
  have hP : va_P (dC, dI) classes (WX h g ca iv lv (u2 fa 10 0 n6) la) H := hP
  have hD : va_D A (WX h g ca iv lv (u2 fa 10 0 n6) la) := (show va_D _ (WX h g ca iv lv (u2 fa 10 0 n6) la) from hD).weaken (fun _ _ _ h => hFc _ h)
  refine lv_aload_n hx hb dX10_draw_31 rfl (lv_at hl 1 rfl) ?_
  refine lv_iload hx hb dX10_draw_32 (lv_at hl 0 rfl) ?_
  refine lv_bipush (v := 8) hx hb dX10_draw_34 (by decide) ?_
  refine lv_iconst (v := (-1)) hx hb dX10_draw_36 (by decide) ?_
  have hFc := free_all hD hS hA
  refine va_callv (va_runV (As := [.int (iv 10 1), .int 8, .int (-1)]) (rest := []) ⟨hx, hb, hml, hown, ht⟩ (c_X10_set l dC dI H.size h g ca iv lv (u2 fa 10 0 n6) la (IX_a (c := 10) (k := 0) hI hn6) (iv 10 1) 8 (-1) ⟨by omega, by omega⟩ ⟨by decide, by decide⟩) (kV 3 ht m_493 m_495 m_0 m_78 m_496 rfl rfl hd_X10_set_v ⟨Nat.le_of_ble_eq_true rfl, Nat.le_of_ble_eq_true rfl⟩) (vW hP hK hD (rX_10 hK hP)) rfl rfl hl.1 rfl (lv_room (Nat.le_of_ble_eq_true rfl)) dX10_draw_37 ⟨Nat.le_of_ble_eq_true rfl, Nat.le_of_ble_eq_true rfl⟩) hS (fun q _ h => hFc q h) hFc (fun u t H1 locs ht9 hvm hr7 hB hz1 hk1 hS => ?_)
  obtain ⟨n8, hn8, rfl⟩ := hr7
  obtain ⟨hP, hD⟩ := hB
  rw [ht9] at hP
  generalize H1 = H at hP hS ⊢
  have hP : va_P (dC, dI) classes (WX h g ca iv lv (u2 fa 10 0 n8) la) H := hP
  have hD : va_D A (WX h g ca iv lv (u2 fa 10 0 n8) la) := (show va_D _ (WX h g ca iv lv (u2 fa 10 0 n8) la) from hD).weaken (fun _ _ _ h => hFc _ h)
  refine lv_aload_n hx hb dX10_draw_40 rfl (lv_at hl 1 rfl) ?_
  refine lv_dup hx hb dX10_draw_41 rfl ?_
  refine gX_10_1 hx hb ht hown hK hP m_112 (v := (iv 10 1)) rfl dX10_draw_42 ?_
  refine lv_iconst (v := 1) hx hb dX10_draw_45 (by decide) ?_
  refine lv_iadd hx hb dX10_draw_46 ?_
  refine lv_topi (fun v9 ev9 => ?_)
  have tv9 := z_add ev9 (rfl : ((iv 10 1)).toInt = _) (by decide : (1 : Int32).toInt = 1) (by omega) (by omega)
  refine pX_10_1 (v := v9) hx hb ht hown hK hP hD hS m_112 dX10_draw_47 (fun H locs hP hD hS => ?_)
  refine lv_iload hx hb dX10_draw_50 (lv_at hl 0 rfl) ?_
  have hP9 : va_P (dC, dI) classes (WX h g ca (u2 iv 10 1 v9) lv (u2 fa 10 0 n8) la) H := hP
  have hD9 : va_D A (WX h g ca (u2 iv 10 1 v9) lv (u2 fa 10 0 n8) la) := hD
  exact W.iret (v := (iv 10 1)) hx hb hr (fun t ht9 hW => ⟨⟨(iv 10 1), ((u2 iv 10 1 v9), lv, (u2 fa 10 0 n8), la), rfl, ⟨n8, v9, hn8, (show inb (0, 60) v9 from ⟨by omega, by omega⟩), (by omega), ⟨by omega, by omega⟩, rfl⟩, by rw [ht9]; exact hP9, hD9⟩, hS.F ht9⟩) hS.2.2 dX10_draw_52
set_option maxHeartbeats 4000000 in
set_option maxRecDepth 100000 in
/-- X10_weigh -/
theorem c_X10_weigh (l : Launch) (dC : Nat → ClassId) (dI : Nat → Nat → Nat) (sz : Nat) (h : Nat) (g : Nat → Nat → Nat) (ca : Nat → Nat → ClassId) (iv : Nat → Nat → Int32) (lv : Nat → Nat → Int64) (fa : Nat → Nat → Nat → Int32) (la : Nat → Nat → Nat → Int64) (hI : IX iv fa) (a : Int32) (b : Int32) (d : Int32) (k : Int32) (h_a : 0 ≤ a.toInt ∧ a.toInt ≤ 59) : Met l yX10_weigh (wc yX10_weigh cX10_weigh 5 none) ({ frames := 1, cells := 0, slots := 0, locals := 23 } : Room) (pW (dC, dI) classes (WX h g ca iv lv fa la) (TX ca) sz [.ref (g 11 0), .int a, .int b, .int d, .int k]) (va_Qv (fun (u : SS) => ∃ (na_10_0 : Nat → Int32), (∀ j, inb (bA 10 0 j) (na_10_0 j)) ∧ u = (iv, lv, (u2 fa 10 0 na_10_0), la)) (bX (dC, dI) h g ca (va_A (WX h g ca iv lv fa la) sz)) (va_A (WX h g ca iv lv fa la) sz)) 0 0 (va_A (WX h g ca iv lv fa la) sz) := by
  refine Met.ofW (cc := cX10_weigh) (maxL := 5) (ret := none) (by decide) rfl ?_
  intro p e s m args below meth c s₁ B hml hv
  obtain ⟨rfl, hsz, hP, hK, hD0⟩ := hv
  have hx := B.exec
  have hb := B.bytes
  have hr := B.returns
  have ht := tb_tl (atoms_spec (ws := wc yX10_weigh cX10_weigh 5 none) B.pre)
  have hown : s.vm.findClass RX10 = some m.cls := findClass_of_methodNamed B.named
  have hlocks := B.notSynchronized
  subst hsz
  have hD := hD0.self (sz := s.heap.size)
  generalize hAe : va_A (WX h g ca iv lv fa la) s.heap.size = A at hD ⊢
  have hA : ∀ q : Nat, s.heap.size ≤ q → A q := fun q h => by rw [← hAe]; exact Or.inr h
  have hS : va_S A s.heap s.heap [] := va_S.rf
  have hl := lv_entry [.ref (g 11 0), .int a, .int b, .int d, .int k] (n := 5) (Nat.le_of_ble_eq_true rfl)
  rw [lg_entry_eq]
  generalize (lg_sl [.ref (g 11 0), .int a, .int b, .int d, .int k] ++ List.replicate (5 - (lg_sl [.ref (g 11 0), .int a, .int b, .int d, .int k]).length) Slot.unset).toArray = ls at hl ⊢
  have hl : lv_has ls 5 [(0, .ref (g 11 0)), (1, .int a), (2, .int b), (3, .int d), (4, .int k)] := hl
  refine lv_aload_n hx hb dX10_weigh_0 rfl (lv_at hl 0 rfl) ?_
  refine lv_iload_n hx hb dX10_weigh_1 rfl (lv_at hl 1 rfl) ?_
  refine lv_iconst (v := 2) hx hb dX10_weigh_2 (by decide) ?_
  refine lv_iload_n hx hb dX10_weigh_3 rfl (lv_at hl 2 rfl) ?_
  have hFc := free_all hD hS hA
  refine va_callv (va_runV (As := [.int a, .int 2, .int b]) (rest := []) ⟨hx, hb, hml, hown, ht⟩ (c_X10_set l dC dI s.heap.size h g ca iv lv fa la hI a 2 b ⟨by omega, by omega⟩ ⟨by decide, by decide⟩) (kV 3 ht m_493 m_495 m_0 m_78 m_496 rfl rfl hd_X10_set_v ⟨Nat.le_of_ble_eq_true rfl, Nat.le_of_ble_eq_true rfl⟩) (vW hP hK hD (rX_10 hK hP)) rfl rfl hl.1 rfl (lv_room (Nat.le_of_ble_eq_true rfl)) dX10_weigh_4 ⟨Nat.le_of_ble_eq_true rfl, Nat.le_of_ble_eq_true rfl⟩) hS (fun q _ h => hFc q h) hFc (fun u t H1 locs ht9 hvm hr1 hB hz1 hk1 hS => ?_)
  obtain ⟨n2, hn2, rfl⟩ := hr1
  obtain ⟨hP, hD⟩ := hB
  rw [ht9] at hP
  generalize H1 = H at hP hS ⊢
  have hP : va_P (dC, dI) classes (WX h g ca iv lv (u2 fa 10 0 n2) la) H := hP
  have hD : va_D A (WX h g ca iv lv (u2 fa 10 0 n2) la) := (show va_D _ (WX h g ca iv lv (u2 fa 10 0 n2) la) from hD).weaken (fun _ _ _ h => hFc _ h)
  refine lv_aload_n hx hb dX10_weigh_7 rfl (lv_at hl 0 rfl) ?_
  refine lv_iload_n hx hb dX10_weigh_8 rfl (lv_at hl 1 rfl) ?_
  refine lv_iconst (v := 3) hx hb dX10_weigh_9 (by decide) ?_
  refine lv_iload_n hx hb dX10_weigh_10 rfl (lv_at hl 3 rfl) ?_
  have hFc := free_all hD hS hA
  refine va_callv (va_runV (As := [.int a, .int 3, .int d]) (rest := []) ⟨hx, hb, hml, hown, ht⟩ (c_X10_set l dC dI H.size h g ca iv lv (u2 fa 10 0 n2) la (IX_a (c := 10) (k := 0) hI hn2) a 3 d ⟨by omega, by omega⟩ ⟨by decide, by decide⟩) (kV 3 ht m_493 m_495 m_0 m_78 m_496 rfl rfl hd_X10_set_v ⟨Nat.le_of_ble_eq_true rfl, Nat.le_of_ble_eq_true rfl⟩) (vW hP hK hD (rX_10 hK hP)) rfl rfl hl.1 rfl (lv_room (Nat.le_of_ble_eq_true rfl)) dX10_weigh_11 ⟨Nat.le_of_ble_eq_true rfl, Nat.le_of_ble_eq_true rfl⟩) hS (fun q _ h => hFc q h) hFc (fun u t H1 locs ht9 hvm hr3 hB hz1 hk1 hS => ?_)
  obtain ⟨n4, hn4, rfl⟩ := hr3
  obtain ⟨hP, hD⟩ := hB
  rw [ht9] at hP
  generalize H1 = H at hP hS ⊢
  have hP : va_P (dC, dI) classes (WX h g ca iv lv (u2 fa 10 0 n4) la) H := hP
  have hD : va_D A (WX h g ca iv lv (u2 fa 10 0 n4) la) := (show va_D _ (WX h g ca iv lv (u2 fa 10 0 n4) la) from hD).weaken (fun _ _ _ h => hFc _ h)
  refine lv_aload_n hx hb dX10_weigh_14 rfl (lv_at hl 0 rfl) ?_
  refine lv_iload_n hx hb dX10_weigh_15 rfl (lv_at hl 1 rfl) ?_
  refine lv_iconst (v := 4) hx hb dX10_weigh_16 (by decide) ?_
  refine lv_iload hx hb dX10_weigh_17 (lv_at hl 4 rfl) ?_
  have hFc := free_all hD hS hA
  refine va_callv (va_runV (As := [.int a, .int 4, .int k]) (rest := []) ⟨hx, hb, hml, hown, ht⟩ (c_X10_set l dC dI H.size h g ca iv lv (u2 fa 10 0 n4) la (IX_a (c := 10) (k := 0) hI hn4) a 4 k ⟨by omega, by omega⟩ ⟨by decide, by decide⟩) (kV 3 ht m_493 m_495 m_0 m_78 m_496 rfl rfl hd_X10_set_v ⟨Nat.le_of_ble_eq_true rfl, Nat.le_of_ble_eq_true rfl⟩) (vW hP hK hD (rX_10 hK hP)) rfl rfl hl.1 rfl (lv_room (Nat.le_of_ble_eq_true rfl)) dX10_weigh_19 ⟨Nat.le_of_ble_eq_true rfl, Nat.le_of_ble_eq_true rfl⟩) hS (fun q _ h => hFc q h) hFc (fun u t H1 locs ht9 hvm hr5 hB hz1 hk1 hS => ?_)
  obtain ⟨n6, hn6, rfl⟩ := hr5
  obtain ⟨hP, hD⟩ := hB
  rw [ht9] at hP
  generalize H1 = H at hP hS ⊢
  have hP : va_P (dC, dI) classes (WX h g ca iv lv (u2 fa 10 0 n6) la) H := hP
  have hD : va_D A (WX h g ca iv lv (u2 fa 10 0 n6) la) := (show va_D _ (WX h g ca iv lv (u2 fa 10 0 n6) la) from hD).weaken (fun _ _ _ h => hFc _ h)
  have hP9 : va_P (dC, dI) classes (WX h g ca iv lv (u2 fa 10 0 n6) la) H := hP
  have hD9 : va_D A (WX h g ca iv lv (u2 fa 10 0 n6) la) := hD
  exact W.vret hx hb hr (fun t ht9 hW => ⟨⟨(iv, lv, (u2 fa 10 0 n6), la), rfl, ⟨n6, hn6, rfl⟩, by rw [ht9]; exact hP9, hD9⟩, hS.F ht9⟩) hS.2.2 dX10_weigh_22
set_option maxHeartbeats 4000000 in
set_option maxRecDepth 100000 in
/-- X10_dryIn -/
theorem c_X10_dryIn (l : Launch) (dC : Nat → ClassId) (dI : Nat → Nat → Nat) (sz : Nat) (h : Nat) (g : Nat → Nat → Nat) (ca : Nat → Nat → ClassId) (iv : Nat → Nat → Int32) (lv : Nat → Nat → Int64) (fa : Nat → Nat → Nat → Int32) (la : Nat → Nat → Nat → Int64) (hI : IX iv fa) (a : Int32) (b : Int32) (d : Int32) (h_a : 0 ≤ a.toInt ∧ a.toInt ≤ 59) : Met l yX10_dryIn (wc yX10_dryIn cX10_dryIn 4 none) ({ frames := 1, cells := 0, slots := 0, locals := 23 } : Room) (pW (dC, dI) classes (WX h g ca iv lv fa la) (TX ca) sz [.ref (g 11 0), .int a, .int b, .int d]) (va_Qv (fun (u : SS) => ∃ (na_10_0 : Nat → Int32), (∀ j, inb (bA 10 0 j) (na_10_0 j)) ∧ u = (iv, lv, (u2 fa 10 0 na_10_0), la)) (bX (dC, dI) h g ca (va_A (WX h g ca iv lv fa la) sz)) (va_A (WX h g ca iv lv fa la) sz)) 0 0 (va_A (WX h g ca iv lv fa la) sz) := by
  refine Met.ofW (cc := cX10_dryIn) (maxL := 4) (ret := none) (by decide) rfl ?_
  intro p e s m args below meth c s₁ B hml hv
  obtain ⟨rfl, hsz, hP, hK, hD0⟩ := hv
  have hx := B.exec
  have hb := B.bytes
  have hr := B.returns
  have ht := tb_tl (atoms_spec (ws := wc yX10_dryIn cX10_dryIn 4 none) B.pre)
  have hown : s.vm.findClass RX10 = some m.cls := findClass_of_methodNamed B.named
  have hlocks := B.notSynchronized
  subst hsz
  have hD := hD0.self (sz := s.heap.size)
  generalize hAe : va_A (WX h g ca iv lv fa la) s.heap.size = A at hD ⊢
  have hA : ∀ q : Nat, s.heap.size ≤ q → A q := fun q h => by rw [← hAe]; exact Or.inr h
  have hS : va_S A s.heap s.heap [] := va_S.rf
  have hl := lv_entry [.ref (g 11 0), .int a, .int b, .int d] (n := 4) (Nat.le_of_ble_eq_true rfl)
  rw [lg_entry_eq]
  generalize (lg_sl [.ref (g 11 0), .int a, .int b, .int d] ++ List.replicate (4 - (lg_sl [.ref (g 11 0), .int a, .int b, .int d]).length) Slot.unset).toArray = ls at hl ⊢
  have hl : lv_has ls 4 [(0, .ref (g 11 0)), (1, .int a), (2, .int b), (3, .int d)] := hl
  refine lv_aload_n hx hb dX10_dryIn_0 rfl (lv_at hl 0 rfl) ?_
  refine lv_iload_n hx hb dX10_dryIn_1 rfl (lv_at hl 1 rfl) ?_
  refine lv_iconst (v := 5) hx hb dX10_dryIn_2 (by decide) ?_
  refine lv_iload_n hx hb dX10_dryIn_3 rfl (lv_at hl 2 rfl) ?_
  have hFc := free_all hD hS hA
  refine va_callv (va_runV (As := [.int a, .int 5, .int b]) (rest := []) ⟨hx, hb, hml, hown, ht⟩ (c_X10_set l dC dI s.heap.size h g ca iv lv fa la hI a 5 b ⟨by omega, by omega⟩ ⟨by decide, by decide⟩) (kV 3 ht m_493 m_495 m_0 m_78 m_496 rfl rfl hd_X10_set_v ⟨Nat.le_of_ble_eq_true rfl, Nat.le_of_ble_eq_true rfl⟩) (vW hP hK hD (rX_10 hK hP)) rfl rfl hl.1 rfl (lv_room (Nat.le_of_ble_eq_true rfl)) dX10_dryIn_4 ⟨Nat.le_of_ble_eq_true rfl, Nat.le_of_ble_eq_true rfl⟩) hS (fun q _ h => hFc q h) hFc (fun u t H1 locs ht9 hvm hr1 hB hz1 hk1 hS => ?_)
  obtain ⟨n2, hn2, rfl⟩ := hr1
  obtain ⟨hP, hD⟩ := hB
  rw [ht9] at hP
  generalize H1 = H at hP hS ⊢
  have hP : va_P (dC, dI) classes (WX h g ca iv lv (u2 fa 10 0 n2) la) H := hP
  have hD : va_D A (WX h g ca iv lv (u2 fa 10 0 n2) la) := (show va_D _ (WX h g ca iv lv (u2 fa 10 0 n2) la) from hD).weaken (fun _ _ _ h => hFc _ h)
  refine lv_aload_n hx hb dX10_dryIn_7 rfl (lv_at hl 0 rfl) ?_
  refine lv_iload_n hx hb dX10_dryIn_8 rfl (lv_at hl 1 rfl) ?_
  refine lv_bipush (v := 6) hx hb dX10_dryIn_9 (by decide) ?_
  refine lv_iload_n hx hb dX10_dryIn_11 rfl (lv_at hl 3 rfl) ?_
  have hFc := free_all hD hS hA
  refine va_callv (va_runV (As := [.int a, .int 6, .int d]) (rest := []) ⟨hx, hb, hml, hown, ht⟩ (c_X10_set l dC dI H.size h g ca iv lv (u2 fa 10 0 n2) la (IX_a (c := 10) (k := 0) hI hn2) a 6 d ⟨by omega, by omega⟩ ⟨by decide, by decide⟩) (kV 3 ht m_493 m_495 m_0 m_78 m_496 rfl rfl hd_X10_set_v ⟨Nat.le_of_ble_eq_true rfl, Nat.le_of_ble_eq_true rfl⟩) (vW hP hK hD (rX_10 hK hP)) rfl rfl hl.1 rfl (lv_room (Nat.le_of_ble_eq_true rfl)) dX10_dryIn_12 ⟨Nat.le_of_ble_eq_true rfl, Nat.le_of_ble_eq_true rfl⟩) hS (fun q _ h => hFc q h) hFc (fun u t H1 locs ht9 hvm hr3 hB hz1 hk1 hS => ?_)
  obtain ⟨n4, hn4, rfl⟩ := hr3
  obtain ⟨hP, hD⟩ := hB
  rw [ht9] at hP
  generalize H1 = H at hP hS ⊢
  have hP : va_P (dC, dI) classes (WX h g ca iv lv (u2 fa 10 0 n4) la) H := hP
  have hD : va_D A (WX h g ca iv lv (u2 fa 10 0 n4) la) := (show va_D _ (WX h g ca iv lv (u2 fa 10 0 n4) la) from hD).weaken (fun _ _ _ h => hFc _ h)
  have hP9 : va_P (dC, dI) classes (WX h g ca iv lv (u2 fa 10 0 n4) la) H := hP
  have hD9 : va_D A (WX h g ca iv lv (u2 fa 10 0 n4) la) := hD
  exact W.vret hx hb hr (fun t ht9 hW => ⟨⟨(iv, lv, (u2 fa 10 0 n4), la), rfl, ⟨n4, hn4, rfl⟩, by rw [ht9]; exact hP9, hD9⟩, hS.F ht9⟩) hS.2.2 dX10_dryIn_15
set_option maxHeartbeats 4000000 in
set_option maxRecDepth 100000 in
/-- X10_dropOut -/
theorem c_X10_dropOut (l : Launch) (dC : Nat → ClassId) (dI : Nat → Nat → Nat) (sz : Nat) (h : Nat) (g : Nat → Nat → Nat) (ca : Nat → Nat → ClassId) (iv : Nat → Nat → Int32) (lv : Nat → Nat → Int64) (fa : Nat → Nat → Nat → Int32) (la : Nat → Nat → Nat → Int64) (hI : IX iv fa) (a : Int32) (b : Int32) (h_a : 0 ≤ a.toInt ∧ a.toInt ≤ 59) : Met l yX10_dropOut (wc yX10_dropOut cX10_dropOut 3 none) ({ frames := 1, cells := 0, slots := 0, locals := 23 } : Room) (pW (dC, dI) classes (WX h g ca iv lv fa la) (TX ca) sz [.ref (g 11 0), .int a, .int b]) (va_Qv (fun (u : SS) => ∃ (na_10_0 : Nat → Int32) (ni_10_2 : Int32), (∀ j, inb (bA 10 0 j) (na_10_0 j)) ∧ u = ((u2 iv 10 2 ni_10_2), lv, (u2 fa 10 0 na_10_0), la)) (bX (dC, dI) h g ca (va_A (WX h g ca iv lv fa la) sz)) (va_A (WX h g ca iv lv fa la) sz)) 0 0 (va_A (WX h g ca iv lv fa la) sz) := by
  refine Met.ofW (cc := cX10_dropOut) (maxL := 3) (ret := none) (by decide) rfl ?_
  intro p e s m args below meth c s₁ B hml hv
  obtain ⟨rfl, hsz, hP, hK, hD0⟩ := hv
  have hx := B.exec
  have hb := B.bytes
  have hr := B.returns
  have ht := tb_tl (atoms_spec (ws := wc yX10_dropOut cX10_dropOut 3 none) B.pre)
  have hown : s.vm.findClass RX10 = some m.cls := findClass_of_methodNamed B.named
  have hlocks := B.notSynchronized
  subst hsz
  have hD := hD0.self (sz := s.heap.size)
  generalize hAe : va_A (WX h g ca iv lv fa la) s.heap.size = A at hD ⊢
  have hA : ∀ q : Nat, s.heap.size ≤ q → A q := fun q h => by rw [← hAe]; exact Or.inr h
  have hS : va_S A s.heap s.heap [] := va_S.rf
  have hl := lv_entry [.ref (g 11 0), .int a, .int b] (n := 3) (Nat.le_of_ble_eq_true rfl)
  rw [lg_entry_eq]
  generalize (lg_sl [.ref (g 11 0), .int a, .int b] ++ List.replicate (3 - (lg_sl [.ref (g 11 0), .int a, .int b]).length) Slot.unset).toArray = ls at hl ⊢
  have hl : lv_has ls 3 [(0, .ref (g 11 0)), (1, .int a), (2, .int b)] := hl
  refine lv_aload_n hx hb dX10_dropOut_0 rfl (lv_at hl 0 rfl) ?_
  refine lv_iload_n hx hb dX10_dropOut_1 rfl (lv_at hl 1 rfl) ?_
  refine lv_bipush (v := 8) hx hb dX10_dropOut_2 (by decide) ?_
  refine lv_iload_n hx hb dX10_dropOut_4 rfl (lv_at hl 2 rfl) ?_
  have hFc := free_all hD hS hA
  refine va_callv (va_runV (As := [.int a, .int 8, .int b]) (rest := []) ⟨hx, hb, hml, hown, ht⟩ (c_X10_set l dC dI s.heap.size h g ca iv lv fa la hI a 8 b ⟨by omega, by omega⟩ ⟨by decide, by decide⟩) (kV 3 ht m_493 m_495 m_0 m_78 m_496 rfl rfl hd_X10_set_v ⟨Nat.le_of_ble_eq_true rfl, Nat.le_of_ble_eq_true rfl⟩) (vW hP hK hD (rX_10 hK hP)) rfl rfl hl.1 rfl (lv_room (Nat.le_of_ble_eq_true rfl)) dX10_dropOut_5 ⟨Nat.le_of_ble_eq_true rfl, Nat.le_of_ble_eq_true rfl⟩) hS (fun q _ h => hFc q h) hFc (fun u t H1 locs ht9 hvm hr1 hB hz1 hk1 hS => ?_)
  obtain ⟨n2, hn2, rfl⟩ := hr1
  obtain ⟨hP, hD⟩ := hB
  rw [ht9] at hP
  generalize H1 = H at hP hS ⊢
  have hP : va_P (dC, dI) classes (WX h g ca iv lv (u2 fa 10 0 n2) la) H := hP
  have hD : va_D A (WX h g ca iv lv (u2 fa 10 0 n2) la) := (show va_D _ (WX h g ca iv lv (u2 fa 10 0 n2) la) from hD).weaken (fun _ _ _ h => hFc _ h)
  refine lv_aload_n hx hb dX10_dropOut_8 rfl (lv_at hl 0 rfl) ?_
  refine lv_dup hx hb dX10_dropOut_9 rfl ?_
  refine gX_10_2 hx hb ht hown hK hP m_116 (v := (iv 10 2)) rfl dX10_dropOut_10 ?_
  refine lv_iconst (v := 1) hx hb dX10_dropOut_13 (by decide) ?_
  refine lv_iadd hx hb dX10_dropOut_14 ?_
  refine lv_topi (fun v3 ev3 => ?_)
  refine pX_10_2 (v := v3) hx hb ht hown hK hP hD hS m_116 dX10_dropOut_15 (fun H locs hP hD hS => ?_)
  have hP9 : va_P (dC, dI) classes (WX h g ca (u2 iv 10 2 v3) lv (u2 fa 10 0 n2) la) H := hP
  have hD9 : va_D A (WX h g ca (u2 iv 10 2 v3) lv (u2 fa 10 0 n2) la) := hD
  exact W.vret hx hb hr (fun t ht9 hW => ⟨⟨((u2 iv 10 2 v3), lv, (u2 fa 10 0 n2), la), rfl, ⟨n2, v3, hn2, rfl⟩, by rw [ht9]; exact hP9, hD9⟩, hS.F ht9⟩) hS.2.2 dX10_dropOut_18
