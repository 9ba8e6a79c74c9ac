/-! ===== skeins ===== -/
set_option maxRecDepth 100000 in
theorem m_0 : Cond.selects RX10 yX10_set yX10_set ∈ tb := tb_in 0 (by decide +kernel) rfl
theorem m_78 : Cond.initialized RX10 ∈ tb := mb_1_0 _ (List.mem_of_getElem? (i := 1) rfl)
theorem m_111 : Cond.fieldLink RX10 11 "SilkHouse$Skeins" "rows" "[I" ∈ tb := mb_1_1 _ (List.mem_of_getElem? (i := 8) rfl)
theorem m_112 : Cond.fieldLink RX10 15 "SilkHouse$Skeins" "number" "I" ∈ tb := mb_1_1 _ (List.mem_of_getElem? (i := 9) rfl)
theorem m_116 : Cond.fieldLink RX10 19 "SilkHouse$Skeins" "lost" "I" ∈ tb := mb_1_1 _ (List.mem_of_getElem? (i := 13) rfl)
theorem m_481 : Cond.methodLink RX10 22 yX10_isOf ∈ tb := mb_2_3 _ (List.mem_of_getElem? (i := 15) rfl)
theorem m_482 : Cond.instanceMethod yX10_isOf ∈ tb := mb_2_3 _ (List.mem_of_getElem? (i := 16) rfl)
theorem m_483 : Cond.selects RX10 yX10_isOf yX10_isOf ∈ tb := mb_2_3 _ (List.mem_of_getElem? (i := 17) rfl)
theorem m_484 : Cond.code yX10_isOf cX10_isOf 4 (some .boolean) ∈ tb := mb_2_3 _ (List.mem_of_getElem? (i := 18) rfl)
theorem m_485 : Cond.methodLink RX10 30 yX10_get ∈ tb := mb_2_3 _ (List.mem_of_getElem? (i := 19) rfl)
theorem m_486 : Cond.instanceMethod yX10_get ∈ tb := mb_2_3 _ (List.mem_of_getElem? (i := 20) rfl)
theorem m_487 : Cond.selects RX10 yX10_get yX10_get ∈ tb := mb_2_3 _ (List.mem_of_getElem? (i := 21) rfl)
theorem m_488 : Cond.code yX10_get cX10_get 3 (some .int) ∈ tb := mb_2_3 _ (List.mem_of_getElem? (i := 22) rfl)
theorem m_493 : Cond.methodLink RX10 26 yX10_set ∈ tb := mb_2_4 _ (List.mem_of_getElem? (i := 3) rfl)
theorem m_495 : Cond.instanceMethod yX10_set ∈ tb := mb_2_4 _ (List.mem_of_getElem? (i := 4) rfl)
theorem m_496 : Cond.code yX10_set cX10_set 4 none ∈ tb := mb_2_4 _ (List.mem_of_getElem? (i := 5) rfl)
theorem hd_X10_get_v : yX10_get.cls = RX10 ∧ yX10_get.cls ≠ "java/lang/invoke/MethodHandle" ∧ yX10_get.cls ≠ "java/lang/invoke/VarHandle" ∧ (parseMethodDescriptor yX10_get.desc).map (fun d => d.parameters.length) = some 2 := by decide +kernel
theorem hd_X10_isOf_v : yX10_isOf.cls = RX10 ∧ yX10_isOf.cls ≠ "java/lang/invoke/MethodHandle" ∧ yX10_isOf.cls ≠ "java/lang/invoke/VarHandle" ∧ (parseMethodDescriptor yX10_isOf.desc).map (fun d => d.parameters.length) = some 3 := by decide +kernel
theorem hd_X10_set_v : yX10_set.cls = RX10 ∧ yX10_set.cls ≠ "java/lang/invoke/MethodHandle" ∧ yX10_set.cls ≠ "java/lang/invoke/VarHandle" ∧ (parseMethodDescriptor yX10_set.desc).map (fun d => d.parameters.length) = some 3 := by decide +kernel
set_option maxRecDepth 100000 in
theorem dvX10_counts_0 : ([(0, .aload_n 0, 1), (1, .iload_n 1, 1), (2, .bipush 7, 2), (4, .invokevirtual 30, 3), (7, .iload_n 2, 1), (8, .if_icmp .gt 29, 3), (11, .aload_n 0, 1), (12, .iload_n 1, 1), (13, .bipush 8, 2), (15, .invokevirtual 30, 3), (18, .iconst (-1), 1), (19, .if_icmp .eq 14, 3), (22, .aload_n 0, 1), (23, .iload_n 1, 1), (24, .bipush 8, 2), (26, .invokevirtual 30, 3), (29, .iload_n 2, 1), (30, .if_icmp .le 7, 3), (33, .iconst 1, 1), (34, .goto 4, 3), (37, .iconst 0, 1), (38, .ireturn, 1)] : List (Nat × Instr × Nat)).all (fun q => decide (decode cX10_counts q.1 = .ok (q.2.1, q.2.2))) = true := by decide +kernel
theorem dX10_counts_0 : decode cX10_counts 0 = .ok (.aload_n 0, 1) := all_at dvX10_counts_0 0 rfl
theorem dX10_counts_1 : decode cX10_counts 1 = .ok (.iload_n 1, 1) := all_at dvX10_counts_0 1 rfl
theorem dX10_counts_2 : decode cX10_counts 2 = .ok (.bipush 7, 2) := all_at dvX10_counts_0 2 rfl
theorem dX10_counts_4 : decode cX10_counts 4 = .ok (.invokevirtual 30, 3) := all_at dvX10_counts_0 3 rfl
theorem dX10_counts_7 : decode cX10_counts 7 = .ok (.iload_n 2, 1) := all_at dvX10_counts_0 4 rfl
theorem dX10_counts_8 : decode cX10_counts 8 = .ok (.if_icmp .gt 29, 3) := all_at dvX10_counts_0 5 rfl
theorem dX10_counts_11 : decode cX10_counts 11 = .ok (.aload_n 0, 1) := all_at dvX10_counts_0 6 rfl
theorem dX10_counts_12 : decode cX10_counts 12 = .ok (.iload_n 1, 1) := all_at dvX10_counts_0 7 rfl
theorem dX10_counts_13 : decode cX10_counts 13 = .ok (.bipush 8, 2) := all_at dvX10_counts_0 8 rfl
theorem dX10_counts_15 : decode cX10_counts 15 = .ok (.invokevirtual 30, 3) := all_at dvX10_counts_0 9 rfl
theorem dX10_counts_18 : decode cX10_counts 18 = .ok (.iconst (-1), 1) := all_at dvX10_counts_0 10 rfl
theorem dX10_counts_19 : decode cX10_counts 19 = .ok (.if_icmp .eq 14, 3) := all_at dvX10_counts_0 11 rfl
theorem dX10_counts_22 : decode cX10_counts 22 = .ok (.aload_n 0, 1) := all_at dvX10_counts_0 12 rfl
theorem dX10_counts_23 : decode cX10_counts 23 = .ok (.iload_n 1, 1) := all_at dvX10_counts_0 13 rfl
theorem dX10_counts_24 : decode cX10_counts 24 = .ok (.bipush 8, 2) := all_at dvX10_counts_0 14 rfl
theorem dX10_counts_26 : decode cX10_counts 26 = .ok (.invokevirtual 30, 3) := all_at dvX10_counts_0 15 rfl
theorem dX10_counts_29 : decode cX10_counts 29 = .ok (.iload_n 2, 1) := all_at dvX10_counts_0 16 rfl
theorem dX10_counts_30 : decode cX10_counts 30 = .ok (.if_icmp .le 7, 3) := all_at dvX10_counts_0 17 rfl
theorem dX10_counts_33 : decode cX10_counts 33 = .ok (.iconst 1, 1) := all_at dvX10_counts_0 18 rfl
theorem dX10_counts_34 : decode cX10_counts 34 = .ok (.goto 4, 3) := all_at dvX10_counts_0 19 rfl
theorem dX10_counts_37 : decode cX10_counts 37 = .ok (.iconst 0, 1) := all_at dvX10_counts_0 20 rfl
theorem dX10_counts_38 : decode cX10_counts 38 = .ok (.ireturn, 1) := all_at dvX10_counts_0 21 rfl
set_option maxRecDepth 100000 in
theorem dvX10_draw_0 : ([(0, .aload_n 0, 1), (1, .getfield 15, 3), (4, .istore 4, 2), (6, .aload_n 0, 1), (7, .iload 4, 2), (9, .iconst 0, 1), (10, .iload_n 1, 1), (11, .invokevirtual 26, 3), (14, .aload_n 0, 1), (15, .iload 4, 2), (17, .iconst 1, 1), (18, .iload_n 2, 1), (19, .invokevirtual 26, 3), (22, .aload_n 0, 1), (23, .iload 4, 2), (25, .bipush 7, 2), (27, .iload_n 3, 1), (28, .invokevirtual 26, 3), (31, .aload_n 0, 1), (32, .iload 4, 2), (34, .bipush 8, 2), (36, .iconst (-1), 1), (37, .invokevirtual 26, 3), (40, .aload_n 0, 1)] : List (Nat × Instr × Nat)).all (fun q => decide (decode cX10_draw q.1 = .ok (q.2.1, q.2.2))) = true := by decide +kernel
theorem dX10_draw_0 : decode cX10_draw 0 = .ok (.aload_n 0, 1) := all_at dvX10_draw_0 0 rfl
theorem dX10_draw_1 : decode cX10_draw 1 = .ok (.getfield 15, 3) := all_at dvX10_draw_0 1 rfl
theorem dX10_draw_4 : decode cX10_draw 4 = .ok (.istore 4, 2) := all_at dvX10_draw_0 2 rfl
theorem dX10_draw_6 : decode cX10_draw 6 = .ok (.aload_n 0, 1) := all_at dvX10_draw_0 3 rfl
theorem dX10_draw_7 : decode cX10_draw 7 = .ok (.iload 4, 2) := all_at dvX10_draw_0 4 rfl
theorem dX10_draw_9 : decode cX10_draw 9 = .ok (.iconst 0, 1) := all_at dvX10_draw_0 5 rfl
theorem dX10_draw_10 : decode cX10_draw 10 = .ok (.iload_n 1, 1) := all_at dvX10_draw_0 6 rfl
theorem dX10_draw_11 : decode cX10_draw 11 = .ok (.invokevirtual 26, 3) := all_at dvX10_draw_0 7 rfl
theorem dX10_draw_14 : decode cX10_draw 14 = .ok (.aload_n 0, 1) := all_at dvX10_draw_0 8 rfl
theorem dX10_draw_15 : decode cX10_draw 15 = .ok (.iload 4, 2) := all_at dvX10_draw_0 9 rfl
theorem dX10_draw_17 : decode cX10_draw 17 = .ok (.iconst 1, 1) := all_at dvX10_draw_0 10 rfl
theorem dX10_draw_18 : decode cX10_draw 18 = .ok (.iload_n 2, 1) := all_at dvX10_draw_0 11 rfl
theorem dX10_draw_19 : decode cX10_draw 19 = .ok (.invokevirtual 26, 3) := all_at dvX10_draw_0 12 rfl
theorem dX10_draw_22 : decode cX10_draw 22 = .ok (.aload_n 0, 1) := all_at dvX10_draw_0 13 rfl
theorem dX10_draw_23 : decode cX10_draw 23 = .ok (.iload 4, 2) := all_at dvX10_draw_0 14 rfl
theorem dX10_draw_25 : decode cX10_draw 25 = .ok (.bipush 7, 2) := all_at dvX10_draw_0 15 rfl
theorem dX10_draw_27 : decode cX10_draw 27 = .ok (.iload_n 3, 1) := all_at dvX10_draw_0 16 rfl
theorem dX10_draw_28 : decode cX10_draw 28 = .ok (.invokevirtual 26, 3) := all_at dvX10_draw_0 17 rfl
theorem dX10_draw_31 : decode cX10_draw 31 = .ok (.aload_n 0, 1) := all_at dvX10_draw_0 18 rfl
theorem dX10_draw_32 : decode cX10_draw 32 = .ok (.iload 4, 2) := all_at dvX10_draw_0 19 rfl
theorem dX10_draw_34 : decode cX10_draw 34 = .ok (.bipush 8, 2) := all_at dvX10_draw_0 20 rfl
theorem dX10_draw_36 : decode cX10_draw 36 = .ok (.iconst (-1), 1) := all_at dvX10_draw_0 21 rfl
theorem dX10_draw_37 : decode cX10_draw 37 = .ok (.invokevirtual 26, 3) := all_at dvX10_draw_0 22 rfl
theorem dX10_draw_40 : decode cX10_draw 40 = .ok (.aload_n 0, 1) := all_at dvX10_draw_0 23 rfl
set_option maxRecDepth 100000 in
theorem dvX10_draw_41 : ([(41, .dup, 1), (42, .getfield 15, 3), (45, .iconst 1, 1), (46, .iadd, 1), (47, .putfield 15, 3), (50, .iload 4, 2), (52, .ireturn, 1)] : List (Nat × Instr × Nat)).all (fun q => decide (decode cX10_draw q.1 = .ok (q.2.1, q.2.2))) = true := by decide +kernel
theorem dX10_draw_41 : decode cX10_draw 41 = .ok (.dup, 1) := all_at dvX10_draw_41 0 rfl
theorem dX10_draw_42 : decode cX10_draw 42 = .ok (.getfield 15, 3) := all_at dvX10_draw_41 1 rfl
theorem dX10_draw_45 : decode cX10_draw 45 = .ok (.iconst 1, 1) := all_at dvX10_draw_41 2 rfl
theorem dX10_draw_46 : decode cX10_draw 46 = .ok (.iadd, 1) := all_at dvX10_draw_41 3 rfl
theorem dX10_draw_47 : decode cX10_draw 47 = .ok (.putfield 15, 3) := all_at dvX10_draw_41 4 rfl
theorem dX10_draw_50 : decode cX10_draw 50 = .ok (.iload 4, 2) := all_at dvX10_draw_41 5 rfl
theorem dX10_draw_52 : decode cX10_draw 52 = .ok (.ireturn, 1) := all_at dvX10_draw_41 6 rfl
set_option maxRecDepth 100000 in
theorem dvX10_drawn_0 : ([(0, .iconst 0, 1), (1, .istore_n 3, 1), (2, .iconst 0, 1), (3, .istore 4, 2), (5, .iload 4, 2), (7, .aload_n 0, 1), (8, .getfield 15, 3), (11, .if_icmp .ge 23, 3), (14, .aload_n 0, 1), (15, .iload 4, 2), (17, .iload_n 1, 1), (18, .iload_n 2, 1), (19, .invokevirtual 22, 3), (22, .ifCond .eq 6, 3), (25, .iinc 3 1, 3), (28, .iinc 4 1, 3), (31, .goto (-26), 3), (34, .iload_n 3, 1), (35, .ireturn, 1)] : List (Nat × Instr × Nat)).all (fun q => decide (decode cX10_drawn q.1 = .ok (q.2.1, q.2.2))) = true := by decide +kernel
theorem dX10_drawn_0 : decode cX10_drawn 0 = .ok (.iconst 0, 1) := all_at dvX10_drawn_0 0 rfl
theorem dX10_drawn_1 : decode cX10_drawn 1 = .ok (.istore_n 3, 1) := all_at dvX10_drawn_0 1 rfl
theorem dX10_drawn_2 : decode cX10_drawn 2 = .ok (.iconst 0, 1) := all_at dvX10_drawn_0 2 rfl
theorem dX10_drawn_3 : decode cX10_drawn 3 = .ok (.istore 4, 2) := all_at dvX10_drawn_0 3 rfl
theorem dX10_drawn_5 : decode cX10_drawn 5 = .ok (.iload 4, 2) := all_at dvX10_drawn_0 4 rfl
theorem dX10_drawn_7 : decode cX10_drawn 7 = .ok (.aload_n 0, 1) := all_at dvX10_drawn_0 5 rfl
theorem dX10_drawn_8 : decode cX10_drawn 8 = .ok (.getfield 15, 3) := all_at dvX10_drawn_0 6 rfl
theorem dX10_drawn_11 : decode cX10_drawn 11 = .ok (.if_icmp .ge 23, 3) := all_at dvX10_drawn_0 7 rfl
theorem dX10_drawn_14 : decode cX10_drawn 14 = .ok (.aload_n 0, 1) := all_at dvX10_drawn_0 8 rfl
theorem dX10_drawn_15 : decode cX10_drawn 15 = .ok (.iload 4, 2) := all_at dvX10_drawn_0 9 rfl
theorem dX10_drawn_17 : decode cX10_drawn 17 = .ok (.iload_n 1, 1) := all_at dvX10_drawn_0 10 rfl
theorem dX10_drawn_18 : decode cX10_drawn 18 = .ok (.iload_n 2, 1) := all_at dvX10_drawn_0 11 rfl
theorem dX10_drawn_19 : decode cX10_drawn 19 = .ok (.invokevirtual 22, 3) := all_at dvX10_drawn_0 12 rfl
theorem dX10_drawn_22 : decode cX10_drawn 22 = .ok (.ifCond .eq 6, 3) := all_at dvX10_drawn_0 13 rfl
theorem dX10_drawn_25 : decode cX10_drawn 25 = .ok (.iinc 3 1, 3) := all_at dvX10_drawn_0 14 rfl
theorem dX10_drawn_28 : decode cX10_drawn 28 = .ok (.iinc 4 1, 3) := all_at dvX10_drawn_0 15 rfl
theorem dX10_drawn_31 : decode cX10_drawn 31 = .ok (.goto (-26), 3) := all_at dvX10_drawn_0 16 rfl
theorem dX10_drawn_34 : decode cX10_drawn 34 = .ok (.iload_n 3, 1) := all_at dvX10_drawn_0 17 rfl
theorem dX10_drawn_35 : decode cX10_drawn 35 = .ok (.ireturn, 1) := all_at dvX10_drawn_0 18 rfl
set_option maxRecDepth 100000 in
theorem dvX10_dropOut_0 : ([(0, .aload_n 0, 1), (1, .iload_n 1, 1), (2, .bipush 8, 2), (4, .iload_n 2, 1), (5, .invokevirtual 26, 3), (8, .aload_n 0, 1), (9, .dup, 1), (10, .getfield 19, 3), (13, .iconst 1, 1), (14, .iadd, 1), (15, .putfield 19, 3), (18, .return_, 1)] : List (Nat × Instr × Nat)).all (fun q => decide (decode cX10_dropOut q.1 = .ok (q.2.1, q.2.2))) = true := by decide +kernel
theorem dX10_dropOut_0 : decode cX10_dropOut 0 = .ok (.aload_n 0, 1) := all_at dvX10_dropOut_0 0 rfl
theorem dX10_dropOut_1 : decode cX10_dropOut 1 = .ok (.iload_n 1, 1) := all_at dvX10_dropOut_0 1 rfl
theorem dX10_dropOut_2 : decode cX10_dropOut 2 = .ok (.bipush 8, 2) := all_at dvX10_dropOut_0 2 rfl
theorem dX10_dropOut_4 : decode cX10_dropOut 4 = .ok (.iload_n 2, 1) := all_at dvX10_dropOut_0 3 rfl
theorem dX10_dropOut_5 : decode cX10_dropOut 5 = .ok (.invokevirtual 26, 3) := all_at dvX10_dropOut_0 4 rfl
theorem dX10_dropOut_8 : decode cX10_dropOut 8 = .ok (.aload_n 0, 1) := all_at dvX10_dropOut_0 5 rfl
theorem dX10_dropOut_9 : decode cX10_dropOut 9 = .ok (.dup, 1) := all_at dvX10_dropOut_0 6 rfl
theorem dX10_dropOut_10 : decode cX10_dropOut 10 = .ok (.getfield 19, 3) := all_at dvX10_dropOut_0 7 rfl
theorem dX10_dropOut_13 : decode cX10_dropOut 13 = .ok (.iconst 1, 1) := all_at dvX10_dropOut_0 8 rfl
theorem dX10_dropOut_14 : decode cX10_dropOut 14 = .ok (.iadd, 1) := all_at dvX10_dropOut_0 9 rfl
theorem dX10_dropOut_15 : decode cX10_dropOut 15 = .ok (.putfield 19, 3) := all_at dvX10_dropOut_0 10 rfl
theorem dX10_dropOut_18 : decode cX10_dropOut 18 = .ok (.return_, 1) := all_at dvX10_dropOut_0 11 rfl
set_option maxRecDepth 100000 in
theorem dvX10_dryIn_0 : ([(0, .aload_n 0, 1), (1, .iload_n 1, 1), (2, .iconst 5, 1), (3, .iload_n 2, 1), (4, .invokevirtual 26, 3), (7, .aload_n 0, 1), (8, .iload_n 1, 1), (9, .bipush 6, 2), (11, .iload_n 3, 1), (12, .invokevirtual 26, 3), (15, .return_, 1)] : List (Nat × Instr × Nat)).all (fun q => decide (decode cX10_dryIn q.1 = .ok (q.2.1, q.2.2))) = true := by decide +kernel
theorem dX10_dryIn_0 : decode cX10_dryIn 0 = .ok (.aload_n 0, 1) := all_at dvX10_dryIn_0 0 rfl
theorem dX10_dryIn_1 : decode cX10_dryIn 1 = .ok (.iload_n 1, 1) := all_at dvX10_dryIn_0 1 rfl
theorem dX10_dryIn_2 : decode cX10_dryIn 2 = .ok (.iconst 5, 1) := all_at dvX10_dryIn_0 2 rfl
theorem dX10_dryIn_3 : decode cX10_dryIn 3 = .ok (.iload_n 2, 1) := all_at dvX10_dryIn_0 3 rfl
theorem dX10_dryIn_4 : decode cX10_dryIn 4 = .ok (.invokevirtual 26, 3) := all_at dvX10_dryIn_0 4 rfl
theorem dX10_dryIn_7 : decode cX10_dryIn 7 = .ok (.aload_n 0, 1) := all_at dvX10_dryIn_0 5 rfl
theorem dX10_dryIn_8 : decode cX10_dryIn 8 = .ok (.iload_n 1, 1) := all_at dvX10_dryIn_0 6 rfl
theorem dX10_dryIn_9 : decode cX10_dryIn 9 = .ok (.bipush 6, 2) := all_at dvX10_dryIn_0 7 rfl
theorem dX10_dryIn_11 : decode cX10_dryIn 11 = .ok (.iload_n 3, 1) := all_at dvX10_dryIn_0 8 rfl
theorem dX10_dryIn_12 : decode cX10_dryIn 12 = .ok (.invokevirtual 26, 3) := all_at dvX10_dryIn_0 9 rfl
theorem dX10_dryIn_15 : decode cX10_dryIn 15 = .ok (.return_, 1) := all_at dvX10_dryIn_0 10 rfl
set_option maxRecDepth 100000 in
theorem dvX10_get_0 : ([(0, .aload_n 0, 1), (1, .getfield 11, 3), (4, .iload_n 1, 1), (5, .bipush 9, 2), (7, .imul, 1), (8, .iload_n 2, 1), (9, .iadd, 1), (10, .iaload, 1), (11, .ireturn, 1)] : List (Nat × Instr × Nat)).all (fun q => decide (decode cX10_get q.1 = .ok (q.2.1, q.2.2))) = true := by decide +kernel
theorem dX10_get_0 : decode cX10_get 0 = .ok (.aload_n 0, 1) := all_at dvX10_get_0 0 rfl
theorem dX10_get_1 : decode cX10_get 1 = .ok (.getfield 11, 3) := all_at dvX10_get_0 1 rfl
theorem dX10_get_4 : decode cX10_get 4 = .ok (.iload_n 1, 1) := all_at dvX10_get_0 2 rfl
theorem dX10_get_5 : decode cX10_get 5 = .ok (.bipush 9, 2) := all_at dvX10_get_0 3 rfl
theorem dX10_get_7 : decode cX10_get 7 = .ok (.imul, 1) := all_at dvX10_get_0 4 rfl
theorem dX10_get_8 : decode cX10_get 8 = .ok (.iload_n 2, 1) := all_at dvX10_get_0 5 rfl
theorem dX10_get_9 : decode cX10_get 9 = .ok (.iadd, 1) := all_at dvX10_get_0 6 rfl
theorem dX10_get_10 : decode cX10_get 10 = .ok (.iaload, 1) := all_at dvX10_get_0 7 rfl
theorem dX10_get_11 : decode cX10_get 11 = .ok (.ireturn, 1) := all_at dvX10_get_0 8 rfl
set_option maxRecDepth 100000 in
theorem dvX10_has_0 : ([(0, .iload_n 1, 1), (1, .ifCond .lt 15, 3), (4, .iload_n 1, 1), (5, .aload_n 0, 1), (6, .getfield 15, 3), (9, .if_icmp .ge 7, 3), (12, .iconst 1, 1), (13, .goto 4, 3), (16, .iconst 0, 1), (17, .ireturn, 1)] : List (Nat × Instr × Nat)).all (fun q => decide (decode cX10_has q.1 = .ok (q.2.1, q.2.2))) = true := by decide +kernel
theorem dX10_has_0 : decode cX10_has 0 = .ok (.iload_n 1, 1) := all_at dvX10_has_0 0 rfl
theorem dX10_has_1 : decode cX10_has 1 = .ok (.ifCond .lt 15, 3) := all_at dvX10_has_0 1 rfl
theorem dX10_has_4 : decode cX10_has 4 = .ok (.iload_n 1, 1) := all_at dvX10_has_0 2 rfl
theorem dX10_has_5 : decode cX10_has 5 = .ok (.aload_n 0, 1) := all_at dvX10_has_0 3 rfl
theorem dX10_has_6 : decode cX10_has 6 = .ok (.getfield 15, 3) := all_at dvX10_has_0 4 rfl
theorem dX10_has_9 : decode cX10_has 9 = .ok (.if_icmp .ge 7, 3) := all_at dvX10_has_0 5 rfl
theorem dX10_has_12 : decode cX10_has 12 = .ok (.iconst 1, 1) := all_at dvX10_has_0 6 rfl
theorem dX10_has_13 : decode cX10_has 13 = .ok (.goto 4, 3) := all_at dvX10_has_0 7 rfl
theorem dX10_has_16 : decode cX10_has 16 = .ok (.iconst 0, 1) := all_at dvX10_has_0 8 rfl
theorem dX10_has_17 : decode cX10_has 17 = .ok (.ireturn, 1) := all_at dvX10_has_0 9 rfl
set_option maxRecDepth 100000 in
theorem dvX10_isOf_0 : ([(0, .aload_n 0, 1), (1, .iload_n 1, 1), (2, .iconst 0, 1), (3, .invokevirtual 30, 3), (6, .iload_n 2, 1), (7, .if_icmp .ne 17, 3), (10, .aload_n 0, 1), (11, .iload_n 1, 1), (12, .iconst 1, 1), (13, .invokevirtual 30, 3), (16, .iload_n 3, 1), (17, .if_icmp .ne 7, 3), (20, .iconst 1, 1), (21, .goto 4, 3), (24, .iconst 0, 1), (25, .ireturn, 1)] : List (Nat × Instr × Nat)).all (fun q => decide (decode cX10_isOf q.1 = .ok (q.2.1, q.2.2))) = true := by decide +kernel
theorem dX10_isOf_0 : decode cX10_isOf 0 = .ok (.aload_n 0, 1) := all_at dvX10_isOf_0 0 rfl
theorem dX10_isOf_1 : decode cX10_isOf 1 = .ok (.iload_n 1, 1) := all_at dvX10_isOf_0 1 rfl
theorem dX10_isOf_2 : decode cX10_isOf 2 = .ok (.iconst 0, 1) := all_at dvX10_isOf_0 2 rfl
theorem dX10_isOf_3 : decode cX10_isOf 3 = .ok (.invokevirtual 30, 3) := all_at dvX10_isOf_0 3 rfl
theorem dX10_isOf_6 : decode cX10_isOf 6 = .ok (.iload_n 2, 1) := all_at dvX10_isOf_0 4 rfl
theorem dX10_isOf_7 : decode cX10_isOf 7 = .ok (.if_icmp .ne 17, 3) := all_at dvX10_isOf_0 5 rfl
theorem dX10_isOf_10 : decode cX10_isOf 10 = .ok (.aload_n 0, 1) := all_at dvX10_isOf_0 6 rfl
theorem dX10_isOf_11 : decode cX10_isOf 11 = .ok (.iload_n 1, 1) := all_at dvX10_isOf_0 7 rfl
theorem dX10_isOf_12 : decode cX10_isOf 12 = .ok (.iconst 1, 1) := all_at dvX10_isOf_0 8 rfl
theorem dX10_isOf_13 : decode cX10_isOf 13 = .ok (.invokevirtual 30, 3) := all_at dvX10_isOf_0 9 rfl
theorem dX10_isOf_16 : decode cX10_isOf 16 = .ok (.iload_n 3, 1) := all_at dvX10_isOf_0 10 rfl
theorem dX10_isOf_17 : decode cX10_isOf 17 = .ok (.if_icmp .ne 7, 3) := all_at dvX10_isOf_0 11 rfl
theorem dX10_isOf_20 : decode cX10_isOf 20 = .ok (.iconst 1, 1) := all_at dvX10_isOf_0 12 rfl
theorem dX10_isOf_21 : decode cX10_isOf 21 = .ok (.goto 4, 3) := all_at dvX10_isOf_0 13 rfl
theorem dX10_isOf_24 : decode cX10_isOf 24 = .ok (.iconst 0, 1) := all_at dvX10_isOf_0 14 rfl
theorem dX10_isOf_25 : decode cX10_isOf 25 = .ok (.ireturn, 1) := all_at dvX10_isOf_0 15 rfl
set_option maxRecDepth 100000 in
theorem dvX10_set_0 : ([(0, .aload_n 0, 1), (1, .getfield 11, 3), (4, .iload_n 1, 1), (5, .bipush 9, 2), (7, .imul, 1), (8, .iload_n 2, 1), (9, .iadd, 1), (10, .iload_n 3, 1), (11, .iastore, 1), (12, .return_, 1)] : List (Nat × Instr × Nat)).all (fun q => decide (decode cX10_set q.1 = .ok (q.2.1, q.2.2))) = true := by decide +kernel
theorem dX10_set_0 : decode cX10_set 0 = .ok (.aload_n 0, 1) := all_at dvX10_set_0 0 rfl
theorem dX10_set_1 : decode cX10_set 1 = .ok (.getfield 11, 3) := all_at dvX10_set_0 1 rfl
theorem dX10_set_4 : decode cX10_set 4 = .ok (.iload_n 1, 1) := all_at dvX10_set_0 2 rfl
theorem dX10_set_5 : decode cX10_set 5 = .ok (.bipush 9, 2) := all_at dvX10_set_0 3 rfl
theorem dX10_set_7 : decode cX10_set 7 = .ok (.imul, 1) := all_at dvX10_set_0 4 rfl
theorem dX10_set_8 : decode cX10_set 8 = .ok (.iload_n 2, 1) := all_at dvX10_set_0 5 rfl
theorem dX10_set_9 : decode cX10_set 9 = .ok (.iadd, 1) := all_at dvX10_set_0 6 rfl
theorem dX10_set_10 : decode cX10_set 10 = .ok (.iload_n 3, 1) := all_at dvX10_set_0 7 rfl
theorem dX10_set_11 : decode cX10_set 11 = .ok (.iastore, 1) := all_at dvX10_set_0 8 rfl
theorem dX10_set_12 : decode cX10_set 12 = .ok (.return_, 1) := all_at dvX10_set_0 9 rfl
set_option maxRecDepth 100000 in
theorem dvX10_weigh_0 : ([(0, .aload_n 0, 1), (1, .iload_n 1, 1), (2, .iconst 2, 1), (3, .iload_n 2, 1), (4, .invokevirtual 26, 3), (7, .aload_n 0, 1), (8, .iload_n 1, 1), (9, .iconst 3, 1), (10, .iload_n 3, 1), (11, .invokevirtual 26, 3), (14, .aload_n 0, 1), (15, .iload_n 1, 1), (16, .iconst 4, 1), (17, .iload 4, 2), (19, .invokevirtual 26, 3), (22, .return_, 1)] : List (Nat × Instr × Nat)).all (fun q => decide (decode cX10_weigh q.1 = .ok (q.2.1, q.2.2))) = true := by decide +kernel
theorem dX10_weigh_0 : decode cX10_weigh 0 = .ok (.aload_n 0, 1) := all_at dvX10_weigh_0 0 rfl
theorem dX10_weigh_1 : decode cX10_weigh 1 = .ok (.iload_n 1, 1) := all_at dvX10_weigh_0 1 rfl
theorem dX10_weigh_2 : decode cX10_weigh 2 = .ok (.iconst 2, 1) := all_at dvX10_weigh_0 2 rfl
theorem dX10_weigh_3 : decode cX10_weigh 3 = .ok (.iload_n 2, 1) := all_at dvX10_weigh_0 3 rfl
theorem dX10_weigh_4 : decode cX10_weigh 4 = .ok (.invokevirtual 26, 3) := all_at dvX10_weigh_0 4 rfl
theorem dX10_weigh_7 : decode cX10_weigh 7 = .ok (.aload_n 0, 1) := all_at dvX10_weigh_0 5 rfl
theorem dX10_weigh_8 : decode cX10_weigh 8 = .ok (.iload_n 1, 1) := all_at dvX10_weigh_0 6 rfl
theorem dX10_weigh_9 : decode cX10_weigh 9 = .ok (.iconst 3, 1) := all_at dvX10_weigh_0 7 rfl
theorem dX10_weigh_10 : decode cX10_weigh 10 = .ok (.iload_n 3, 1) := all_at dvX10_weigh_0 8 rfl
theorem dX10_weigh_11 : decode cX10_weigh 11 = .ok (.invokevirtual 26, 3) := all_at dvX10_weigh_0 9 rfl
theorem dX10_weigh_14 : decode cX10_weigh 14 = .ok (.aload_n 0, 1) := all_at dvX10_weigh_0 10 rfl
theorem dX10_weigh_15 : decode cX10_weigh 15 = .ok (.iload_n 1, 1) := all_at dvX10_weigh_0 11 rfl
theorem dX10_weigh_16 : decode cX10_weigh 16 = .ok (.iconst 4, 1) := all_at dvX10_weigh_0 12 rfl
theorem dX10_weigh_17 : decode cX10_weigh 17 = .ok (.iload 4, 2) := all_at dvX10_weigh_0 13 rfl
theorem dX10_weigh_19 : decode cX10_weigh 19 = .ok (.invokevirtual 26, 3) := all_at dvX10_weigh_0 14 rfl
theorem dX10_weigh_22 : decode cX10_weigh 22 = .ok (.return_, 1) := all_at dvX10_weigh_0 15 rfl
set_option maxHeartbeats 4000000 in
set_option maxRecDepth 100000 in
/-- X10_has -/
theorem c_X10_has (l : Launch) (dC : Nat → ClassId) (dI : Nat → Nat → Nat) (h : Nat) (g : Nat → Nat → Nat) (ca : Nat → Nat → ClassId) (iv : Nat → Nat → Int32) (lv : Nat → Nat → Int64) (fa : Nat → Nat → Nat → Int32) (la : Nat → Nat → Nat → Int64) (hI : IX iv fa) (b : Int32) : Met l yX10_has (wc yX10_has cX10_has 2 (some .boolean)) ({ frames := 0, cells := 0, slots := 0, locals := 0 } : Room) (pR (dC, dI) classes (WX h g ca iv lv fa la) (TX ca) [.ref (g 11 0), .int b]) (vp_Si (fun r => (r = 1 ∧ (0 ≤ b.toInt ∧ b.toInt < (iv 10 1).toInt)) ∨ (r = 0 ∧ ¬ (0 ≤ b.toInt ∧ b.toInt < (iv 10 1).toInt)))) 0 0 (fun _ => False) := by
  refine Met.ofW (cc := cX10_has) (maxL := 2) (ret := (some .boolean)) (by decide) rfl ?_
  intro p e s m args below meth c s₁ B hml hv
  obtain ⟨rfl, hP, hK⟩ := hv
  have hx := B.exec
  have hb := B.bytes
  have hr := B.returns
  have ht := tb_tl (atoms_spec (ws := wc yX10_has cX10_has 2 (some .boolean)) B.pre)
  have hown : s.vm.findClass RX10 = some m.cls := findClass_of_methodNamed B.named
  have hlocks := B.notSynchronized
  have hl := lv_entry [.ref (g 11 0), .int b] (n := 2) (Nat.le_of_ble_eq_true rfl)
  rw [lg_entry_eq]
  generalize (lg_sl [.ref (g 11 0), .int b] ++ List.replicate (2 - (lg_sl [.ref (g 11 0), .int b]).length) Slot.unset).toArray = ls at hl ⊢
  have hl : lv_has ls 2 [(0, .ref (g 11 0)), (1, .int b)] := hl
  refine lv_iload_n hx hb dX10_has_0 rfl (lv_at hl 1 rfl) ?_
  refine lv_if_lt (tgt := 16) hx hb dX10_has_1 (by decide) (fun c1 => ?_) (fun c1 => ?_)
  · have fc1 := z_lt (rfl : (b).toInt = _) (by decide : (0 : Int32).toInt = 0) c1
    refine lv_iconst (v := 0) hx hb dX10_has_16 (by decide) ?_
    exact W.zret (v := 0) hx hb hr rfl (fun t ht9 hW => ⟨0, rfl, Or.inr ⟨rfl, by omega⟩, ht9⟩) (fun q hq => by cases hq) dX10_has_17
  · have fc1 := z_nlt (rfl : (b).toInt = _) (by decide : (0 : Int32).toInt = 0) c1
    refine lv_iload_n hx hb dX10_has_4 rfl (lv_at hl 1 rfl) ?_
    refine lv_aload_n hx hb dX10_has_5 rfl (lv_at hl 0 rfl) ?_
    have i_10_1 : 0 ≤ (iv 10 1).toInt ∧ (iv 10 1).toInt ≤ 60 := hI.1 10 1
    refine gX_10_1 hx hb ht hown hK hP m_112 (v := (iv 10 1)) rfl dX10_has_6 ?_
    refine lv_icmp_ge (tgt := 16) hx hb dX10_has_9 (by decide) (fun c2 => ?_) (fun c2 => ?_)
    · have fc2 := z_le (rfl : ((iv 10 1)).toInt = _) (rfl : (b).toInt = _) c2
      refine lv_iconst (v := 0) hx hb dX10_has_16 (by decide) ?_
      exact W.zret (v := 0) hx hb hr rfl (fun t ht9 hW => ⟨0, rfl, Or.inr ⟨rfl, by omega⟩, ht9⟩) (fun q hq => by cases hq) dX10_has_17
    · have fc2 := z_nle (rfl : ((iv 10 1)).toInt = _) (rfl : (b).toInt = _) c2
      refine lv_iconst (v := 1) hx hb dX10_has_12 (by decide) ?_
      refine lv_goto (tgt := 17) hx hb dX10_has_13 (by decide) ?_
      exact W.zret (v := 1) hx hb hr rfl (fun t ht9 hW => ⟨1, rfl, Or.inl ⟨rfl, by omega⟩, ht9⟩) (fun q hq => by cases hq) dX10_has_17
set_option maxHeartbeats 4000000 in
set_option maxRecDepth 100000 in
/-- X10_get -/
theorem c_X10_get_look (l : Launch) (dC : Nat → ClassId) (dI : Nat → Nat → Nat) (h : Nat) (g : Nat → Nat → Nat) (ca : Nat → Nat → ClassId) (iv : Nat → Nat → Int32) (lv : Nat → Nat → Int64) (fa : Nat → Nat → Nat → Int32) (la : Nat → Nat → Nat → Int64) (hI : IX iv fa) (a : Int32) (h_a : 0 ≤ a.toInt ∧ a.toInt ≤ 59) : Met l yX10_get (wc yX10_get cX10_get 3 (some .int)) ({ frames := 0, cells := 0, slots := 0, locals := 0 } : Room) (pR (dC, dI) classes (WX h g ca iv lv fa la) (TX ca) [.ref (g 11 0), .int a, .int 1]) (vp_Si (fun r => 0 ≤ r.toInt ∧ r.toInt ≤ 2)) 0 0 (fun _ => False) := by
  refine Met.ofW (cc := cX10_get) (maxL := 3) (ret := (some .int)) (by decide) rfl ?_
  intro p e s m args below meth c s₁ B hml hv
  obtain ⟨rfl, hP, hK⟩ := hv
  have hx := B.exec
  have hb := B.bytes
  have hr := B.returns
  have ht := tb_tl (atoms_spec (ws := wc yX10_get cX10_get 3 (some .int)) B.pre)
  have hown : s.vm.findClass RX10 = some m.cls := findClass_of_methodNamed B.named
  have hlocks := B.notSynchronized
  have hl := lv_entry [.ref (g 11 0), .int a, .int 1] (n := 3) (Nat.le_of_ble_eq_true rfl)
  rw [lg_entry_eq]
  generalize (lg_sl [.ref (g 11 0), .int a, .int 1] ++ List.replicate (3 - (lg_sl [.ref (g 11 0), .int a, .int 1]).length) Slot.unset).toArray = ls at hl ⊢
  have hl : lv_has ls 3 [(0, .ref (g 11 0)), (1, .int a), (2, .int 1)] := hl
  refine lv_aload_n hx hb dX10_get_0 rfl (lv_at hl 0 rfl) ?_
  refine gX_10_0 hx hb ht hown hK hP m_111 dX10_get_1 ?_
  refine lv_iload_n hx hb dX10_get_4 rfl (lv_at hl 1 rfl) ?_
  refine lv_bipush (v := 9) hx hb dX10_get_5 (by decide) ?_
  refine lv_imul hx hb dX10_get_7 ?_
  refine lv_topi (fun v1 ev1 => ?_)
  have tv1 := z_mul ev1 (rfl : (a).toInt = _) (by decide : (9 : Int32).toInt = 9) (by omega) (by omega)
  refine lv_iload_n hx hb dX10_get_8 rfl (lv_at hl 2 rfl) ?_
  refine lv_iadd hx hb dX10_get_9 ?_
  refine lv_topi (fun v2 ev2 => ?_)
  have tv2 := z_add ev2 (rfl : (v1).toInt = _) (by decide : (1 : Int32).toInt = 1) (by omega) (by omega)
  refine lX_10_0 hx hb hK hP (f := (fa 10 0)) rfl (vp_in_iff.mpr ⟨by omega, by omega⟩) dX10_get_10 ?_
  refine lv_topi (fun v3 ev3 => ?_)
  have tv3 : 0 ≤ v3.toInt ∧ v3.toInt ≤ 2 := by rw [ev3]; exact row_r (hI.2 10 0 _) (row_i (a := a.toInt) (c := 1) (by omega) (by omega) (by omega))
  exact W.iret (v := v3) hx hb hr (fun t ht9 hW => ⟨v3, rfl, ⟨by omega, by omega⟩, ht9⟩) (fun q hq => by cases hq) dX10_get_11
set_option maxHeartbeats 4000000 in
set_option maxRecDepth 100000 in
/-- X10_get -/
theorem c_X10_get (l : Launch) (dC : Nat → ClassId) (dI : Nat → Nat → Nat) (h : Nat) (g : Nat → Nat → Nat) (ca : Nat → Nat → ClassId) (iv : Nat → Nat → Int32) (lv : Nat → Nat → Int64) (fa : Nat → Nat → Nat → Int32) (la : Nat → Nat → Nat → Int64) (hI : IX iv fa) (a : Int32) (b : Int32) (h_a : 0 ≤ a.toInt ∧ a.toInt ≤ 59) (h_b : 0 ≤ b.toInt ∧ b.toInt ≤ 8) : Met l yX10_get (wc yX10_get cX10_get 3 (some .int)) ({ frames := 0, cells := 0, slots := 0, locals := 0 } : Room) (pR (dC, dI) classes (WX h g ca iv lv fa la) (TX ca) [.ref (g 11 0), .int a, .int b]) (vp_Si (fun r => True)) 0 0 (fun _ => False) := by
  refine Met.ofW (cc := cX10_get) (maxL := 3) (ret := (some .int)) (by decide) rfl ?_
  intro p e s m args below meth c s₁ B hml hv
  obtain ⟨rfl, hP, hK⟩ := hv
  have hx := B.exec
  have hb := B.bytes
  have hr := B.returns
  have ht := tb_tl (atoms_spec (ws := wc yX10_get cX10_get 3 (some .int)) B.pre)
  have hown : s.vm.findClass RX10 = some m.cls := findClass_of_methodNamed B.named
  have hlocks := B.notSynchronized
  have hl := lv_entry [.ref (g 11 0), .int a, .int b] (n := 3) (Nat.le_of_ble_eq_true rfl)
  rw [lg_entry_eq]
  generalize (lg_sl [.ref (g 11 0), .int a, .int b] ++ List.replicate (3 - (lg_sl [.ref (g 11 0), .int a, .int b]).length) Slot.unset).toArray = ls at hl ⊢
  have hl : lv_has ls 3 [(0, .ref (g 11 0)), (1, .int a), (2, .int b)] := hl
  refine lv_aload_n hx hb dX10_get_0 rfl (lv_at hl 0 rfl) ?_
  refine gX_10_0 hx hb ht hown hK hP m_111 dX10_get_1 ?_
  refine lv_iload_n hx hb dX10_get_4 rfl (lv_at hl 1 rfl) ?_
  refine lv_bipush (v := 9) hx hb dX10_get_5 (by decide) ?_
  refine lv_imul hx hb dX10_get_7 ?_
  refine lv_topi (fun v1 ev1 => ?_)
  have tv1 := z_mul ev1 (rfl : (a).toInt = _) (by decide : (9 : Int32).toInt = 9) (by omega) (by omega)
  refine lv_iload_n hx hb dX10_get_8 rfl (lv_at hl 2 rfl) ?_
  refine lv_iadd hx hb dX10_get_9 ?_
  refine lv_topi (fun v2 ev2 => ?_)
  have tv2 := z_add ev2 (rfl : (v1).toInt = _) (rfl : (b).toInt = _) (by omega) (by omega)
  refine lX_10_0 hx hb hK hP (f := (fa 10 0)) rfl (vp_in_iff.mpr ⟨by omega, by omega⟩) dX10_get_10 ?_
  refine lv_topi (fun v3 ev3 => ?_)
  exact W.iret (v := v3) hx hb hr (fun t ht9 hW => ⟨v3, rfl, trivial, ht9⟩) (fun q hq => by cases hq) dX10_get_11
set_option maxHeartbeats 4000000 in
set_option maxRecDepth 100000 in
/-- X10_isOf -/
theorem c_X10_isOf (l : Launch) (dC : Nat → ClassId) (dI : Nat → Nat → Nat) (h : Nat) (g : Nat → Nat → Nat) (ca : Nat → Nat → ClassId) (iv : Nat → Nat → Int32) (lv : Nat → Nat → Int64) (fa : Nat → Nat → Nat → Int32) (la : Nat → Nat → Nat → Int64) (hI : IX iv fa) (a : Int32) (b : Int32) (d : Int32) (h_a : 0 ≤ a.toInt ∧ a.toInt ≤ 59) : Met l yX10_isOf (wc yX10_isOf cX10_isOf 4 (some .boolean)) ({ frames := 1, cells := 0, slots := 0, locals := 22 } : Room) (pR (dC, dI) classes (WX h g ca iv lv fa la) (TX ca) [.ref (g 11 0), .int a, .int b, .int d]) (vp_Si (fun r => 0 ≤ r.toInt ∧ r.toInt ≤ 1)) 0 0 (fun _ => False) := by
  refine Met.ofW (cc := cX10_isOf) (maxL := 4) (ret := (some .boolean)) (by decide) rfl ?_
  intro p e s m args below meth c s₁ B hml hv
  obtain ⟨rfl, hP, hK⟩ := hv
  have hx := B.exec
  have hb := B.bytes
  have hr := B.returns
  have ht := tb_tl (atoms_spec (ws := wc yX10_isOf cX10_isOf 4 (some .boolean)) B.pre)
  have hown : s.vm.findClass RX10 = some m.cls := findClass_of_methodNamed B.named
  have hlocks := B.notSynchronized
  have hl := lv_entry [.ref (g 11 0), .int a, .int b, .int d] (n := 4) (Nat.le_of_ble_eq_true rfl)
  rw [lg_entry_eq]
  generalize (lg_sl [.ref (g 11 0), .int a, .int b, .int d] ++ List.replicate (4 - (lg_sl [.ref (g 11 0), .int a, .int b, .int d]).length) Slot.unset).toArray = ls at hl ⊢
  have hl : lv_has ls 4 [(0, .ref (g 11 0)), (1, .int a), (2, .int b), (3, .int d)] := hl
  refine lv_aload_n hx hb dX10_isOf_0 rfl (lv_at hl 0 rfl) ?_
  refine lv_iload_n hx hb dX10_isOf_1 rfl (lv_at hl 1 rfl) ?_
  refine lv_iconst (v := 0) hx hb dX10_isOf_2 (by decide) ?_
  refine vp_callSi (W.runV (As := [.int a, .int 0]) (rest := []) ⟨hx, hb, hml, hown, ht⟩ (c_X10_get l dC dI h g ca iv lv fa la hI a 0 ⟨by omega, by omega⟩ ⟨by decide, by decide⟩) (kV 2 ht m_485 m_486 m_487 m_78 m_488 rfl rfl hd_X10_get_v ⟨Nat.le_of_ble_eq_true rfl, Nat.le_of_ble_eq_true rfl⟩) (vR hP hK (rX_10 hK hP)) rfl rfl hl.1 rfl (lv_room (Nat.le_of_ble_eq_true rfl)) dX10_isOf_3 ⟨Nat.le_of_ble_eq_true rfl, Nat.le_of_ble_eq_true rfl⟩) (fun r1 hr1 => ?_)
  refine lv_iload_n hx hb dX10_isOf_6 rfl (lv_at hl 2 rfl) ?_
  refine lv_icmp_ne (tgt := 24) hx hb dX10_isOf_7 (by decide) (fun c2 => ?_) (fun c2 => ?_)
  · have fc2 := z_ne (rfl : (r1).toInt = _) (rfl : (b).toInt = _) c2
    refine lv_iconst (v := 0) hx hb dX10_isOf_24 (by decide) ?_
    exact W.zret (v := 0) hx hb hr rfl (fun t ht9 hW => ⟨0, rfl, ⟨by decide, by decide⟩, ht9⟩) (fun q hq => by cases hq) dX10_isOf_25
  · have fc2 := z_eq (rfl : (r1).toInt = _) (rfl : (b).toInt = _) c2
    refine lv_aload_n hx hb dX10_isOf_10 rfl (lv_at hl 0 rfl) ?_
    refine lv_iload_n hx hb dX10_isOf_11 rfl (lv_at hl 1 rfl) ?_
    refine lv_iconst (v := 1) hx hb dX10_isOf_12 (by decide) ?_
    refine vp_callSi (W.runV (As := [.int a, .int 1]) (rest := []) ⟨hx, hb, hml, hown, ht⟩ (c_X10_get_look l dC dI h g ca iv lv fa la hI a ⟨by omega, by omega⟩) (kV 2 ht m_485 m_486 m_487 m_78 m_488 rfl rfl hd_X10_get_v ⟨Nat.le_of_ble_eq_true rfl, Nat.le_of_ble_eq_true rfl⟩) (vR hP hK (rX_10 hK hP)) rfl rfl hl.1 rfl (lv_room (Nat.le_of_ble_eq_true rfl)) dX10_isOf_13 ⟨Nat.le_of_ble_eq_true rfl, Nat.le_of_ble_eq_true rfl⟩) (fun r3 hr3 => ?_)
    refine lv_iload_n hx hb dX10_isOf_16 rfl (lv_at hl 3 rfl) ?_
    refine lv_icmp_ne (tgt := 24) hx hb dX10_isOf_17 (by decide) (fun c4 => ?_) (fun c4 => ?_)
    · have fc4 := z_ne (rfl : (r3).toInt = _) (rfl : (d).toInt = _) c4
      refine lv_iconst (v := 0) hx hb dX10_isOf_24 (by decide) ?_
      exact W.zret (v := 0) hx hb hr rfl (fun t ht9 hW => ⟨0, rfl, ⟨by decide, by decide⟩, ht9⟩) (fun q hq => by cases hq) dX10_isOf_25
    · have fc4 := z_eq (rfl : (r3).toInt = _) (rfl : (d).toInt = _) c4
      refine lv_iconst (v := 1) hx hb dX10_isOf_20 (by decide) ?_
      refine lv_goto (tgt := 25) hx hb dX10_isOf_21 (by decide) ?_
      exact W.zret (v := 1) hx hb hr rfl (fun t ht9 hW => ⟨1, rfl, ⟨by decide, by decide⟩, ht9⟩) (fun q hq => by cases hq) dX10_isOf_25
set_option maxHeartbeats 4000000 in
set_option maxRecDepth 100000 in
/-- X10_counts -/
theorem c_X10_counts (l : Launch) (dC : Nat → ClassId) (dI : Nat → Nat → Nat) (h : Nat) (g : Nat → Nat → Nat) (ca : Nat → Nat → ClassId) (iv : Nat → Nat → Int32) (lv : Nat → Nat → Int64) (fa : Nat → Nat → Nat → Int32) (la : Nat → Nat → Nat → Int64) (hI : IX iv fa) (a : Int32) (b : Int32) (h_a : 0 ≤ a.toInt ∧ a.toInt ≤ 59) : Met l yX10_counts (wc yX10_counts cX10_counts 3 (some .boolean)) ({ frames := 1, cells := 0, slots := 0, locals := 22 } : Room) (pR (dC, dI) classes (WX h g ca iv lv fa la) (TX ca) [.ref (g 11 0), .int a, .int b]) (vp_Si (fun r => 0 ≤ r.toInt ∧ r.toInt ≤ 1)) 0 0 (fun _ => False) := by
  refine Met.ofW (cc := cX10_counts) (maxL := 3) (ret := (some .boolean)) (by decide) rfl ?_
  intro p e s m args below meth c s₁ B hml hv
  obtain ⟨rfl, hP, hK⟩ := hv
  have hx := B.exec
  have hb := B.bytes
  have hr := B.returns
  have ht := tb_tl (atoms_spec (ws := wc yX10_counts cX10_counts 3 (some .boolean)) B.pre)
  have hown : s.vm.findClass RX10 = some m.cls := findClass_of_methodNamed B.named
  have hlocks := B.notSynchronized
  have hl := lv_entry [.ref (g 11 0), .int a, .int b] (n := 3) (Nat.le_of_ble_eq_true rfl)
  rw [lg_entry_eq]
  generalize (lg_sl [.ref (g 11 0), .int a, .int b] ++ List.replicate (3 - (lg_sl [.ref (g 11 0), .int a, .int b]).length) Slot.unset).toArray = ls at hl ⊢
  have hl : lv_has ls 3 [(0, .ref (g 11 0)), (1, .int a), (2, .int b)] := hl
  refine lv_aload_n hx hb dX10_counts_0 rfl (lv_at hl 0 rfl) ?_
  refine lv_iload_n hx hb dX10_counts_1 rfl (lv_at hl 1 rfl) ?_
  refine lv_bipush (v := 7) hx hb dX10_counts_2 (by decide) ?_
  refine vp_callSi (W.runV (As := [.int a, .int 7]) (rest := []) ⟨hx, hb, hml, hown, ht⟩ (c_X10_get l dC dI h g ca iv lv fa la hI a 7 ⟨by omega, by omega⟩ ⟨by decide, by decide⟩) (kV 2 ht m_485 m_486 m_487 m_78 m_488 rfl rfl hd_X10_get_v ⟨Nat.le_of_ble_eq_true rfl, Nat.le_of_ble_eq_true rfl⟩) (vR hP hK (rX_10 hK hP)) rfl rfl hl.1 rfl (lv_room (Nat.le_of_ble_eq_true rfl)) dX10_counts_4 ⟨Nat.le_of_ble_eq_true rfl, Nat.le_of_ble_eq_true rfl⟩) (fun r1 hr1 => ?_)
  refine lv_iload_n hx hb dX10_counts_7 rfl (lv_at hl 2 rfl) ?_
  refine lv_icmp_gt (tgt := 37) hx hb dX10_counts_8 (by decide) (fun c2 => ?_) (fun c2 => ?_)
  · have fc2 := z_lt (rfl : (b).toInt = _) (rfl : (r1).toInt = _) c2
    refine lv_iconst (v := 0) hx hb dX10_counts_37 (by decide) ?_
    exact W.zret (v := 0) hx hb hr rfl (fun t ht9 hW => ⟨0, rfl, ⟨by decide, by decide⟩, ht9⟩) (fun q hq => by cases hq) dX10_counts_38
  · have fc2 := z_nlt (rfl : (b).toInt = _) (rfl : (r1).toInt = _) c2
    refine lv_aload_n hx hb dX10_counts_11 rfl (lv_at hl 0 rfl) ?_
    refine lv_iload_n hx hb dX10_counts_12 rfl (lv_at hl 1 rfl) ?_
    refine lv_bipush (v := 8) hx hb dX10_counts_13 (by decide) ?_
    refine vp_callSi (W.runV (As := [.int a, .int 8]) (rest := []) ⟨hx, hb, hml, hown, ht⟩ (c_X10_get l dC dI h g ca iv lv fa la hI a 8 ⟨by omega, by omega⟩ ⟨by decide, by decide⟩) (kV 2 ht m_485 m_486 m_487 m_78 m_488 rfl rfl hd_X10_get_v ⟨Nat.le_of_ble_eq_true rfl, Nat.le_of_ble_eq_true rfl⟩) (vR hP hK (rX_10 hK hP)) rfl rfl hl.1 rfl (lv_room (Nat.le_of_ble_eq_true rfl)) dX10_counts_15 ⟨Nat.le_of_ble_eq_true rfl, Nat.le_of_ble_eq_true rfl⟩) (fun r3 hr3 => ?_)
    refine lv_iconst (v := (-1)) hx hb dX10_counts_18 (by decide) ?_
    refine lv_icmp_eq (tgt := 33) hx hb dX10_counts_19 (by decide) (fun c4 => ?_) (fun c4 => ?_)
    · have fc4 := z_eq (rfl : (r3).toInt = _) (by decide : ((-1) : Int32).toInt = (-1)) c4
      refine lv_iconst (v := 1) hx hb dX10_counts_33 (by decide) ?_
      refine lv_goto (tgt := 38) hx hb dX10_counts_34 (by decide) ?_
      exact W.zret (v := 1) hx hb hr rfl (fun t ht9 hW => ⟨1, rfl, ⟨by decide, by decide⟩, ht9⟩) (fun q hq => by cases hq) dX10_counts_38
    · have fc4 := z_ne (rfl : (r3).toInt = _) (by decide : ((-1) : Int32).toInt = (-1)) c4
      refine lv_aload_n hx hb dX10_counts_22 rfl (lv_at hl 0 rfl) ?_
      refine lv_iload_n hx hb dX10_counts_23 rfl (lv_at hl 1 rfl) ?_
      refine lv_bipush (v := 8) hx hb dX10_counts_24 (by decide) ?_
      refine vp_callSi (W.runV (As := [.int a, .int 8]) (rest := []) ⟨hx, hb, hml, hown, ht⟩ (c_X10_get l dC dI h g ca iv lv fa la hI a 8 ⟨by omega, by omega⟩ ⟨by decide, by decide⟩) (kV 2 ht m_485 m_486 m_487 m_78 m_488 rfl rfl hd_X10_get_v ⟨Nat.le_of_ble_eq_true rfl, Nat.le_of_ble_eq_true rfl⟩) (vR hP hK (rX_10 hK hP)) rfl rfl hl.1 rfl (lv_room (Nat.le_of_ble_eq_true rfl)) dX10_counts_26 ⟨Nat.le_of_ble_eq_true rfl, Nat.le_of_ble_eq_true rfl⟩) (fun r5 hr5 => ?_)
      refine lv_iload_n hx hb dX10_counts_29 rfl (lv_at hl 2 rfl) ?_
      refine lv_icmp_le (tgt := 37) hx hb dX10_counts_30 (by decide) (fun c6 => ?_) (fun c6 => ?_)
      · have fc6 := z_le (rfl : (r5).toInt = _) (rfl : (b).toInt = _) c6
        refine lv_iconst (v := 0) hx hb dX10_counts_37 (by decide) ?_
        exact W.zret (v := 0) hx hb hr rfl (fun t ht9 hW => ⟨0, rfl, ⟨by decide, by decide⟩, ht9⟩) (fun q hq => by cases hq) dX10_counts_38
      · have fc6 := z_nle (rfl : (r5).toInt = _) (rfl : (b).toInt = _) c6
        refine lv_iconst (v := 1) hx hb dX10_counts_33 (by decide) ?_
        refine lv_goto (tgt := 38) hx hb dX10_counts_34 (by decide) ?_
        exact W.zret (v := 1) hx hb hr rfl (fun t ht9 hW => ⟨1, rfl, ⟨by decide, by decide⟩, ht9⟩) (fun q hq => by cases hq) dX10_counts_38
/-! ===== scales ===== -/
set_option maxRecDepth 100000 in
theorem m_1 : Cond.selects RX9 yX9_lastBy yX9_lastBy ∈ tb := tb_in 1 (by decide +kernel) rfl
set_option maxRecDepth 100000 in
theorem m_2 : Cond.selects RX9 yX9_firstAfter yX9_firstAfter ∈ tb := tb_in 2 (by decide +kernel) rfl
set_option maxRecDepth 100000 in
theorem m_3 : Cond.selects RX9 yX9_driftOf yX9_driftOf ∈ tb := tb_in 3 (by decide +kernel) rfl
theorem m_79 : Cond.initialized RX9 ∈ tb := mb_1_0 _ (List.mem_of_getElem? (i := 2) rfl)
theorem m_90 : Cond.initialized "java/lang/Math" ∈ tb := mb_1_0 _ (List.mem_of_getElem? (i := 13) rfl)
theorem m_132 : Cond.fieldLink RX9 11 "SilkHouse$Scales" "scale" "[I" ∈ tb := mb_1_1 _ (List.mem_of_getElem? (i := 21) rfl)
theorem m_133 : Cond.fieldLink RX9 15 "SilkHouse$Scales" "day" "[I" ∈ tb := mb_1_1 _ (List.mem_of_getElem? (i := 22) rfl)
theorem m_134 : Cond.fieldLink RX9 18 "SilkHouse$Scales" "drift" "[I" ∈ tb := mb_1_1 _ (List.mem_of_getElem? (i := 23) rfl)
theorem m_135 : Cond.fieldLink RX9 21 "SilkHouse$Scales" "number" "I" ∈ tb := mb_1_2 _ (List.mem_of_getElem? (i := 0) rfl)
theorem m_538 : Cond.methodLink RX9 25 yX9_lastBy ∈ tb := mb_2_5 _ (List.mem_of_getElem? (i := 23) rfl)
theorem m_540 : Cond.instanceMethod yX9_lastBy ∈ tb := mb_2_6 _ (List.mem_of_getElem? (i := 0) rfl)
theorem m_541 : Cond.code yX9_lastBy cX9_lastBy 5 (some .int) ∈ tb := mb_2_6 _ (List.mem_of_getElem? (i := 1) rfl)
theorem m_542 : Cond.methodLink RX9 29 yX9_firstAfter ∈ tb := mb_2_6 _ (List.mem_of_getElem? (i := 2) rfl)
theorem m_544 : Cond.instanceMethod yX9_firstAfter ∈ tb := mb_2_6 _ (List.mem_of_getElem? (i := 3) rfl)
theorem m_545 : Cond.code yX9_firstAfter cX9_firstAfter 4 (some .int) ∈ tb := mb_2_6 _ (List.mem_of_getElem? (i := 4) rfl)
theorem m_546 : Cond.methodLink RX9 32 yX9_driftOf ∈ tb := mb_2_6 _ (List.mem_of_getElem? (i := 5) rfl)
theorem m_548 : Cond.instanceMethod yX9_driftOf ∈ tb := mb_2_6 _ (List.mem_of_getElem? (i := 6) rfl)
theorem m_549 : Cond.code yX9_driftOf cX9_driftOf 3 (some .int) ∈ tb := mb_2_6 _ (List.mem_of_getElem? (i := 7) rfl)
theorem m_550 : Cond.methodLink RX9 35 Lib.Math.min.name ∈ tb := mb_2_6 _ (List.mem_of_getElem? (i := 8) rfl)
theorem m_551 : Cond.static Lib.Math.min.name ∈ tb := mb_2_6 _ (List.mem_of_getElem? (i := 9) rfl)
theorem m_552 : Cond.code Lib.Math.min.name Lib.Math.min.code 2 (some .int) ∈ tb := mb_2_6 _ (List.mem_of_getElem? (i := 10) rfl)
theorem m_557 : Cond.methodLink RX9 40 Lib.Math.max.name ∈ tb := mb_3_0 _ (List.mem_of_getElem? (i := 1) rfl)
theorem m_558 : Cond.static Lib.Math.max.name ∈ tb := mb_3_0 _ (List.mem_of_getElem? (i := 2) rfl)
theorem m_559 : Cond.code Lib.Math.max.name Lib.Math.max.code 2 (some .int) ∈ tb := mb_3_0 _ (List.mem_of_getElem? (i := 3) rfl)
theorem hd_X9_driftOf_v : yX9_driftOf.cls = RX9 ∧ yX9_driftOf.cls ≠ "java/lang/invoke/MethodHandle" ∧ yX9_driftOf.cls ≠ "java/lang/invoke/VarHandle" ∧ (parseMethodDescriptor yX9_driftOf.desc).map (fun d => d.parameters.length) = some 2 := by decide +kernel
theorem hd_X9_firstAfter_v : yX9_firstAfter.cls = RX9 ∧ yX9_firstAfter.cls ≠ "java/lang/invoke/MethodHandle" ∧ yX9_firstAfter.cls ≠ "java/lang/invoke/VarHandle" ∧ (parseMethodDescriptor yX9_firstAfter.desc).map (fun d => d.parameters.length) = some 2 := by decide +kernel
theorem hd_X9_lastBy_v : yX9_lastBy.cls = RX9 ∧ yX9_lastBy.cls ≠ "java/lang/invoke/MethodHandle" ∧ yX9_lastBy.cls ≠ "java/lang/invoke/VarHandle" ∧ (parseMethodDescriptor yX9_lastBy.desc).map (fun d => d.parameters.length) = some 2 := by decide +kernel
set_option maxRecDepth 100000 in
theorem dvX9_driftOf_0 : ([(0, .iload_n 1, 1), (1, .iconst (-1), 1), (2, .if_icmp .eq 10, 3), (5, .aload_n 0, 1), (6, .getfield 18, 3), (9, .iload_n 1, 1), (10, .iaload, 1), (11, .ireturn, 1), (12, .iload_n 2, 1), (13, .iconst (-1), 1), (14, .if_icmp .ne 7, 3), (17, .iconst 0, 1), (18, .goto 9, 3), (21, .aload_n 0, 1), (22, .getfield 18, 3), (25, .iload_n 2, 1), (26, .iaload, 1), (27, .ireturn, 1)] : List (Nat × Instr × Nat)).all (fun q => decide (decode cX9_driftOf q.1 = .ok (q.2.1, q.2.2))) = true := by decide +kernel
theorem dX9_driftOf_0 : decode cX9_driftOf 0 = .ok (.iload_n 1, 1) := all_at dvX9_driftOf_0 0 rfl
theorem dX9_driftOf_1 : decode cX9_driftOf 1 = .ok (.iconst (-1), 1) := all_at dvX9_driftOf_0 1 rfl
theorem dX9_driftOf_2 : decode cX9_driftOf 2 = .ok (.if_icmp .eq 10, 3) := all_at dvX9_driftOf_0 2 rfl
theorem dX9_driftOf_5 : decode cX9_driftOf 5 = .ok (.aload_n 0, 1) := all_at dvX9_driftOf_0 3 rfl
theorem dX9_driftOf_6 : decode cX9_driftOf 6 = .ok (.getfield 18, 3) := all_at dvX9_driftOf_0 4 rfl
theorem dX9_driftOf_9 : decode cX9_driftOf 9 = .ok (.iload_n 1, 1) := all_at dvX9_driftOf_0 5 rfl
theorem dX9_driftOf_10 : decode cX9_driftOf 10 = .ok (.iaload, 1) := all_at dvX9_driftOf_0 6 rfl
theorem dX9_driftOf_11 : decode cX9_driftOf 11 = .ok (.ireturn, 1) := all_at dvX9_driftOf_0 7 rfl
theorem dX9_driftOf_12 : decode cX9_driftOf 12 = .ok (.iload_n 2, 1) := all_at dvX9_driftOf_0 8 rfl
theorem dX9_driftOf_13 : decode cX9_driftOf 13 = .ok (.iconst (-1), 1) := all_at dvX9_driftOf_0 9 rfl
theorem dX9_driftOf_14 : decode cX9_driftOf 14 = .ok (.if_icmp .ne 7, 3) := all_at dvX9_driftOf_0 10 rfl
theorem dX9_driftOf_17 : decode cX9_driftOf 17 = .ok (.iconst 0, 1) := all_at dvX9_driftOf_0 11 rfl
theorem dX9_driftOf_18 : decode cX9_driftOf 18 = .ok (.goto 9, 3) := all_at dvX9_driftOf_0 12 rfl
theorem dX9_driftOf_21 : decode cX9_driftOf 21 = .ok (.aload_n 0, 1) := all_at dvX9_driftOf_0 13 rfl
theorem dX9_driftOf_22 : decode cX9_driftOf 22 = .ok (.getfield 18, 3) := all_at dvX9_driftOf_0 14 rfl
theorem dX9_driftOf_25 : decode cX9_driftOf 25 = .ok (.iload_n 2, 1) := all_at dvX9_driftOf_0 15 rfl
theorem dX9_driftOf_26 : decode cX9_driftOf 26 = .ok (.iaload, 1) := all_at dvX9_driftOf_0 16 rfl
theorem dX9_driftOf_27 : decode cX9_driftOf 27 = .ok (.ireturn, 1) := all_at dvX9_driftOf_0 17 rfl
set_option maxRecDepth 100000 in
theorem dvX9_firstAfter_0 : ([(0, .iconst 0, 1), (1, .istore_n 3, 1), (2, .iload_n 3, 1), (3, .aload_n 0, 1), (4, .getfield 21, 3), (7, .if_icmp .ge 31, 3), (10, .aload_n 0, 1), (11, .getfield 11, 3), (14, .iload_n 3, 1), (15, .iaload, 1), (16, .iload_n 1, 1), (17, .if_icmp .ne 15, 3), (20, .aload_n 0, 1), (21, .getfield 15, 3), (24, .iload_n 3, 1), (25, .iaload, 1), (26, .iload_n 2, 1), (27, .if_icmp .le 5, 3), (30, .iload_n 3, 1), (31, .ireturn, 1), (32, .iinc 3 1, 3), (35, .goto (-33), 3), (38, .iconst (-1), 1), (39, .ireturn, 1)] : List (Nat × Instr × Nat)).all (fun q => decide (decode cX9_firstAfter q.1 = .ok (q.2.1, q.2.2))) = true := by decide +kernel
theorem dX9_firstAfter_0 : decode cX9_firstAfter 0 = .ok (.iconst 0, 1) := all_at dvX9_firstAfter_0 0 rfl
theorem dX9_firstAfter_1 : decode cX9_firstAfter 1 = .ok (.istore_n 3, 1) := all_at dvX9_firstAfter_0 1 rfl
theorem dX9_firstAfter_2 : decode cX9_firstAfter 2 = .ok (.iload_n 3, 1) := all_at dvX9_firstAfter_0 2 rfl
theorem dX9_firstAfter_3 : decode cX9_firstAfter 3 = .ok (.aload_n 0, 1) := all_at dvX9_firstAfter_0 3 rfl
theorem dX9_firstAfter_4 : decode cX9_firstAfter 4 = .ok (.getfield 21, 3) := all_at dvX9_firstAfter_0 4 rfl
theorem dX9_firstAfter_7 : decode cX9_firstAfter 7 = .ok (.if_icmp .ge 31, 3) := all_at dvX9_firstAfter_0 5 rfl
theorem dX9_firstAfter_10 : decode cX9_firstAfter 10 = .ok (.aload_n 0, 1) := all_at dvX9_firstAfter_0 6 rfl
theorem dX9_firstAfter_11 : decode cX9_firstAfter 11 = .ok (.getfield 11, 3) := all_at dvX9_firstAfter_0 7 rfl
theorem dX9_firstAfter_14 : decode cX9_firstAfter 14 = .ok (.iload_n 3, 1) := all_at dvX9_firstAfter_0 8 rfl
theorem dX9_firstAfter_15 : decode cX9_firstAfter 15 = .ok (.iaload, 1) := all_at dvX9_firstAfter_0 9 rfl
theorem dX9_firstAfter_16 : decode cX9_firstAfter 16 = .ok (.iload_n 1, 1) := all_at dvX9_firstAfter_0 10 rfl
theorem dX9_firstAfter_17 : decode cX9_firstAfter 17 = .ok (.if_icmp .ne 15, 3) := all_at dvX9_firstAfter_0 11 rfl
theorem dX9_firstAfter_20 : decode cX9_firstAfter 20 = .ok (.aload_n 0, 1) := all_at dvX9_firstAfter_0 12 rfl
theorem dX9_firstAfter_21 : decode cX9_firstAfter 21 = .ok (.getfield 15, 3) := all_at dvX9_firstAfter_0 13 rfl
theorem dX9_firstAfter_24 : decode cX9_firstAfter 24 = .ok (.iload_n 3, 1) := all_at dvX9_firstAfter_0 14 rfl
theorem dX9_firstAfter_25 : decode cX9_firstAfter 25 = .ok (.iaload, 1) := all_at dvX9_firstAfter_0 15 rfl
theorem dX9_firstAfter_26 : decode cX9_firstAfter 26 = .ok (.iload_n 2, 1) := all_at dvX9_firstAfter_0 16 rfl
theorem dX9_firstAfter_27 : decode cX9_firstAfter 27 = .ok (.if_icmp .le 5, 3) := all_at dvX9_firstAfter_0 17 rfl
theorem dX9_firstAfter_30 : decode cX9_firstAfter 30 = .ok (.iload_n 3, 1) := all_at dvX9_firstAfter_0 18 rfl
theorem dX9_firstAfter_31 : decode cX9_firstAfter 31 = .ok (.ireturn, 1) := all_at dvX9_firstAfter_0 19 rfl
theorem dX9_firstAfter_32 : decode cX9_firstAfter 32 = .ok (.iinc 3 1, 3) := all_at dvX9_firstAfter_0 20 rfl
theorem dX9_firstAfter_35 : decode cX9_firstAfter 35 = .ok (.goto (-33), 3) := all_at dvX9_firstAfter_0 21 rfl
theorem dX9_firstAfter_38 : decode cX9_firstAfter 38 = .ok (.iconst (-1), 1) := all_at dvX9_firstAfter_0 22 rfl
theorem dX9_firstAfter_39 : decode cX9_firstAfter 39 = .ok (.ireturn, 1) := all_at dvX9_firstAfter_0 23 rfl
set_option maxRecDepth 100000 in
theorem dvX9_greatest_0 : ([(0, .aload_n 0, 1), (1, .iload_n 1, 1), (2, .iload_n 2, 1), (3, .invokevirtual 25, 3), (6, .istore_n 3, 1), (7, .aload_n 0, 1), (8, .iload_n 1, 1), (9, .iload_n 2, 1), (10, .invokevirtual 29, 3), (13, .istore 4, 2), (15, .aload_n 0, 1), (16, .iload_n 3, 1), (17, .iload 4, 2), (19, .invokevirtual 32, 3), (22, .aload_n 0, 1), (23, .iload 4, 2), (25, .iload_n 3, 1), (26, .invokevirtual 32, 3), (29, .invokestatic 40, 3), (32, .ireturn, 1)] : List (Nat × Instr × Nat)).all (fun q => decide (decode cX9_greatest q.1 = .ok (q.2.1, q.2.2))) = true := by decide +kernel
theorem dX9_greatest_0 : decode cX9_greatest 0 = .ok (.aload_n 0, 1) := all_at dvX9_greatest_0 0 rfl
theorem dX9_greatest_1 : decode cX9_greatest 1 = .ok (.iload_n 1, 1) := all_at dvX9_greatest_0 1 rfl
theorem dX9_greatest_2 : decode cX9_greatest 2 = .ok (.iload_n 2, 1) := all_at dvX9_greatest_0 2 rfl
theorem dX9_greatest_3 : decode cX9_greatest 3 = .ok (.invokevirtual 25, 3) := all_at dvX9_greatest_0 3 rfl
theorem dX9_greatest_6 : decode cX9_greatest 6 = .ok (.istore_n 3, 1) := all_at dvX9_greatest_0 4 rfl
theorem dX9_greatest_7 : decode cX9_greatest 7 = .ok (.aload_n 0, 1) := all_at dvX9_greatest_0 5 rfl
theorem dX9_greatest_8 : decode cX9_greatest 8 = .ok (.iload_n 1, 1) := all_at dvX9_greatest_0 6 rfl
theorem dX9_greatest_9 : decode cX9_greatest 9 = .ok (.iload_n 2, 1) := all_at dvX9_greatest_0 7 rfl
theorem dX9_greatest_10 : decode cX9_greatest 10 = .ok (.invokevirtual 29, 3) := all_at dvX9_greatest_0 8 rfl
theorem dX9_greatest_13 : decode cX9_greatest 13 = .ok (.istore 4, 2) := all_at dvX9_greatest_0 9 rfl
theorem dX9_greatest_15 : decode cX9_greatest 15 = .ok (.aload_n 0, 1) := all_at dvX9_greatest_0 10 rfl
theorem dX9_greatest_16 : decode cX9_greatest 16 = .ok (.iload_n 3, 1) := all_at dvX9_greatest_0 11 rfl
theorem dX9_greatest_17 : decode cX9_greatest 17 = .ok (.iload 4, 2) := all_at dvX9_greatest_0 12 rfl
theorem dX9_greatest_19 : decode cX9_greatest 19 = .ok (.invokevirtual 32, 3) := all_at dvX9_greatest_0 13 rfl
theorem dX9_greatest_22 : decode cX9_greatest 22 = .ok (.aload_n 0, 1) := all_at dvX9_greatest_0 14 rfl
theorem dX9_greatest_23 : decode cX9_greatest 23 = .ok (.iload 4, 2) := all_at dvX9_greatest_0 15 rfl
theorem dX9_greatest_25 : decode cX9_greatest 25 = .ok (.iload_n 3, 1) := all_at dvX9_greatest_0 16 rfl
theorem dX9_greatest_26 : decode cX9_greatest 26 = .ok (.invokevirtual 32, 3) := all_at dvX9_greatest_0 17 rfl
theorem dX9_greatest_29 : decode cX9_greatest 29 = .ok (.invokestatic 40, 3) := all_at dvX9_greatest_0 18 rfl
theorem dX9_greatest_32 : decode cX9_greatest 32 = .ok (.ireturn, 1) := all_at dvX9_greatest_0 19 rfl
set_option maxRecDepth 100000 in
theorem dvX9_lastBy_0 : ([(0, .iconst (-1), 1), (1, .istore_n 3, 1), (2, .iconst 0, 1), (3, .istore 4, 2), (5, .iload 4, 2), (7, .aload_n 0, 1), (8, .getfield 21, 3), (11, .if_icmp .ge 34, 3), (14, .aload_n 0, 1), (15, .getfield 11, 3), (18, .iload 4, 2), (20, .iaload, 1), (21, .iload_n 1, 1), (22, .if_icmp .ne 17, 3), (25, .aload_n 0, 1), (26, .getfield 15, 3), (29, .iload 4, 2), (31, .iaload, 1), (32, .iload_n 2, 1), (33, .if_icmp .gt 6, 3), (36, .iload 4, 2), (38, .istore_n 3, 1), (39, .iinc 4 1, 3), (42, .goto (-37), 3)] : List (Nat × Instr × Nat)).all (fun q => decide (decode cX9_lastBy q.1 = .ok (q.2.1, q.2.2))) = true := by decide +kernel
theorem dX9_lastBy_0 : decode cX9_lastBy 0 = .ok (.iconst (-1), 1) := all_at dvX9_lastBy_0 0 rfl
theorem dX9_lastBy_1 : decode cX9_lastBy 1 = .ok (.istore_n 3, 1) := all_at dvX9_lastBy_0 1 rfl
theorem dX9_lastBy_2 : decode cX9_lastBy 2 = .ok (.iconst 0, 1) := all_at dvX9_lastBy_0 2 rfl
theorem dX9_lastBy_3 : decode cX9_lastBy 3 = .ok (.istore 4, 2) := all_at dvX9_lastBy_0 3 rfl
theorem dX9_lastBy_5 : decode cX9_lastBy 5 = .ok (.iload 4, 2) := all_at dvX9_lastBy_0 4 rfl
theorem dX9_lastBy_7 : decode cX9_lastBy 7 = .ok (.aload_n 0, 1) := all_at dvX9_lastBy_0 5 rfl
theorem dX9_lastBy_8 : decode cX9_lastBy 8 = .ok (.getfield 21, 3) := all_at dvX9_lastBy_0 6 rfl
theorem dX9_lastBy_11 : decode cX9_lastBy 11 = .ok (.if_icmp .ge 34, 3) := all_at dvX9_lastBy_0 7 rfl
theorem dX9_lastBy_14 : decode cX9_lastBy 14 = .ok (.aload_n 0, 1) := all_at dvX9_lastBy_0 8 rfl
theorem dX9_lastBy_15 : decode cX9_lastBy 15 = .ok (.getfield 11, 3) := all_at dvX9_lastBy_0 9 rfl
theorem dX9_lastBy_18 : decode cX9_lastBy 18 = .ok (.iload 4, 2) := all_at dvX9_lastBy_0 10 rfl
theorem dX9_lastBy_20 : decode cX9_lastBy 20 = .ok (.iaload, 1) := all_at dvX9_lastBy_0 11 rfl
theorem dX9_lastBy_21 : decode cX9_lastBy 21 = .ok (.iload_n 1, 1) := all_at dvX9_lastBy_0 12 rfl
theorem dX9_lastBy_22 : decode cX9_lastBy 22 = .ok (.if_icmp .ne 17, 3) := all_at dvX9_lastBy_0 13 rfl
theorem dX9_lastBy_25 : decode cX9_lastBy 25 = .ok (.aload_n 0, 1) := all_at dvX9_lastBy_0 14 rfl
theorem dX9_lastBy_26 : decode cX9_lastBy 26 = .ok (.getfield 15, 3) := all_at dvX9_lastBy_0 15 rfl
theorem dX9_lastBy_29 : decode cX9_lastBy 29 = .ok (.iload 4, 2) := all_at dvX9_lastBy_0 16 rfl
theorem dX9_lastBy_31 : decode cX9_lastBy 31 = .ok (.iaload, 1) := all_at dvX9_lastBy_0 17 rfl
theorem dX9_lastBy_32 : decode cX9_lastBy 32 = .ok (.iload_n 2, 1) := all_at dvX9_lastBy_0 18 rfl
theorem dX9_lastBy_33 : decode cX9_lastBy 33 = .ok (.if_icmp .gt 6, 3) := all_at dvX9_lastBy_0 19 rfl
theorem dX9_lastBy_36 : decode cX9_lastBy 36 = .ok (.iload 4, 2) := all_at dvX9_lastBy_0 20 rfl
theorem dX9_lastBy_38 : decode cX9_lastBy 38 = .ok (.istore_n 3, 1) := all_at dvX9_lastBy_0 21 rfl
theorem dX9_lastBy_39 : decode cX9_lastBy 39 = .ok (.iinc 4 1, 3) := all_at dvX9_lastBy_0 22 rfl
theorem dX9_lastBy_42 : decode cX9_lastBy 42 = .ok (.goto (-37), 3) := all_at dvX9_lastBy_0 23 rfl
theorem dX9_lastBy_45 : decode cX9_lastBy 45 = .ok (.iload_n 3, 1) := by decide +kernel
theorem dX9_lastBy_46 : decode cX9_lastBy 46 = .ok (.ireturn, 1) := by decide +kernel
set_option maxRecDepth 100000 in
theorem dvX9_least_0 : ([(0, .aload_n 0, 1), (1, .iload_n 1, 1), (2, .iload_n 2, 1), (3, .invokevirtual 25, 3), (6, .istore_n 3, 1), (7, .aload_n 0, 1), (8, .iload_n 1, 1), (9, .iload_n 2, 1), (10, .invokevirtual 29, 3), (13, .istore 4, 2), (15, .aload_n 0, 1), (16, .iload_n 3, 1), (17, .iload 4, 2), (19, .invokevirtual 32, 3), (22, .aload_n 0, 1), (23, .iload 4, 2), (25, .iload_n 3, 1), (26, .invokevirtual 32, 3), (29, .invokestatic 35, 3), (32, .ireturn, 1)] : List (Nat × Instr × Nat)).all (fun q => decide (decode cX9_least q.1 = .ok (q.2.1, q.2.2))) = true := by decide +kernel
theorem dX9_least_0 : decode cX9_least 0 = .ok (.aload_n 0, 1) := all_at dvX9_least_0 0 rfl
theorem dX9_least_1 : decode cX9_least 1 = .ok (.iload_n 1, 1) := all_at dvX9_least_0 1 rfl
theorem dX9_least_2 : decode cX9_least 2 = .ok (.iload_n 2, 1) := all_at dvX9_least_0 2 rfl
theorem dX9_least_3 : decode cX9_least 3 = .ok (.invokevirtual 25, 3) := all_at dvX9_least_0 3 rfl
theorem dX9_least_6 : decode cX9_least 6 = .ok (.istore_n 3, 1) := all_at dvX9_least_0 4 rfl
theorem dX9_least_7 : decode cX9_least 7 = .ok (.aload_n 0, 1) := all_at dvX9_least_0 5 rfl
theorem dX9_least_8 : decode cX9_least 8 = .ok (.iload_n 1, 1) := all_at dvX9_least_0 6 rfl
theorem dX9_least_9 : decode cX9_least 9 = .ok (.iload_n 2, 1) := all_at dvX9_least_0 7 rfl
theorem dX9_least_10 : decode cX9_least 10 = .ok (.invokevirtual 29, 3) := all_at dvX9_least_0 8 rfl
theorem dX9_least_13 : decode cX9_least 13 = .ok (.istore 4, 2) := all_at dvX9_least_0 9 rfl
theorem dX9_least_15 : decode cX9_least 15 = .ok (.aload_n 0, 1) := all_at dvX9_least_0 10 rfl
theorem dX9_least_16 : decode cX9_least 16 = .ok (.iload_n 3, 1) := all_at dvX9_least_0 11 rfl
theorem dX9_least_17 : decode cX9_least 17 = .ok (.iload 4, 2) := all_at dvX9_least_0 12 rfl
theorem dX9_least_19 : decode cX9_least 19 = .ok (.invokevirtual 32, 3) := all_at dvX9_least_0 13 rfl
theorem dX9_least_22 : decode cX9_least 22 = .ok (.aload_n 0, 1) := all_at dvX9_least_0 14 rfl
theorem dX9_least_23 : decode cX9_least 23 = .ok (.iload 4, 2) := all_at dvX9_least_0 15 rfl
theorem dX9_least_25 : decode cX9_least 25 = .ok (.iload_n 3, 1) := all_at dvX9_least_0 16 rfl
theorem dX9_least_26 : decode cX9_least 26 = .ok (.invokevirtual 32, 3) := all_at dvX9_least_0 17 rfl
theorem dX9_least_29 : decode cX9_least 29 = .ok (.invokestatic 35, 3) := all_at dvX9_least_0 18 rfl
theorem dX9_least_32 : decode cX9_least 32 = .ok (.ireturn, 1) := all_at dvX9_least_0 19 rfl
set_option maxRecDepth 100000 in
theorem dvX9_note_0 : ([(0, .aload_n 0, 1), (1, .getfield 11, 3), (4, .aload_n 0, 1), (5, .getfield 21, 3), (8, .iload_n 1, 1), (9, .iastore, 1), (10, .aload_n 0, 1), (11, .getfield 15, 3), (14, .aload_n 0, 1), (15, .getfield 21, 3), (18, .iload_n 2, 1), (19, .iastore, 1), (20, .aload_n 0, 1), (21, .getfield 18, 3), (24, .aload_n 0, 1), (25, .getfield 21, 3), (28, .iload_n 3, 1), (29, .iastore, 1), (30, .aload_n 0, 1), (31, .dup, 1), (32, .getfield 21, 3), (35, .iconst 1, 1), (36, .iadd, 1), (37, .putfield 21, 3)] : List (Nat × Instr × Nat)).all (fun q => decide (decode cX9_note q.1 = .ok (q.2.1, q.2.2))) = true := by decide +kernel
theorem dX9_note_0 : decode cX9_note 0 = .ok (.aload_n 0, 1) := all_at dvX9_note_0 0 rfl
theorem dX9_note_1 : decode cX9_note 1 = .ok (.getfield 11, 3) := all_at dvX9_note_0 1 rfl
theorem dX9_note_4 : decode cX9_note 4 = .ok (.aload_n 0, 1) := all_at dvX9_note_0 2 rfl
theorem dX9_note_5 : decode cX9_note 5 = .ok (.getfield 21, 3) := all_at dvX9_note_0 3 rfl
theorem dX9_note_8 : decode cX9_note 8 = .ok (.iload_n 1, 1) := all_at dvX9_note_0 4 rfl
theorem dX9_note_9 : decode cX9_note 9 = .ok (.iastore, 1) := all_at dvX9_note_0 5 rfl
theorem dX9_note_10 : decode cX9_note 10 = .ok (.aload_n 0, 1) := all_at dvX9_note_0 6 rfl
theorem dX9_note_11 : decode cX9_note 11 = .ok (.getfield 15, 3) := all_at dvX9_note_0 7 rfl
theorem dX9_note_14 : decode cX9_note 14 = .ok (.aload_n 0, 1) := all_at dvX9_note_0 8 rfl
theorem dX9_note_15 : decode cX9_note 15 = .ok (.getfield 21, 3) := all_at dvX9_note_0 9 rfl
theorem dX9_note_18 : decode cX9_note 18 = .ok (.iload_n 2, 1) := all_at dvX9_note_0 10 rfl
theorem dX9_note_19 : decode cX9_note 19 = .ok (.iastore, 1) := all_at dvX9_note_0 11 rfl
theorem dX9_note_20 : decode cX9_note 20 = .ok (.aload_n 0, 1) := all_at dvX9_note_0 12 rfl
theorem dX9_note_21 : decode cX9_note 21 = .ok (.getfield 18, 3) := all_at dvX9_note_0 13 rfl
theorem dX9_note_24 : decode cX9_note 24 = .ok (.aload_n 0, 1) := all_at dvX9_note_0 14 rfl
theorem dX9_note_25 : decode cX9_note 25 = .ok (.getfield 21, 3) := all_at dvX9_note_0 15 rfl
theorem dX9_note_28 : decode cX9_note 28 = .ok (.iload_n 3, 1) := all_at dvX9_note_0 16 rfl
theorem dX9_note_29 : decode cX9_note 29 = .ok (.iastore, 1) := all_at dvX9_note_0 17 rfl
theorem dX9_note_30 : decode cX9_note 30 = .ok (.aload_n 0, 1) := all_at dvX9_note_0 18 rfl
theorem dX9_note_31 : decode cX9_note 31 = .ok (.dup, 1) := all_at dvX9_note_0 19 rfl
theorem dX9_note_32 : decode cX9_note 32 = .ok (.getfield 21, 3) := all_at dvX9_note_0 20 rfl
theorem dX9_note_35 : decode cX9_note 35 = .ok (.iconst 1, 1) := all_at dvX9_note_0 21 rfl
theorem dX9_note_36 : decode cX9_note 36 = .ok (.iadd, 1) := all_at dvX9_note_0 22 rfl
theorem dX9_note_37 : decode cX9_note 37 = .ok (.putfield 21, 3) := all_at dvX9_note_0 23 rfl
theorem dX9_note_40 : decode cX9_note 40 = .ok (.aload_n 0, 1) := by decide +kernel
theorem dX9_note_41 : decode cX9_note 41 = .ok (.getfield 21, 3) := by decide +kernel
theorem dX9_note_44 : decode cX9_note 44 = .ok (.ireturn, 1) := by decide +kernel
set_option maxHeartbeats 4000000 in
set_option maxRecDepth 100000 in
/-- X9_note -/
theorem c_X9_note (l : Launch) (dC : Nat → ClassId) (dI : Nat → Nat → Nat) (sz : Nat) (h : Nat) (g : Nat → Nat → Nat) (ca : Nat → Nat → ClassId) (iv : Nat → Nat → Int32) (lv : Nat → Nat → Int64) (fa : Nat → Nat → Nat → Int32) (la : Nat → Nat → Nat → Int64) (hI : IX iv fa) (a : Int32) (b : Int32) (d : Int32) (q_9_3 : 0 ≤ (iv 9 3).toInt ∧ (iv 9 3).toInt ≤ 29) : Met l yX9_note (wc yX9_note cX9_note 4 (some .int)) ({ frames := 0, cells := 0, slots := 0, locals := 0 } : Room) (pW (dC, dI) classes (WX h g ca iv lv fa la) (TX ca) sz [.ref (g 11 1), .int a, .int b, .int d]) (va_Qi (fun r (u : SS) => ∃ (na_9_0 : Nat → Int32) (na_9_1 : Nat → Int32) (na_9_2 : Nat → Int32) (ni_9_3 : Int32), inb (bI 9 3) ni_9_3 ∧ ni_9_3.toInt = (iv 9 3).toInt + 1 ∧ (1 ≤ r.toInt ∧ r.toInt ≤ 30) ∧ u = ((u2 iv 9 3 ni_9_3), lv, (u2 (u2 (u2 fa 9 0 na_9_0) 9 1 na_9_1) 9 2 na_9_2), la)) (bX (dC, dI) h g ca (va_A (WX h g ca iv lv fa la) sz)) (va_A (WX h g ca iv lv fa la) sz)) 0 0 (va_A (WX h g ca iv lv fa la) sz) := by
  refine Met.ofW (cc := cX9_note) (maxL := 4) (ret := (some .int)) (by decide) rfl ?_
  intro p e s m args below meth c s₁ B hml hv
  obtain ⟨rfl, hsz, hP, hK, hD0⟩ := hv
  have hx := B.exec
  have hb := B.bytes
  have hr := B.returns
  have ht := tb_tl (atoms_spec (ws := wc yX9_note cX9_note 4 (some .int)) B.pre)
  have hown : s.vm.findClass RX9 = some m.cls := findClass_of_methodNamed B.named
  have hlocks := B.notSynchronized
  subst hsz
  have hD := hD0.self (sz := s.heap.size)
  generalize hAe : va_A (WX h g ca iv lv fa la) s.heap.size = A at hD ⊢
  have hA : ∀ q : Nat, s.heap.size ≤ q → A q := fun q h => by rw [← hAe]; exact Or.inr h
  have hS : va_S A s.heap s.heap [] := va_S.rf
  have hl := lv_entry [.ref (g 11 1), .int a, .int b, .int d] (n := 4) (Nat.le_of_ble_eq_true rfl)
  rw [lg_entry_eq]
  generalize (lg_sl [.ref (g 11 1), .int a, .int b, .int d] ++ List.replicate (4 - (lg_sl [.ref (g 11 1), .int a, .int b, .int d]).length) Slot.unset).toArray = ls at hl ⊢
  have hl : lv_has ls 4 [(0, .ref (g 11 1)), (1, .int a), (2, .int b), (3, .int d)] := hl
  refine lv_aload_n hx hb dX9_note_0 rfl (lv_at hl 0 rfl) ?_
  refine gX_9_0 hx hb ht hown hK hP m_132 dX9_note_1 ?_
  refine lv_aload_n hx hb dX9_note_4 rfl (lv_at hl 0 rfl) ?_
  have i_9_3 : 0 ≤ (iv 9 3).toInt ∧ (iv 9 3).toInt ≤ 30 := hI.1 9 3
  refine gX_9_3 hx hb ht hown hK hP m_135 (v := (iv 9 3)) rfl dX9_note_5 ?_
  refine lv_iload_n hx hb dX9_note_8 rfl (lv_at hl 1 rfl) ?_
  refine tX_9_0 hx hb hK hP hD hS (f0 := (fa 9 0)) rfl (i := (iv 9 3)) (x := a) (vp_in_iff.mpr ⟨by omega, by omega⟩) dX9_note_9 (fun f1 ef1 H locs hP hD hS => ?_)
  have hf1 : ∀ j, inb (bA 9 0 j) (f1 j) := fun j => full_i _
  refine lv_aload_n hx hb dX9_note_10 rfl (lv_at hl 0 rfl) ?_
  refine gX_9_1 hx hb ht hown hK hP m_133 dX9_note_11 ?_
  refine lv_aload_n hx hb dX9_note_14 rfl (lv_at hl 0 rfl) ?_
  refine gX_9_3 hx hb ht hown hK hP m_135 (v := (iv 9 3)) rfl dX9_note_15 ?_
  refine lv_iload_n hx hb dX9_note_18 rfl (lv_at hl 2 rfl) ?_
  refine tX_9_1 hx hb hK hP hD hS (f0 := (fa 9 1)) rfl (i := (iv 9 3)) (x := b) (vp_in_iff.mpr ⟨by omega, by omega⟩) dX9_note_19 (fun f2 ef2 H locs hP hD hS => ?_)
  have hf2 : ∀ j, inb (bA 9 1 j) (f2 j) := fun j => full_i _
  refine lv_aload_n hx hb dX9_note_20 rfl (lv_at hl 0 rfl) ?_
  refine gX_9_2 hx hb ht hown hK hP m_134 dX9_note_21 ?_
  refine lv_aload_n hx hb dX9_note_24 rfl (lv_at hl 0 rfl) ?_
  refine gX_9_3 hx hb ht hown hK hP m_135 (v := (iv 9 3)) rfl dX9_note_25 ?_
  refine lv_iload_n hx hb dX9_note_28 rfl (lv_at hl 3 rfl) ?_
  refine tX_9_2 hx hb hK hP hD hS (f0 := (fa 9 2)) rfl (i := (iv 9 3)) (x := d) (vp_in_iff.mpr ⟨by omega, by omega⟩) dX9_note_29 (fun f3 ef3 H locs hP hD hS => ?_)
  have hf3 : ∀ j, inb (bA 9 2 j) (f3 j) := fun j => full_i _
  refine lv_aload_n hx hb dX9_note_30 rfl (lv_at hl 0 rfl) ?_
  refine lv_dup hx hb dX9_note_31 rfl ?_
  refine gX_9_3 hx hb ht hown hK hP m_135 (v := (iv 9 3)) rfl dX9_note_32 ?_
  refine lv_iconst (v := 1) hx hb dX9_note_35 (by decide) ?_
  refine lv_iadd hx hb dX9_note_36 ?_
  refine lv_topi (fun v4 ev4 => ?_)
  have tv4 := z_add ev4 (rfl : ((iv 9 3)).toInt = _) (by decide : (1 : Int32).toInt = 1) (by omega) (by omega)
  refine pX_9_3 (v := v4) hx hb ht hown hK hP hD hS m_135 dX9_note_37 (fun H locs hP hD hS => ?_)
  refine lv_aload_n hx hb dX9_note_40 rfl (lv_at hl 0 rfl) ?_
  refine gX_9_3 hx hb ht hown hK hP m_135 (v := v4) rfl dX9_note_41 ?_
  have hP9 : va_P (dC, dI) classes (WX h g ca (u2 iv 9 3 v4) lv (u2 (u2 (u2 fa 9 0 f1) 9 1 f2) 9 2 f3) la) H := hP
  have hD9 : va_D A (WX h g ca (u2 iv 9 3 v4) lv (u2 (u2 (u2 fa 9 0 f1) 9 1 f2) 9 2 f3) la) := hD
  exact W.iret (v := v4) hx hb hr (fun t ht9 hW => ⟨⟨v4, ((u2 iv 9 3 v4), lv, (u2 (u2 (u2 fa 9 0 f1) 9 1 f2) 9 2 f3), la), rfl, ⟨f1, f2, f3, v4, (show inb (0, 30) v4 from ⟨by omega, by omega⟩), (by omega), ⟨by omega, by omega⟩, rfl⟩, by rw [ht9]; exact hP9, hD9⟩, hS.F ht9⟩) hS.2.2 dX9_note_44
set_option maxHeartbeats 4000000 in
set_option maxRecDepth 100000 in
/-- X9_lastBy -/
theorem c_X9_lastBy (l : Launch) (dC : Nat → ClassId) (dI : Nat → Nat → Nat) (h : Nat) (g : Nat → Nat → Nat) (ca : Nat → Nat → ClassId) (iv : Nat → Nat → Int32) (lv : Nat → Nat → Int64) (fa : Nat → Nat → Nat → Int32) (la : Nat → Nat → Nat → Int64) (hI : IX iv fa) (a : Int32) (b : Int32) : Met l yX9_lastBy (wc yX9_lastBy cX9_lastBy 5 (some .int)) ({ frames := 0, cells := 0, slots := 0, locals := 0 } : Room) (pR (dC, dI) classes (WX h g ca iv lv fa la) (TX ca) [.ref (g 11 1), .int a, .int b]) (vp_Si (fun r => (-1) ≤ r.toInt ∧ r.toInt ≤ 29)) 0 0 (fun _ => False) := by
  refine Met.ofW (cc := cX9_lastBy) (maxL := 5) (ret := (some .int)) (by decide) rfl ?_
  intro p e s m args below meth c s₁ B hml hv
  obtain ⟨rfl, hP, hK⟩ := hv
  have hx := B.exec
  have hb := B.bytes
  have hr := B.returns
  have ht := tb_tl (atoms_spec (ws := wc yX9_lastBy cX9_lastBy 5 (some .int)) B.pre)
  have hown : s.vm.findClass RX9 = some m.cls := findClass_of_methodNamed B.named
  have hlocks := B.notSynchronized
  have hl := lv_entry [.ref (g 11 1), .int a, .int b] (n := 5) (Nat.le_of_ble_eq_true rfl)
  rw [lg_entry_eq]
  generalize (lg_sl [.ref (g 11 1), .int a, .int b] ++ List.replicate (5 - (lg_sl [.ref (g 11 1), .int a, .int b]).length) Slot.unset).toArray = ls at hl ⊢
  have hl : lv_has ls 5 [(0, .ref (g 11 1)), (1, .int a), (2, .int b)] := hl
  refine lv_iconst (v := (-1)) hx hb dX9_lastBy_0 (by decide) ?_
  refine lv_istore_n (lv' := [(3, .int (-1)), (0, .ref (g 11 1)), (1, .int a), (2, .int b)]) hx hb dX9_lastBy_1 rfl hl (by decide) rfl (fun ls hl => ?_)
  refine lv_iconst (v := 0) hx hb dX9_lastBy_2 (by decide) ?_
  refine lv_istore (lv' := [(4, .int 0), (3, .int (-1)), (0, .ref (g 11 1)), (1, .int a), (2, .int b)]) hx hb dX9_lastBy_3 hl (by decide) rfl (fun ls hl => ?_)
  have lp155 : ∀ (nn155 : Nat) (x154_4 : Int32) (x154_3 : Int32), 0 ≤ x154_4.toInt ∧ x154_4.toInt ≤ 30 → (-1) ≤ x154_3.toInt ∧ x154_3.toInt ≤ 29 → 30 - x154_4.toInt < (nn155 : Int) → ∀ (ls : Array Slot), lv_has ls 5 [(4, .int x154_4), (3, .int x154_3), (0, .ref (g 11 1)), (1, .int a), (2, .int b)] → W p l e ({ frames := 0, cells := 0, slots := 0, locals := 0 } : Room) s m ([.ref (g 11 1), .int a, .int b] : List Value).toArray below meth c s.heap [] 0 0 (MQ below (vp_Si (fun r => (-1) ≤ r.toInt ∧ r.toInt ≤ 29)) ([.ref (g 11 1), .int a, .int b] : List Value).toArray s 0 0 (fun _ => False)) (F0 m 5 ls []) := by
    intro nn155
    induction nn155 with
    | zero => intro x154_4 x154_3 hx154_4 hx154_3 hm155; exfalso; omega
    | succ nn155 ih155 =>
      intro x154_4 x154_3 hx154_4 hx154_3 hm155 ls hl
      refine lv_iload hx hb dX9_lastBy_5 (lv_at hl 0 rfl) ?_
      refine lv_aload_n hx hb dX9_lastBy_7 rfl (lv_at hl 2 rfl) ?_
      have i_9_3 : 0 ≤ (iv 9 3).toInt ∧ (iv 9 3).toInt ≤ 30 := hI.1 9 3
      refine gX_9_3 hx hb ht hown hK hP m_135 (v := (iv 9 3)) rfl dX9_lastBy_8 ?_
      refine lv_icmp_ge (tgt := 45) hx hb dX9_lastBy_11 (by decide) (fun c156 => ?_) (fun c156 => ?_)
      · have fc156 := z_le (rfl : ((iv 9 3)).toInt = _) (rfl : (x154_4).toInt = _) c156
        refine lv_iload_n hx hb dX9_lastBy_45 rfl (lv_at hl 1 rfl) ?_
        exact W.iret (v := x154_3) hx hb hr (fun t ht9 hW => ⟨x154_3, rfl, ⟨by omega, by omega⟩, ht9⟩) (fun q hq => by cases hq) dX9_lastBy_46
      · have fc156 := z_nle (rfl : ((iv 9 3)).toInt = _) (rfl : (x154_4).toInt = _) c156
        refine lv_aload_n hx hb dX9_lastBy_14 rfl (lv_at hl 2 rfl) ?_
        refine gX_9_0 hx hb ht hown hK hP m_132 dX9_lastBy_15 ?_
        refine lv_iload hx hb dX9_lastBy_18 (lv_at hl 0 rfl) ?_
        refine lX_9_0 hx hb hK hP (f := (fa 9 0)) rfl (vp_in_iff.mpr ⟨by omega, by omega⟩) dX9_lastBy_20 ?_
        refine lv_topi (fun v157 ev157 => ?_)
        refine lv_iload_n hx hb dX9_lastBy_21 rfl (lv_at hl 3 rfl) ?_
        refine lv_icmp_ne (tgt := 39) hx hb dX9_lastBy_22 (by decide) (fun c158 => ?_) (fun c158 => ?_)
        · have fc158 := z_ne (rfl : (v157).toInt = _) (rfl : (a).toInt = _) c158
          obtain ⟨v159, ev159⟩ : ∃ y : Int32, y = x154_4 + 1 := ⟨_, rfl⟩
          have tv159 := z_add ev159 rfl (by decide : (1 : Int32).toInt = 1) (by omega) (by omega)
          refine lv_iinc (v := v159) (lv' := [(4, .int v159), (3, .int x154_3), (0, .ref (g 11 1)), (1, .int a), (2, .int b)]) hx hb dX9_lastBy_39 hl (k := 0) rfl (by rw [ev159]; rfl) (by decide) rfl (fun ls hl => ?_)
          refine lv_goto (tgt := 5) hx hb dX9_lastBy_42 (by decide) ?_
          exact ih155 v159 x154_3 ⟨by omega, by omega⟩ ⟨by omega, by omega⟩ (by omega) ls (lv_sub hl [0, 1, 2, 3, 4] rfl)
        · have fc158 := z_eq (rfl : (v157).toInt = _) (rfl : (a).toInt = _) c158
          refine lv_aload_n hx hb dX9_lastBy_25 rfl (lv_at hl 2 rfl) ?_
          refine gX_9_1 hx hb ht hown hK hP m_133 dX9_lastBy_26 ?_
          refine lv_iload hx hb dX9_lastBy_29 (lv_at hl 0 rfl) ?_
          refine lX_9_1 hx hb hK hP (f := (fa 9 1)) rfl (vp_in_iff.mpr ⟨by omega, by omega⟩) dX9_lastBy_31 ?_
          refine lv_topi (fun v160 ev160 => ?_)
          refine lv_iload_n hx hb dX9_lastBy_32 rfl (lv_at hl 4 rfl) ?_
          refine lv_icmp_gt (tgt := 39) hx hb dX9_lastBy_33 (by decide) (fun c161 => ?_) (fun c161 => ?_)
          · have fc161 := z_lt (rfl : (b).toInt = _) (rfl : (v160).toInt = _) c161
            obtain ⟨v162, ev162⟩ : ∃ y : Int32, y = x154_4 + 1 := ⟨_, rfl⟩
            have tv162 := z_add ev162 rfl (by decide : (1 : Int32).toInt = 1) (by omega) (by omega)
            refine lv_iinc (v := v162) (lv' := [(4, .int v162), (3, .int x154_3), (0, .ref (g 11 1)), (1, .int a), (2, .int b)]) hx hb dX9_lastBy_39 hl (k := 0) rfl (by rw [ev162]; rfl) (by decide) rfl (fun ls hl => ?_)
            refine lv_goto (tgt := 5) hx hb dX9_lastBy_42 (by decide) ?_
            exact ih155 v162 x154_3 ⟨by omega, by omega⟩ ⟨by omega, by omega⟩ (by omega) ls (lv_sub hl [0, 1, 2, 3, 4] rfl)
          · have fc161 := z_nlt (rfl : (b).toInt = _) (rfl : (v160).toInt = _) c161
            refine lv_iload hx hb dX9_lastBy_36 (lv_at hl 0 rfl) ?_
            refine lv_istore_n (lv' := [(3, .int x154_4), (4, .int x154_4), (0, .ref (g 11 1)), (1, .int a), (2, .int b)]) hx hb dX9_lastBy_38 rfl hl (by decide) rfl (fun ls hl => ?_)
            obtain ⟨v163, ev163⟩ : ∃ y : Int32, y = x154_4 + 1 := ⟨_, rfl⟩
            have tv163 := z_add ev163 rfl (by decide : (1 : Int32).toInt = 1) (by omega) (by omega)
            refine lv_iinc (v := v163) (lv' := [(4, .int v163), (3, .int x154_4), (0, .ref (g 11 1)), (1, .int a), (2, .int b)]) hx hb dX9_lastBy_39 hl (k := 1) rfl (by rw [ev163]; rfl) (by decide) rfl (fun ls hl => ?_)
            refine lv_goto (tgt := 5) hx hb dX9_lastBy_42 (by decide) ?_
            exact ih155 v163 x154_4 ⟨by omega, by omega⟩ ⟨by omega, by omega⟩ (by omega) ls (lv_sub hl [0, 1, 2, 3, 4] rfl)
  exact lp155 31 0 (-1) ⟨by decide, by decide⟩ ⟨by decide, by decide⟩ (by first | decide | omega) ls (lv_sub hl [0, 1, 2, 3, 4] rfl)
set_option maxHeartbeats 4000000 in
set_option maxRecDepth 100000 in
/-- X9_firstAfter -/
theorem c_X9_firstAfter (l : Launch) (dC : Nat → ClassId) (dI : Nat → Nat → Nat) (h : Nat) (g : Nat → Nat → Nat) (ca : Nat → Nat → ClassId) (iv : Nat → Nat → Int32) (lv : Nat → Nat → Int64) (fa : Nat → Nat → Nat → Int32) (la : Nat → Nat → Nat → Int64) (hI : IX iv fa) (a : Int32) (b : Int32) : Met l yX9_firstAfter (wc yX9_firstAfter cX9_firstAfter 4 (some .int)) ({ frames := 0, cells := 0, slots := 0, locals := 0 } : Room) (pR (dC, dI) classes (WX h g ca iv lv fa la) (TX ca) [.ref (g 11 1), .int a, .int b]) (vp_Si (fun r => (-1) ≤ r.toInt ∧ r.toInt ≤ 29)) 0 0 (fun _ => False) := by
  refine Met.ofW (cc := cX9_firstAfter) (maxL := 4) (ret := (some .int)) (by decide) rfl ?_
  intro p e s m args below meth c s₁ B hml hv
  obtain ⟨rfl, hP, hK⟩ := hv
  have hx := B.exec
  have hb := B.bytes
  have hr := B.returns
  have ht := tb_tl (atoms_spec (ws := wc yX9_firstAfter cX9_firstAfter 4 (some .int)) B.pre)
  have hown : s.vm.findClass RX9 = some m.cls := findClass_of_methodNamed B.named
  have hlocks := B.notSynchronized
  have hl := lv_entry [.ref (g 11 1), .int a, .int b] (n := 4) (Nat.le_of_ble_eq_true rfl)
  rw [lg_entry_eq]
  generalize (lg_sl [.ref (g 11 1), .int a, .int b] ++ List.replicate (4 - (lg_sl [.ref (g 11 1), .int a, .int b]).length) Slot.unset).toArray = ls at hl ⊢
  have hl : lv_has ls 4 [(0, .ref (g 11 1)), (1, .int a), (2, .int b)] := hl
  refine lv_iconst (v := 0) hx hb dX9_firstAfter_0 (by decide) ?_
  refine lv_istore_n (lv' := [(3, .int 0), (0, .ref (g 11 1)), (1, .int a), (2, .int b)]) hx hb dX9_firstAfter_1 rfl hl (by decide) rfl (fun ls hl => ?_)
  have lp138 : ∀ (nn138 : Nat) (x137_3 : Int32), 0 ≤ x137_3.toInt ∧ x137_3.toInt ≤ 30 → 30 - x137_3.toInt < (nn138 : Int) → ∀ (ls : Array Slot), lv_has ls 4 [(3, .int x137_3), (0, .ref (g 11 1)), (1, .int a), (2, .int b)] → W p l e ({ frames := 0, cells := 0, slots := 0, locals := 0 } : Room) s m ([.ref (g 11 1), .int a, .int b] : List Value).toArray below meth c s.heap [] 0 0 (MQ below (vp_Si (fun r => (-1) ≤ r.toInt ∧ r.toInt ≤ 29)) ([.ref (g 11 1), .int a, .int b] : List Value).toArray s 0 0 (fun _ => False)) (F0 m 2 ls []) := by
    intro nn138
    induction nn138 with
    | zero => intro x137_3 hx137_3 hm138; exfalso; omega
    | succ nn138 ih138 =>
      intro x137_3 hx137_3 hm138 ls hl
      refine lv_iload_n hx hb dX9_firstAfter_2 rfl (lv_at hl 0 rfl) ?_
      refine lv_aload_n hx hb dX9_firstAfter_3 rfl (lv_at hl 1 rfl) ?_
      have i_9_3 : 0 ≤ (iv 9 3).toInt ∧ (iv 9 3).toInt ≤ 30 := hI.1 9 3
      refine gX_9_3 hx hb ht hown hK hP m_135 (v := (iv 9 3)) rfl dX9_firstAfter_4 ?_
      refine lv_icmp_ge (tgt := 38) hx hb dX9_firstAfter_7 (by decide) (fun c139 => ?_) (fun c139 => ?_)
      · have fc139 := z_le (rfl : ((iv 9 3)).toInt = _) (rfl : (x137_3).toInt = _) c139
        refine lv_iconst (v := (-1)) hx hb dX9_firstAfter_38 (by decide) ?_
        exact W.iret (v := (-1)) hx hb hr (fun t ht9 hW => ⟨(-1), rfl, ⟨by decide, by decide⟩, ht9⟩) (fun q hq => by cases hq) dX9_firstAfter_39
      · have fc139 := z_nle (rfl : ((iv 9 3)).toInt = _) (rfl : (x137_3).toInt = _) c139
        refine lv_aload_n hx hb dX9_firstAfter_10 rfl (lv_at hl 1 rfl) ?_
        refine gX_9_0 hx hb ht hown hK hP m_132 dX9_firstAfter_11 ?_
        refine lv_iload_n hx hb dX9_firstAfter_14 rfl (lv_at hl 0 rfl) ?_
        refine lX_9_0 hx hb hK hP (f := (fa 9 0)) rfl (vp_in_iff.mpr ⟨by omega, by omega⟩) dX9_firstAfter_15 ?_
        refine lv_topi (fun v140 ev140 => ?_)
        refine lv_iload_n hx hb dX9_firstAfter_16 rfl (lv_at hl 2 rfl) ?_
        refine lv_icmp_ne (tgt := 32) hx hb dX9_firstAfter_17 (by decide) (fun c141 => ?_) (fun c141 => ?_)
        · have fc141 := z_ne (rfl : (v140).toInt = _) (rfl : (a).toInt = _) c141
          obtain ⟨v142, ev142⟩ : ∃ y : Int32, y = x137_3 + 1 := ⟨_, rfl⟩
          have tv142 := z_add ev142 rfl (by decide : (1 : Int32).toInt = 1) (by omega) (by omega)
          refine lv_iinc (v := v142) (lv' := [(3, .int v142), (0, .ref (g 11 1)), (1, .int a), (2, .int b)]) hx hb dX9_firstAfter_32 hl (k := 0) rfl (by rw [ev142]; rfl) (by decide) rfl (fun ls hl => ?_)
          refine lv_goto (tgt := 2) hx hb dX9_firstAfter_35 (by decide) ?_
          exact ih138 v142 ⟨by omega, by omega⟩ (by omega) ls (lv_sub hl [0, 1, 2, 3] rfl)
        · have fc141 := z_eq (rfl : (v140).toInt = _) (rfl : (a).toInt = _) c141
          refine lv_aload_n hx hb dX9_firstAfter_20 rfl (lv_at hl 1 rfl) ?_
          refine gX_9_1 hx hb ht hown hK hP m_133 dX9_firstAfter_21 ?_
          refine lv_iload_n hx hb dX9_firstAfter_24 rfl (lv_at hl 0 rfl) ?_
          refine lX_9_1 hx hb hK hP (f := (fa 9 1)) rfl (vp_in_iff.mpr ⟨by omega, by omega⟩) dX9_firstAfter_25 ?_
          refine lv_topi (fun v143 ev143 => ?_)
          refine lv_iload_n hx hb dX9_firstAfter_26 rfl (lv_at hl 3 rfl) ?_
          refine lv_icmp_le (tgt := 32) hx hb dX9_firstAfter_27 (by decide) (fun c144 => ?_) (fun c144 => ?_)
          · have fc144 := z_le (rfl : (v143).toInt = _) (rfl : (b).toInt = _) c144
            obtain ⟨v145, ev145⟩ : ∃ y : Int32, y = x137_3 + 1 := ⟨_, rfl⟩
            have tv145 := z_add ev145 rfl (by decide : (1 : Int32).toInt = 1) (by omega) (by omega)
            refine lv_iinc (v := v145) (lv' := [(3, .int v145), (0, .ref (g 11 1)), (1, .int a), (2, .int b)]) hx hb dX9_firstAfter_32 hl (k := 0) rfl (by rw [ev145]; rfl) (by decide) rfl (fun ls hl => ?_)
            refine lv_goto (tgt := 2) hx hb dX9_firstAfter_35 (by decide) ?_
            exact ih138 v145 ⟨by omega, by omega⟩ (by omega) ls (lv_sub hl [0, 1, 2, 3] rfl)
          · have fc144 := z_nle (rfl : (v143).toInt = _) (rfl : (b).toInt = _) c144
            refine lv_iload_n hx hb dX9_firstAfter_30 rfl (lv_at hl 0 rfl) ?_
            exact W.iret (v := x137_3) hx hb hr (fun t ht9 hW => ⟨x137_3, rfl, ⟨by omega, by omega⟩, ht9⟩) (fun q hq => by cases hq) dX9_firstAfter_31
  exact lp138 31 0 ⟨by decide, by decide⟩ (by first | decide | omega) ls (lv_sub hl [0, 1, 2, 3] rfl)
set_option maxHeartbeats 4000000 in
set_option maxRecDepth 100000 in
/-- X9_driftOf -/
theorem c_X9_driftOf (l : Launch) (dC : Nat → ClassId) (dI : Nat → Nat → Nat) (h : Nat) (g : Nat → Nat → Nat) (ca : Nat → Nat → ClassId) (iv : Nat → Nat → Int32) (lv : Nat → Nat → Int64) (fa : Nat → Nat → Nat → Int32) (la : Nat → Nat → Nat → Int64) (hI : IX iv fa) (a : Int32) (b : Int32) (h_a : (-1) ≤ a.toInt ∧ a.toInt ≤ 29) (h_b : (-1) ≤ b.toInt ∧ b.toInt ≤ 29) : Met l yX9_driftOf (wc yX9_driftOf cX9_driftOf 3 (some .int)) ({ frames := 0, cells := 0, slots := 0, locals := 0 } : Room) (pR (dC, dI) classes (WX h g ca iv lv fa la) (TX ca) [.ref (g 11 1), .int a, .int b]) (vp_Si (fun r => True)) 0 0 (fun _ => False) := by
  refine Met.ofW (cc := cX9_driftOf) (maxL := 3) (ret := (some .int)) (by decide) rfl ?_
  intro p e s m args below meth c s₁ B hml hv
  obtain ⟨rfl, hP, hK⟩ := hv
  have hx := B.exec
  have hb := B.bytes
  have hr := B.returns
  have ht := tb_tl (atoms_spec (ws := wc yX9_driftOf cX9_driftOf 3 (some .int)) B.pre)
  have hown : s.vm.findClass RX9 = some m.cls := findClass_of_methodNamed B.named
  have hlocks := B.notSynchronized
  have hl := lv_entry [.ref (g 11 1), .int a, .int b] (n := 3) (Nat.le_of_ble_eq_true rfl)
  rw [lg_entry_eq]
  generalize (lg_sl [.ref (g 11 1), .int a, .int b] ++ List.replicate (3 - (lg_sl [.ref (g 11 1), .int a, .int b]).length) Slot.unset).toArray = ls at hl ⊢
  have hl : lv_has ls 3 [(0, .ref (g 11 1)), (1, .int a), (2, .int b)] := hl
  refine lv_iload_n hx hb dX9_driftOf_0 rfl (lv_at hl 1 rfl) ?_
  refine lv_iconst (v := (-1)) hx hb dX9_driftOf_1 (by decide) ?_
  refine lv_icmp_eq (tgt := 12) hx hb dX9_driftOf_2 (by decide) (fun c1 => ?_) (fun c1 => ?_)
  · have fc1 := z_eq (rfl : (a).toInt = _) (by decide : ((-1) : Int32).toInt = (-1)) c1
    refine lv_iload_n hx hb dX9_driftOf_12 rfl (lv_at hl 2 rfl) ?_
    refine lv_iconst (v := (-1)) hx hb dX9_driftOf_13 (by decide) ?_
    refine lv_icmp_ne (tgt := 21) hx hb dX9_driftOf_14 (by decide) (fun c2 => ?_) (fun c2 => ?_)
    · have fc2 := z_ne (rfl : (b).toInt = _) (by decide : ((-1) : Int32).toInt = (-1)) c2
      refine lv_aload_n hx hb dX9_driftOf_21 rfl (lv_at hl 0 rfl) ?_
      refine gX_9_2 hx hb ht hown hK hP m_134 dX9_driftOf_22 ?_
      refine lv_iload_n hx hb dX9_driftOf_25 rfl (lv_at hl 2 rfl) ?_
      refine lX_9_2 hx hb hK hP (f := (fa 9 2)) rfl (vp_in_iff.mpr ⟨by omega, by omega⟩) dX9_driftOf_26 ?_
      refine lv_topi (fun v3 ev3 => ?_)
      exact W.iret (v := v3) hx hb hr (fun t ht9 hW => ⟨v3, rfl, trivial, ht9⟩) (fun q hq => by cases hq) dX9_driftOf_27
    · have fc2 := z_eq (rfl : (b).toInt = _) (by decide : ((-1) : Int32).toInt = (-1)) c2
      refine lv_iconst (v := 0) hx hb dX9_driftOf_17 (by decide) ?_
      refine lv_goto (tgt := 27) hx hb dX9_driftOf_18 (by decide) ?_
      exact W.iret (v := 0) hx hb hr (fun t ht9 hW => ⟨0, rfl, trivial, ht9⟩) (fun q hq => by cases hq) dX9_driftOf_27
  · have fc1 := z_ne (rfl : (a).toInt = _) (by decide : ((-1) : Int32).toInt = (-1)) c1
    refine lv_aload_n hx hb dX9_driftOf_5 rfl (lv_at hl 0 rfl) ?_
    refine gX_9_2 hx hb ht hown hK hP m_134 dX9_driftOf_6 ?_
    refine lv_iload_n hx hb dX9_driftOf_9 rfl (lv_at hl 1 rfl) ?_
    refine lX_9_2 hx hb hK hP (f := (fa 9 2)) rfl (vp_in_iff.mpr ⟨by omega, by omega⟩) dX9_driftOf_10 ?_
    refine lv_topi (fun v4 ev4 => ?_)
    exact W.iret (v := v4) hx hb hr (fun t ht9 hW => ⟨v4, rfl, trivial, ht9⟩) (fun q hq => by cases hq) dX9_driftOf_11
set_option maxHeartbeats 4000000 in
set_option maxRecDepth 100000 in
/-- X9_least -/
theorem c_X9_least (l : Launch) (dC : Nat → ClassId) (dI : Nat → Nat → Nat) (h : Nat) (g : Nat → Nat → Nat) (ca : Nat → Nat → ClassId) (iv : Nat → Nat → Int32) (lv : Nat → Nat → Int64) (fa : Nat → Nat → Nat → Int32) (la : Nat → Nat → Nat → Int64) (hI : IX iv fa) (a : Int32) (b : Int32) : Met l yX9_least (wc yX9_least cX9_least 5 (some .int)) ({ frames := 1, cells := 0, slots := 0, locals := 40 } : Room) (pR (dC, dI) classes (WX h g ca iv lv fa la) (TX ca) [.ref (g 11 1), .int a, .int b]) (vp_Si (fun r => True)) 0 0 (fun _ => False) := by
  refine Met.ofW (cc := cX9_least) (maxL := 5) (ret := (some .int)) (by decide) rfl ?_
  intro p e s m args below meth c s₁ B hml hv
  obtain ⟨rfl, hP, hK⟩ := hv
  have hx := B.exec
  have hb := B.bytes
  have hr := B.returns
  have ht := tb_tl (atoms_spec (ws := wc yX9_least cX9_least 5 (some .int)) B.pre)
  have hown : s.vm.findClass RX9 = some m.cls := findClass_of_methodNamed B.named
  have hlocks := B.notSynchronized
  have hl := lv_entry [.ref (g 11 1), .int a, .int b] (n := 5) (Nat.le_of_ble_eq_true rfl)
  rw [lg_entry_eq]
  generalize (lg_sl [.ref (g 11 1), .int a, .int b] ++ List.replicate (5 - (lg_sl [.ref (g 11 1), .int a, .int b]).length) Slot.unset).toArray = ls at hl ⊢
  have hl : lv_has ls 5 [(0, .ref (g 11 1)), (1, .int a), (2, .int b)] := hl
  refine lv_aload_n hx hb dX9_least_0 rfl (lv_at hl 0 rfl) ?_
  refine lv_iload_n hx hb dX9_least_1 rfl (lv_at hl 1 rfl) ?_
  refine lv_iload_n hx hb dX9_least_2 rfl (lv_at hl 2 rfl) ?_
  refine vp_callSi (W.runV (As := [.int a, .int b]) (rest := []) ⟨hx, hb, hml, hown, ht⟩ (c_X9_lastBy l dC dI h g ca iv lv fa la hI a b) (kV 2 ht m_538 m_540 m_1 m_79 m_541 rfl rfl hd_X9_lastBy_v ⟨Nat.le_of_ble_eq_true rfl, Nat.le_of_ble_eq_true rfl⟩) (vR hP hK (rX_9 hK hP)) rfl rfl hl.1 rfl (lv_room (Nat.le_of_ble_eq_true rfl)) dX9_least_3 ⟨Nat.le_of_ble_eq_true rfl, Nat.le_of_ble_eq_true rfl⟩) (fun r1 hr1 => ?_)
  refine lv_istore_n (lv' := [(3, .int r1), (0, .ref (g 11 1)), (1, .int a), (2, .int b)]) hx hb dX9_least_6 rfl hl (by decide) rfl (fun ls hl => ?_)
  refine lv_aload_n hx hb dX9_least_7 rfl (lv_at hl 1 rfl) ?_
  refine lv_iload_n hx hb dX9_least_8 rfl (lv_at hl 2 rfl) ?_
  refine lv_iload_n hx hb dX9_least_9 rfl (lv_at hl 3 rfl) ?_
  refine vp_callSi (W.runV (As := [.int a, .int b]) (rest := []) ⟨hx, hb, hml, hown, ht⟩ (c_X9_firstAfter l dC dI h g ca iv lv fa la hI a b) (kV 2 ht m_542 m_544 m_2 m_79 m_545 rfl rfl hd_X9_firstAfter_v ⟨Nat.le_of_ble_eq_true rfl, Nat.le_of_ble_eq_true rfl⟩) (vR hP hK (rX_9 hK hP)) rfl rfl hl.1 rfl (lv_room (Nat.le_of_ble_eq_true rfl)) dX9_least_10 ⟨Nat.le_of_ble_eq_true rfl, Nat.le_of_ble_eq_true rfl⟩) (fun r2 hr2 => ?_)
  refine lv_istore (lv' := [(4, .int r2), (3, .int r1), (0, .ref (g 11 1)), (1, .int a), (2, .int b)]) hx hb dX9_least_13 hl (by decide) rfl (fun ls hl => ?_)
  refine lv_aload_n hx hb dX9_least_15 rfl (lv_at hl 2 rfl) ?_
  refine lv_iload_n hx hb dX9_least_16 rfl (lv_at hl 1 rfl) ?_
  refine lv_iload hx hb dX9_least_17 (lv_at hl 0 rfl) ?_
  refine vp_callSi (W.runV (As := [.int r1, .int r2]) (rest := []) ⟨hx, hb, hml, hown, ht⟩ (c_X9_driftOf l dC dI h g ca iv lv fa la hI r1 r2 ⟨by omega, by omega⟩ ⟨by omega, by omega⟩) (kV 2 ht m_546 m_548 m_3 m_79 m_549 rfl rfl hd_X9_driftOf_v ⟨Nat.le_of_ble_eq_true rfl, Nat.le_of_ble_eq_true rfl⟩) (vR hP hK (rX_9 hK hP)) rfl rfl hl.1 rfl (lv_room (Nat.le_of_ble_eq_true rfl)) dX9_least_19 ⟨Nat.le_of_ble_eq_true rfl, Nat.le_of_ble_eq_true rfl⟩) (fun r3 hr3 => ?_)
  refine lv_aload_n hx hb dX9_least_22 rfl (lv_at hl 2 rfl) ?_
  refine lv_iload hx hb dX9_least_23 (lv_at hl 0 rfl) ?_
  refine lv_iload_n hx hb dX9_least_25 rfl (lv_at hl 1 rfl) ?_
  refine vp_callSi (W.runV (As := [.int r2, .int r1]) (rest := [.int r3]) ⟨hx, hb, hml, hown, ht⟩ (c_X9_driftOf l dC dI h g ca iv lv fa la hI r2 r1 ⟨by omega, by omega⟩ ⟨by omega, by omega⟩) (kV 2 ht m_546 m_548 m_3 m_79 m_549 rfl rfl hd_X9_driftOf_v ⟨Nat.le_of_ble_eq_true rfl, Nat.le_of_ble_eq_true rfl⟩) (vR hP hK (rX_9 hK hP)) rfl rfl hl.1 rfl (lv_room (Nat.le_of_ble_eq_true rfl)) dX9_least_26 ⟨Nat.le_of_ble_eq_true rfl, Nat.le_of_ble_eq_true rfl⟩) (fun r4 hr4 => ?_)
  refine va_mmin hx hb (hml.trans hl.1.symm) hown (ht _ m_550) (ht _ m_551) (ht _ m_90) (ht _ m_552) (Nat.le_of_ble_eq_true rfl) (Nat.le_of_ble_eq_true rfl) (Nat.le_of_ble_eq_true rfl) (Nat.le_of_ble_eq_true rfl) dX9_least_29 ?_
  refine lv_topi (fun v5 ev5 => ?_)
  have tv5 := mm_or ev5
  have uv5 := mm_min ev5 (rfl : (r3).toInt = _) (rfl : (r4).toInt = _)
  exact W.iret (v := v5) hx hb hr (fun t ht9 hW => ⟨v5, rfl, trivial, ht9⟩) (fun q hq => by cases hq) dX9_least_32
set_option maxHeartbeats 4000000 in
set_option maxRecDepth 100000 in
/-- X9_greatest -/
theorem c_X9_greatest (l : Launch) (dC : Nat → ClassId) (dI : Nat → Nat → Nat) (h : Nat) (g : Nat → Nat → Nat) (ca : Nat → Nat → ClassId) (iv : Nat → Nat → Int32) (lv : Nat → Nat → Int64) (fa : Nat → Nat → Nat → Int32) (la : Nat → Nat → Nat → Int64) (hI : IX iv fa) (a : Int32) (b : Int32) : Met l yX9_greatest (wc yX9_greatest cX9_greatest 5 (some .int)) ({ frames := 1, cells := 0, slots := 0, locals := 40 } : Room) (pR (dC, dI) classes (WX h g ca iv lv fa la) (TX ca) [.ref (g 11 1), .int a, .int b]) (vp_Si (fun r => True)) 0 0 (fun _ => False) := by
  refine Met.ofW (cc := cX9_greatest) (maxL := 5) (ret := (some .int)) (by decide) rfl ?_
  intro p e s m args below meth c s₁ B hml hv
  obtain ⟨rfl, hP, hK⟩ := hv
  have hx := B.exec
  have hb := B.bytes
  have hr := B.returns
  have ht := tb_tl (atoms_spec (ws := wc yX9_greatest cX9_greatest 5 (some .int)) B.pre)
  have hown : s.vm.findClass RX9 = some m.cls := findClass_of_methodNamed B.named
  have hlocks := B.notSynchronized
  have hl := lv_entry [.ref (g 11 1), .int a, .int b] (n := 5) (Nat.le_of_ble_eq_true rfl)
  rw [lg_entry_eq]
  generalize (lg_sl [.ref (g 11 1), .int a, .int b] ++ List.replicate (5 - (lg_sl [.ref (g 11 1), .int a, .int b]).length) Slot.unset).toArray = ls at hl ⊢
  have hl : lv_has ls 5 [(0, .ref (g 11 1)), (1, .int a), (2, .int b)] := hl
  refine lv_aload_n hx hb dX9_greatest_0 rfl (lv_at hl 0 rfl) ?_
  refine lv_iload_n hx hb dX9_greatest_1 rfl (lv_at hl 1 rfl) ?_
  refine lv_iload_n hx hb dX9_greatest_2 rfl (lv_at hl 2 rfl) ?_
  refine vp_callSi (W.runV (As := [.int a, .int b]) (rest := []) ⟨hx, hb, hml, hown, ht⟩ (c_X9_lastBy l dC dI h g ca iv lv fa la hI a b) (kV 2 ht m_538 m_540 m_1 m_79 m_541 rfl rfl hd_X9_lastBy_v ⟨Nat.le_of_ble_eq_true rfl, Nat.le_of_ble_eq_true rfl⟩) (vR hP hK (rX_9 hK hP)) rfl rfl hl.1 rfl (lv_room (Nat.le_of_ble_eq_true rfl)) dX9_greatest_3 ⟨Nat.le_of_ble_eq_true rfl, Nat.le_of_ble_eq_true rfl⟩) (fun r1 hr1 => ?_)
  refine lv_istore_n (lv' := [(3, .int r1), (0, .ref (g 11 1)), (1, .int a), (2, .int b)]) hx hb dX9_greatest_6 rfl hl (by decide) rfl (fun ls hl => ?_)
  refine lv_aload_n hx hb dX9_greatest_7 rfl (lv_at hl 1 rfl) ?_
  refine lv_iload_n hx hb dX9_greatest_8 rfl (lv_at hl 2 rfl) ?_
  refine lv_iload_n hx hb dX9_greatest_9 rfl (lv_at hl 3 rfl) ?_
  refine vp_callSi (W.runV (As := [.int a, .int b]) (rest := []) ⟨hx, hb, hml, hown, ht⟩ (c_X9_firstAfter l dC dI h g ca iv lv fa la hI a b) (kV 2 ht m_542 m_544 m_2 m_79 m_545 rfl rfl hd_X9_firstAfter_v ⟨Nat.le_of_ble_eq_true rfl, Nat.le_of_ble_eq_true rfl⟩) (vR hP hK (rX_9 hK hP)) rfl rfl hl.1 rfl (lv_room (Nat.le_of_ble_eq_true rfl)) dX9_greatest_10 ⟨Nat.le_of_ble_eq_true rfl, Nat.le_of_ble_eq_true rfl⟩) (fun r2 hr2 => ?_)
  refine lv_istore (lv' := [(4, .int r2), (3, .int r1), (0, .ref (g 11 1)), (1, .int a), (2, .int b)]) hx hb dX9_greatest_13 hl (by decide) rfl (fun ls hl => ?_)
  refine lv_aload_n hx hb dX9_greatest_15 rfl (lv_at hl 2 rfl) ?_
  refine lv_iload_n hx hb dX9_greatest_16 rfl (lv_at hl 1 rfl) ?_
  refine lv_iload hx hb dX9_greatest_17 (lv_at hl 0 rfl) ?_
  refine vp_callSi (W.runV (As := [.int r1, .int r2]) (rest := []) ⟨hx, hb, hml, hown, ht⟩ (c_X9_driftOf l dC dI h g ca iv lv fa la hI r1 r2 ⟨by omega, by omega⟩ ⟨by omega, by omega⟩) (kV 2 ht m_546 m_548 m_3 m_79 m_549 rfl rfl hd_X9_driftOf_v ⟨Nat.le_of_ble_eq_true rfl, Nat.le_of_ble_eq_true rfl⟩) (vR hP hK (rX_9 hK hP)) rfl rfl hl.1 rfl (lv_room (Nat.le_of_ble_eq_true rfl)) dX9_greatest_19 ⟨Nat.le_of_ble_eq_true rfl, Nat.le_of_ble_eq_true rfl⟩) (fun r3 hr3 => ?_)
  refine lv_aload_n hx hb dX9_greatest_22 rfl (lv_at hl 2 rfl) ?_
  refine lv_iload hx hb dX9_greatest_23 (lv_at hl 0 rfl) ?_
  refine lv_iload_n hx hb dX9_greatest_25 rfl (lv_at hl 1 rfl) ?_
  refine vp_callSi (W.runV (As := [.int r2, .int r1]) (rest := [.int r3]) ⟨hx, hb, hml, hown, ht⟩ (c_X9_driftOf l dC dI h g ca iv lv fa la hI r2 r1 ⟨by omega, by omega⟩ ⟨by omega, by omega⟩) (kV 2 ht m_546 m_548 m_3 m_79 m_549 rfl rfl hd_X9_driftOf_v ⟨Nat.le_of_ble_eq_true rfl, Nat.le_of_ble_eq_true rfl⟩) (vR hP hK (rX_9 hK hP)) rfl rfl hl.1 rfl (lv_room (Nat.le_of_ble_eq_true rfl)) dX9_greatest_26 ⟨Nat.le_of_ble_eq_true rfl, Nat.le_of_ble_eq_true rfl⟩) (fun r4 hr4 => ?_)
  refine va_mmax hx hb (hml.trans hl.1.symm) hown (ht _ m_557) (ht _ m_558) (ht _ m_90) (ht _ m_559) (Nat.le_of_ble_eq_true rfl) (Nat.le_of_ble_eq_true rfl) (Nat.le_of_ble_eq_true rfl) (Nat.le_of_ble_eq_true rfl) dX9_greatest_29 ?_
  refine lv_topi (fun v5 ev5 => ?_)
  have tv5 := mm_or ev5
  have uv5 := mm_max ev5 (rfl : (r3).toInt = _) (rfl : (r4).toInt = _)
  exact W.iret (v := v5) hx hb hr (fun t ht9 hW => ⟨v5, rfl, trivial, ht9⟩) (fun q hq => by cases hq) dX9_greatest_32
/-! ===== bales ===== -/
theorem m_152 : Cond.fieldLink RX0 11 "SilkHouse$Bales" "gross" "[I" ∈ tb := mb_1_2 _ (List.mem_of_getElem? (i := 7) rfl)
theorem m_154 : Cond.fieldLink RX0 15 "SilkHouse$Bales" "threads" "[I" ∈ tb := mb_1_2 _ (List.mem_of_getElem? (i := 9) rfl)
theorem m_156 : Cond.fieldLink RX0 18 "SilkHouse$Bales" "twists" "[I" ∈ tb := mb_1_2 _ (List.mem_of_getElem? (i := 11) rfl)
theorem m_162 : Cond.fieldLink RX0 27 "SilkHouse$Bales" "sizes" "[I" ∈ tb := mb_1_2 _ (List.mem_of_getElem? (i := 17) rfl)
theorem m_163 : Cond.fieldLink RX0 30 "SilkHouse$Bales" "turnRows" "[I" ∈ tb := mb_1_2 _ (List.mem_of_getElem? (i := 18) rfl)
theorem m_164 : Cond.fieldLink RX0 33 "SilkHouse$Bales" "number" "I" ∈ tb := mb_1_2 _ (List.mem_of_getElem? (i := 19) rfl)
set_option maxRecDepth 100000 in
theorem dvX0_allSizes_0 : ([(0, .iconst 0, 1), (1, .istore_n 2, 1), (2, .iconst 0, 1), (3, .istore_n 3, 1), (4, .iload_n 3, 1), (5, .aload_n 0, 1), (6, .getfield 15, 3), (9, .iload_n 1, 1), (10, .iaload, 1), (11, .if_icmp .ge 23, 3), (14, .iload_n 2, 1), (15, .aload_n 0, 1), (16, .getfield 27, 3), (19, .iload_n 1, 1), (20, .bipush 12, 2), (22, .imul, 1), (23, .iload_n 3, 1), (24, .iadd, 1), (25, .iaload, 1), (26, .iadd, 1), (27, .istore_n 2, 1), (28, .iinc 3 1, 3), (31, .goto (-27), 3), (34, .iload_n 2, 1)] : List (Nat × Instr × Nat)).all (fun q => decide (decode cX0_allSizes q.1 = .ok (q.2.1, q.2.2))) = true := by decide +kernel
theorem dX0_allSizes_0 : decode cX0_allSizes 0 = .ok (.iconst 0, 1) := all_at dvX0_allSizes_0 0 rfl
theorem dX0_allSizes_1 : decode cX0_allSizes 1 = .ok (.istore_n 2, 1) := all_at dvX0_allSizes_0 1 rfl
theorem dX0_allSizes_2 : decode cX0_allSizes 2 = .ok (.iconst 0, 1) := all_at dvX0_allSizes_0 2 rfl
theorem dX0_allSizes_3 : decode cX0_allSizes 3 = .ok (.istore_n 3, 1) := all_at dvX0_allSizes_0 3 rfl
theorem dX0_allSizes_4 : decode cX0_allSizes 4 = .ok (.iload_n 3, 1) := all_at dvX0_allSizes_0 4 rfl
theorem dX0_allSizes_5 : decode cX0_allSizes 5 = .ok (.aload_n 0, 1) := all_at dvX0_allSizes_0 5 rfl
theorem dX0_allSizes_6 : decode cX0_allSizes 6 = .ok (.getfield 15, 3) := all_at dvX0_allSizes_0 6 rfl
theorem dX0_allSizes_9 : decode cX0_allSizes 9 = .ok (.iload_n 1, 1) := all_at dvX0_allSizes_0 7 rfl
theorem dX0_allSizes_10 : decode cX0_allSizes 10 = .ok (.iaload, 1) := all_at dvX0_allSizes_0 8 rfl
theorem dX0_allSizes_11 : decode cX0_allSizes 11 = .ok (.if_icmp .ge 23, 3) := all_at dvX0_allSizes_0 9 rfl
theorem dX0_allSizes_14 : decode cX0_allSizes 14 = .ok (.iload_n 2, 1) := all_at dvX0_allSizes_0 10 rfl
theorem dX0_allSizes_15 : decode cX0_allSizes 15 = .ok (.aload_n 0, 1) := all_at dvX0_allSizes_0 11 rfl
theorem dX0_allSizes_16 : decode cX0_allSizes 16 = .ok (.getfield 27, 3) := all_at dvX0_allSizes_0 12 rfl
theorem dX0_allSizes_19 : decode cX0_allSizes 19 = .ok (.iload_n 1, 1) := all_at dvX0_allSizes_0 13 rfl
theorem dX0_allSizes_20 : decode cX0_allSizes 20 = .ok (.bipush 12, 2) := all_at dvX0_allSizes_0 14 rfl
theorem dX0_allSizes_22 : decode cX0_allSizes 22 = .ok (.imul, 1) := all_at dvX0_allSizes_0 15 rfl
theorem dX0_allSizes_23 : decode cX0_allSizes 23 = .ok (.iload_n 3, 1) := all_at dvX0_allSizes_0 16 rfl
theorem dX0_allSizes_24 : decode cX0_allSizes 24 = .ok (.iadd, 1) := all_at dvX0_allSizes_0 17 rfl
theorem dX0_allSizes_25 : decode cX0_allSizes 25 = .ok (.iaload, 1) := all_at dvX0_allSizes_0 18 rfl
theorem dX0_allSizes_26 : decode cX0_allSizes 26 = .ok (.iadd, 1) := all_at dvX0_allSizes_0 19 rfl
theorem dX0_allSizes_27 : decode cX0_allSizes 27 = .ok (.istore_n 2, 1) := all_at dvX0_allSizes_0 20 rfl
theorem dX0_allSizes_28 : decode cX0_allSizes 28 = .ok (.iinc 3 1, 3) := all_at dvX0_allSizes_0 21 rfl
theorem dX0_allSizes_31 : decode cX0_allSizes 31 = .ok (.goto (-27), 3) := all_at dvX0_allSizes_0 22 rfl
theorem dX0_allSizes_34 : decode cX0_allSizes 34 = .ok (.iload_n 2, 1) := all_at dvX0_allSizes_0 23 rfl
theorem dX0_allSizes_35 : decode cX0_allSizes 35 = .ok (.ireturn, 1) := by decide +kernel
set_option maxRecDepth 100000 in
theorem dvX0_allSquares_0 : ([(0, .lconst 0, 1), (1, .lstore_n 2, 1), (2, .iconst 0, 1), (3, .istore 4, 2), (5, .iload 4, 2), (7, .aload_n 0, 1), (8, .getfield 15, 3), (11, .iload_n 1, 1), (12, .iaload, 1), (13, .if_icmp .ge 32, 3), (16, .aload_n 0, 1), (17, .getfield 27, 3), (20, .iload_n 1, 1), (21, .bipush 12, 2), (23, .imul, 1), (24, .iload 4, 2), (26, .iadd, 1), (27, .iaload, 1), (28, .i2l, 1), (29, .lstore 5, 2), (31, .lload_n 2, 1), (32, .lload 5, 2), (34, .lload 5, 2), (36, .lmul, 1)] : List (Nat × Instr × Nat)).all (fun q => decide (decode cX0_allSquares q.1 = .ok (q.2.1, q.2.2))) = true := by decide +kernel
theorem dX0_allSquares_0 : decode cX0_allSquares 0 = .ok (.lconst 0, 1) := all_at dvX0_allSquares_0 0 rfl
theorem dX0_allSquares_1 : decode cX0_allSquares 1 = .ok (.lstore_n 2, 1) := all_at dvX0_allSquares_0 1 rfl
theorem dX0_allSquares_2 : decode cX0_allSquares 2 = .ok (.iconst 0, 1) := all_at dvX0_allSquares_0 2 rfl
theorem dX0_allSquares_3 : decode cX0_allSquares 3 = .ok (.istore 4, 2) := all_at dvX0_allSquares_0 3 rfl
theorem dX0_allSquares_5 : decode cX0_allSquares 5 = .ok (.iload 4, 2) := all_at dvX0_allSquares_0 4 rfl
theorem dX0_allSquares_7 : decode cX0_allSquares 7 = .ok (.aload_n 0, 1) := all_at dvX0_allSquares_0 5 rfl
theorem dX0_allSquares_8 : decode cX0_allSquares 8 = .ok (.getfield 15, 3) := all_at dvX0_allSquares_0 6 rfl
theorem dX0_allSquares_11 : decode cX0_allSquares 11 = .ok (.iload_n 1, 1) := all_at dvX0_allSquares_0 7 rfl
theorem dX0_allSquares_12 : decode cX0_allSquares 12 = .ok (.iaload, 1) := all_at dvX0_allSquares_0 8 rfl
theorem dX0_allSquares_13 : decode cX0_allSquares 13 = .ok (.if_icmp .ge 32, 3) := all_at dvX0_allSquares_0 9 rfl
theorem dX0_allSquares_16 : decode cX0_allSquares 16 = .ok (.aload_n 0, 1) := all_at dvX0_allSquares_0 10 rfl
theorem dX0_allSquares_17 : decode cX0_allSquares 17 = .ok (.getfield 27, 3) := all_at dvX0_allSquares_0 11 rfl
theorem dX0_allSquares_20 : decode cX0_allSquares 20 = .ok (.iload_n 1, 1) := all_at dvX0_allSquares_0 12 rfl
theorem dX0_allSquares_21 : decode cX0_allSquares 21 = .ok (.bipush 12, 2) := all_at dvX0_allSquares_0 13 rfl
theorem dX0_allSquares_23 : decode cX0_allSquares 23 = .ok (.imul, 1) := all_at dvX0_allSquares_0 14 rfl
theorem dX0_allSquares_24 : decode cX0_allSquares 24 = .ok (.iload 4, 2) := all_at dvX0_allSquares_0 15 rfl
theorem dX0_allSquares_26 : decode cX0_allSquares 26 = .ok (.iadd, 1) := all_at dvX0_allSquares_0 16 rfl
theorem dX0_allSquares_27 : decode cX0_allSquares 27 = .ok (.iaload, 1) := all_at dvX0_allSquares_0 17 rfl
theorem dX0_allSquares_28 : decode cX0_allSquares 28 = .ok (.i2l, 1) := all_at dvX0_allSquares_0 18 rfl
theorem dX0_allSquares_29 : decode cX0_allSquares 29 = .ok (.lstore 5, 2) := all_at dvX0_allSquares_0 19 rfl
theorem dX0_allSquares_31 : decode cX0_allSquares 31 = .ok (.lload_n 2, 1) := all_at dvX0_allSquares_0 20 rfl
theorem dX0_allSquares_32 : decode cX0_allSquares 32 = .ok (.lload 5, 2) := all_at dvX0_allSquares_0 21 rfl
theorem dX0_allSquares_34 : decode cX0_allSquares 34 = .ok (.lload 5, 2) := all_at dvX0_allSquares_0 22 rfl
theorem dX0_allSquares_36 : decode cX0_allSquares 36 = .ok (.lmul, 1) := all_at dvX0_allSquares_0 23 rfl
set_option maxRecDepth 100000 in
theorem dvX0_allSquares_37 : ([(37, .ladd, 1), (38, .lstore_n 2, 1), (39, .iinc 4 1, 3), (42, .goto (-37), 3), (45, .lload_n 2, 1), (46, .lreturn, 1)] : List (Nat × Instr × Nat)).all (fun q => decide (decode cX0_allSquares q.1 = .ok (q.2.1, q.2.2))) = true := by decide +kernel
theorem dX0_allSquares_37 : decode cX0_allSquares 37 = .ok (.ladd, 1) := all_at dvX0_allSquares_37 0 rfl
theorem dX0_allSquares_38 : decode cX0_allSquares 38 = .ok (.lstore_n 2, 1) := all_at dvX0_allSquares_37 1 rfl
theorem dX0_allSquares_39 : decode cX0_allSquares 39 = .ok (.iinc 4 1, 3) := all_at dvX0_allSquares_37 2 rfl
theorem dX0_allSquares_42 : decode cX0_allSquares 42 = .ok (.goto (-37), 3) := all_at dvX0_allSquares_37 3 rfl
theorem dX0_allSquares_45 : decode cX0_allSquares 45 = .ok (.lload_n 2, 1) := all_at dvX0_allSquares_37 4 rfl
theorem dX0_allSquares_46 : decode cX0_allSquares 46 = .ok (.lreturn, 1) := all_at dvX0_allSquares_37 5 rfl
set_option maxRecDepth 100000 in
theorem dvX0_bring_0 : ([(0, .aload_n 0, 1), (1, .getfield 11, 3), (4, .aload_n 0, 1), (5, .getfield 33, 3), (8, .iload_n 1, 1), (9, .iastore, 1), (10, .aload_n 0, 1), (11, .dup, 1), (12, .getfield 33, 3), (15, .iconst 1, 1), (16, .iadd, 1), (17, .putfield 33, 3), (20, .aload_n 0, 1), (21, .getfield 33, 3), (24, .iconst 1, 1), (25, .isub, 1), (26, .ireturn, 1)] : List (Nat × Instr × Nat)).all (fun q => decide (decode cX0_bring q.1 = .ok (q.2.1, q.2.2))) = true := by decide +kernel
theorem dX0_bring_0 : decode cX0_bring 0 = .ok (.aload_n 0, 1) := all_at dvX0_bring_0 0 rfl
theorem dX0_bring_1 : decode cX0_bring 1 = .ok (.getfield 11, 3) := all_at dvX0_bring_0 1 rfl
theorem dX0_bring_4 : decode cX0_bring 4 = .ok (.aload_n 0, 1) := all_at dvX0_bring_0 2 rfl
theorem dX0_bring_5 : decode cX0_bring 5 = .ok (.getfield 33, 3) := all_at dvX0_bring_0 3 rfl
theorem dX0_bring_8 : decode cX0_bring 8 = .ok (.iload_n 1, 1) := all_at dvX0_bring_0 4 rfl
theorem dX0_bring_9 : decode cX0_bring 9 = .ok (.iastore, 1) := all_at dvX0_bring_0 5 rfl
theorem dX0_bring_10 : decode cX0_bring 10 = .ok (.aload_n 0, 1) := all_at dvX0_bring_0 6 rfl
theorem dX0_bring_11 : decode cX0_bring 11 = .ok (.dup, 1) := all_at dvX0_bring_0 7 rfl
theorem dX0_bring_12 : decode cX0_bring 12 = .ok (.getfield 33, 3) := all_at dvX0_bring_0 8 rfl
theorem dX0_bring_15 : decode cX0_bring 15 = .ok (.iconst 1, 1) := all_at dvX0_bring_0 9 rfl
theorem dX0_bring_16 : decode cX0_bring 16 = .ok (.iadd, 1) := all_at dvX0_bring_0 10 rfl
theorem dX0_bring_17 : decode cX0_bring 17 = .ok (.putfield 33, 3) := all_at dvX0_bring_0 11 rfl
theorem dX0_bring_20 : decode cX0_bring 20 = .ok (.aload_n 0, 1) := all_at dvX0_bring_0 12 rfl
theorem dX0_bring_21 : decode cX0_bring 21 = .ok (.getfield 33, 3) := all_at dvX0_bring_0 13 rfl
theorem dX0_bring_24 : decode cX0_bring 24 = .ok (.iconst 1, 1) := all_at dvX0_bring_0 14 rfl
theorem dX0_bring_25 : decode cX0_bring 25 = .ok (.isub, 1) := all_at dvX0_bring_0 15 rfl
theorem dX0_bring_26 : decode cX0_bring 26 = .ok (.ireturn, 1) := all_at dvX0_bring_0 16 rfl
set_option maxRecDepth 100000 in
theorem dvX0_has_0 : ([(0, .iload_n 1, 1), (1, .ifCond .lt 15, 3), (4, .iload_n 1, 1), (5, .aload_n 0, 1), (6, .getfield 33, 3), (9, .if_icmp .ge 7, 3), (12, .iconst 1, 1), (13, .goto 4, 3), (16, .iconst 0, 1), (17, .ireturn, 1)] : List (Nat × Instr × Nat)).all (fun q => decide (decode cX0_has q.1 = .ok (q.2.1, q.2.2))) = true := by decide +kernel
theorem dX0_has_0 : decode cX0_has 0 = .ok (.iload_n 1, 1) := all_at dvX0_has_0 0 rfl
theorem dX0_has_1 : decode cX0_has 1 = .ok (.ifCond .lt 15, 3) := all_at dvX0_has_0 1 rfl
theorem dX0_has_4 : decode cX0_has 4 = .ok (.iload_n 1, 1) := all_at dvX0_has_0 2 rfl
theorem dX0_has_5 : decode cX0_has 5 = .ok (.aload_n 0, 1) := all_at dvX0_has_0 3 rfl
theorem dX0_has_6 : decode cX0_has 6 = .ok (.getfield 33, 3) := all_at dvX0_has_0 4 rfl
theorem dX0_has_9 : decode cX0_has 9 = .ok (.if_icmp .ge 7, 3) := all_at dvX0_has_0 5 rfl
theorem dX0_has_12 : decode cX0_has 12 = .ok (.iconst 1, 1) := all_at dvX0_has_0 6 rfl
theorem dX0_has_13 : decode cX0_has 13 = .ok (.goto 4, 3) := all_at dvX0_has_0 7 rfl
theorem dX0_has_16 : decode cX0_has 16 = .ok (.iconst 0, 1) := all_at dvX0_has_0 8 rfl
theorem dX0_has_17 : decode cX0_has 17 = .ok (.ireturn, 1) := all_at dvX0_has_0 9 rfl
set_option maxRecDepth 100000 in
theorem dvX0_middleTwist_0 : ([(0, .aload_n 0, 1), (1, .getfield 18, 3), (4, .iload_n 1, 1), (5, .iaload, 1), (6, .ifCond .ne 7, 3), (9, .iconst (-1), 1), (10, .goto 23, 3), (13, .aload_n 0, 1), (14, .getfield 30, 3), (17, .iload_n 1, 1), (18, .bipush 8, 2), (20, .imul, 1), (21, .aload_n 0, 1), (22, .getfield 18, 3), (25, .iload_n 1, 1), (26, .iaload, 1), (27, .iconst 1, 1), (28, .isub, 1), (29, .iconst 2, 1), (30, .idiv, 1), (31, .iadd, 1), (32, .iaload, 1), (33, .ireturn, 1)] : List (Nat × Instr × Nat)).all (fun q => decide (decode cX0_middleTwist q.1 = .ok (q.2.1, q.2.2))) = true := by decide +kernel
theorem dX0_middleTwist_0 : decode cX0_middleTwist 0 = .ok (.aload_n 0, 1) := all_at dvX0_middleTwist_0 0 rfl
theorem dX0_middleTwist_1 : decode cX0_middleTwist 1 = .ok (.getfield 18, 3) := all_at dvX0_middleTwist_0 1 rfl
theorem dX0_middleTwist_4 : decode cX0_middleTwist 4 = .ok (.iload_n 1, 1) := all_at dvX0_middleTwist_0 2 rfl
theorem dX0_middleTwist_5 : decode cX0_middleTwist 5 = .ok (.iaload, 1) := all_at dvX0_middleTwist_0 3 rfl
theorem dX0_middleTwist_6 : decode cX0_middleTwist 6 = .ok (.ifCond .ne 7, 3) := all_at dvX0_middleTwist_0 4 rfl
theorem dX0_middleTwist_9 : decode cX0_middleTwist 9 = .ok (.iconst (-1), 1) := all_at dvX0_middleTwist_0 5 rfl
theorem dX0_middleTwist_10 : decode cX0_middleTwist 10 = .ok (.goto 23, 3) := all_at dvX0_middleTwist_0 6 rfl
theorem dX0_middleTwist_13 : decode cX0_middleTwist 13 = .ok (.aload_n 0, 1) := all_at dvX0_middleTwist_0 7 rfl
theorem dX0_middleTwist_14 : decode cX0_middleTwist 14 = .ok (.getfield 30, 3) := all_at dvX0_middleTwist_0 8 rfl
theorem dX0_middleTwist_17 : decode cX0_middleTwist 17 = .ok (.iload_n 1, 1) := all_at dvX0_middleTwist_0 9 rfl
theorem dX0_middleTwist_18 : decode cX0_middleTwist 18 = .ok (.bipush 8, 2) := all_at dvX0_middleTwist_0 10 rfl
theorem dX0_middleTwist_20 : decode cX0_middleTwist 20 = .ok (.imul, 1) := all_at dvX0_middleTwist_0 11 rfl
theorem dX0_middleTwist_21 : decode cX0_middleTwist 21 = .ok (.aload_n 0, 1) := all_at dvX0_middleTwist_0 12 rfl
theorem dX0_middleTwist_22 : decode cX0_middleTwist 22 = .ok (.getfield 18, 3) := all_at dvX0_middleTwist_0 13 rfl
theorem dX0_middleTwist_25 : decode cX0_middleTwist 25 = .ok (.iload_n 1, 1) := all_at dvX0_middleTwist_0 14 rfl
theorem dX0_middleTwist_26 : decode cX0_middleTwist 26 = .ok (.iaload, 1) := all_at dvX0_middleTwist_0 15 rfl
theorem dX0_middleTwist_27 : decode cX0_middleTwist 27 = .ok (.iconst 1, 1) := all_at dvX0_middleTwist_0 16 rfl
theorem dX0_middleTwist_28 : decode cX0_middleTwist 28 = .ok (.isub, 1) := all_at dvX0_middleTwist_0 17 rfl
theorem dX0_middleTwist_29 : decode cX0_middleTwist 29 = .ok (.iconst 2, 1) := all_at dvX0_middleTwist_0 18 rfl
theorem dX0_middleTwist_30 : decode cX0_middleTwist 30 = .ok (.idiv, 1) := all_at dvX0_middleTwist_0 19 rfl
theorem dX0_middleTwist_31 : decode cX0_middleTwist 31 = .ok (.iadd, 1) := all_at dvX0_middleTwist_0 20 rfl
theorem dX0_middleTwist_32 : decode cX0_middleTwist 32 = .ok (.iaload, 1) := all_at dvX0_middleTwist_0 21 rfl
theorem dX0_middleTwist_33 : decode cX0_middleTwist 33 = .ok (.ireturn, 1) := all_at dvX0_middleTwist_0 22 rfl
set_option maxRecDepth 100000 in
theorem dvX0_reel_0 : ([(0, .aload_n 0, 1), (1, .getfield 27, 3), (4, .iload_n 1, 1), (5, .bipush 12, 2), (7, .imul, 1), (8, .aload_n 0, 1), (9, .getfield 15, 3), (12, .iload_n 1, 1), (13, .iaload, 1), (14, .iadd, 1), (15, .iconst 2, 1), (16, .iload_n 2, 1), (17, .imul, 1), (18, .iastore, 1), (19, .aload_n 0, 1), (20, .getfield 15, 3), (23, .iload_n 1, 1), (24, .dup2, 1), (25, .iaload, 1), (26, .iconst 1, 1), (27, .iadd, 1), (28, .iastore, 1), (29, .aload_n 0, 1), (30, .getfield 15, 3)] : List (Nat × Instr × Nat)).all (fun q => decide (decode cX0_reel q.1 = .ok (q.2.1, q.2.2))) = true := by decide +kernel
theorem dX0_reel_0 : decode cX0_reel 0 = .ok (.aload_n 0, 1) := all_at dvX0_reel_0 0 rfl
theorem dX0_reel_1 : decode cX0_reel 1 = .ok (.getfield 27, 3) := all_at dvX0_reel_0 1 rfl
theorem dX0_reel_4 : decode cX0_reel 4 = .ok (.iload_n 1, 1) := all_at dvX0_reel_0 2 rfl
theorem dX0_reel_5 : decode cX0_reel 5 = .ok (.bipush 12, 2) := all_at dvX0_reel_0 3 rfl
theorem dX0_reel_7 : decode cX0_reel 7 = .ok (.imul, 1) := all_at dvX0_reel_0 4 rfl
theorem dX0_reel_8 : decode cX0_reel 8 = .ok (.aload_n 0, 1) := all_at dvX0_reel_0 5 rfl
theorem dX0_reel_9 : decode cX0_reel 9 = .ok (.getfield 15, 3) := all_at dvX0_reel_0 6 rfl
theorem dX0_reel_12 : decode cX0_reel 12 = .ok (.iload_n 1, 1) := all_at dvX0_reel_0 7 rfl
theorem dX0_reel_13 : decode cX0_reel 13 = .ok (.iaload, 1) := all_at dvX0_reel_0 8 rfl
theorem dX0_reel_14 : decode cX0_reel 14 = .ok (.iadd, 1) := all_at dvX0_reel_0 9 rfl
theorem dX0_reel_15 : decode cX0_reel 15 = .ok (.iconst 2, 1) := all_at dvX0_reel_0 10 rfl
theorem dX0_reel_16 : decode cX0_reel 16 = .ok (.iload_n 2, 1) := all_at dvX0_reel_0 11 rfl
theorem dX0_reel_17 : decode cX0_reel 17 = .ok (.imul, 1) := all_at dvX0_reel_0 12 rfl
theorem dX0_reel_18 : decode cX0_reel 18 = .ok (.iastore, 1) := all_at dvX0_reel_0 13 rfl
theorem dX0_reel_19 : decode cX0_reel 19 = .ok (.aload_n 0, 1) := all_at dvX0_reel_0 14 rfl
theorem dX0_reel_20 : decode cX0_reel 20 = .ok (.getfield 15, 3) := all_at dvX0_reel_0 15 rfl
theorem dX0_reel_23 : decode cX0_reel 23 = .ok (.iload_n 1, 1) := all_at dvX0_reel_0 16 rfl
theorem dX0_reel_24 : decode cX0_reel 24 = .ok (.dup2, 1) := all_at dvX0_reel_0 17 rfl
theorem dX0_reel_25 : decode cX0_reel 25 = .ok (.iaload, 1) := all_at dvX0_reel_0 18 rfl
theorem dX0_reel_26 : decode cX0_reel 26 = .ok (.iconst 1, 1) := all_at dvX0_reel_0 19 rfl
theorem dX0_reel_27 : decode cX0_reel 27 = .ok (.iadd, 1) := all_at dvX0_reel_0 20 rfl
theorem dX0_reel_28 : decode cX0_reel 28 = .ok (.iastore, 1) := all_at dvX0_reel_0 21 rfl
theorem dX0_reel_29 : decode cX0_reel 29 = .ok (.aload_n 0, 1) := all_at dvX0_reel_0 22 rfl
theorem dX0_reel_30 : decode cX0_reel 30 = .ok (.getfield 15, 3) := all_at dvX0_reel_0 23 rfl
theorem dX0_reel_33 : decode cX0_reel 33 = .ok (.iload_n 1, 1) := by decide +kernel
theorem dX0_reel_34 : decode cX0_reel 34 = .ok (.iaload, 1) := by decide +kernel
theorem dX0_reel_35 : decode cX0_reel 35 = .ok (.ireturn, 1) := by decide +kernel
set_option maxRecDepth 100000 in
theorem dvX0_untwist_0 : ([(0, .iload_n 1, 1), (1, .bipush 8, 2), (3, .imul, 1), (4, .istore_n 3, 1), (5, .iload_n 3, 1), (6, .aload_n 0, 1), (7, .getfield 18, 3), (10, .iload_n 1, 1), (11, .iaload, 1), (12, .iadd, 1), (13, .istore 4, 2), (15, .iload 4, 2), (17, .iload_n 3, 1), (18, .if_icmp .le 38, 3), (21, .aload_n 0, 1), (22, .getfield 30, 3), (25, .iload 4, 2), (27, .iconst 1, 1), (28, .isub, 1), (29, .iaload, 1), (30, .iload_n 2, 1), (31, .if_icmp .le 25, 3), (34, .aload_n 0, 1), (35, .getfield 30, 3)] : List (Nat × Instr × Nat)).all (fun q => decide (decode cX0_untwist q.1 = .ok (q.2.1, q.2.2))) = true := by decide +kernel
theorem dX0_untwist_0 : decode cX0_untwist 0 = .ok (.iload_n 1, 1) := all_at dvX0_untwist_0 0 rfl
theorem dX0_untwist_1 : decode cX0_untwist 1 = .ok (.bipush 8, 2) := all_at dvX0_untwist_0 1 rfl
theorem dX0_untwist_3 : decode cX0_untwist 3 = .ok (.imul, 1) := all_at dvX0_untwist_0 2 rfl
theorem dX0_untwist_4 : decode cX0_untwist 4 = .ok (.istore_n 3, 1) := all_at dvX0_untwist_0 3 rfl
theorem dX0_untwist_5 : decode cX0_untwist 5 = .ok (.iload_n 3, 1) := all_at dvX0_untwist_0 4 rfl
theorem dX0_untwist_6 : decode cX0_untwist 6 = .ok (.aload_n 0, 1) := all_at dvX0_untwist_0 5 rfl
theorem dX0_untwist_7 : decode cX0_untwist 7 = .ok (.getfield 18, 3) := all_at dvX0_untwist_0 6 rfl
theorem dX0_untwist_10 : decode cX0_untwist 10 = .ok (.iload_n 1, 1) := all_at dvX0_untwist_0 7 rfl
theorem dX0_untwist_11 : decode cX0_untwist 11 = .ok (.iaload, 1) := all_at dvX0_untwist_0 8 rfl
theorem dX0_untwist_12 : decode cX0_untwist 12 = .ok (.iadd, 1) := all_at dvX0_untwist_0 9 rfl
theorem dX0_untwist_13 : decode cX0_untwist 13 = .ok (.istore 4, 2) := all_at dvX0_untwist_0 10 rfl
theorem dX0_untwist_15 : decode cX0_untwist 15 = .ok (.iload 4, 2) := all_at dvX0_untwist_0 11 rfl
theorem dX0_untwist_17 : decode cX0_untwist 17 = .ok (.iload_n 3, 1) := all_at dvX0_untwist_0 12 rfl
theorem dX0_untwist_18 : decode cX0_untwist 18 = .ok (.if_icmp .le 38, 3) := all_at dvX0_untwist_0 13 rfl
theorem dX0_untwist_21 : decode cX0_untwist 21 = .ok (.aload_n 0, 1) := all_at dvX0_untwist_0 14 rfl
theorem dX0_untwist_22 : decode cX0_untwist 22 = .ok (.getfield 30, 3) := all_at dvX0_untwist_0 15 rfl
theorem dX0_untwist_25 : decode cX0_untwist 25 = .ok (.iload 4, 2) := all_at dvX0_untwist_0 16 rfl
theorem dX0_untwist_27 : decode cX0_untwist 27 = .ok (.iconst 1, 1) := all_at dvX0_untwist_0 17 rfl
theorem dX0_untwist_28 : decode cX0_untwist 28 = .ok (.isub, 1) := all_at dvX0_untwist_0 18 rfl
theorem dX0_untwist_29 : decode cX0_untwist 29 = .ok (.iaload, 1) := all_at dvX0_untwist_0 19 rfl
theorem dX0_untwist_30 : decode cX0_untwist 30 = .ok (.iload_n 2, 1) := all_at dvX0_untwist_0 20 rfl
theorem dX0_untwist_31 : decode cX0_untwist 31 = .ok (.if_icmp .le 25, 3) := all_at dvX0_untwist_0 21 rfl
theorem dX0_untwist_34 : decode cX0_untwist 34 = .ok (.aload_n 0, 1) := all_at dvX0_untwist_0 22 rfl
theorem dX0_untwist_35 : decode cX0_untwist 35 = .ok (.getfield 30, 3) := all_at dvX0_untwist_0 23 rfl
set_option maxRecDepth 100000 in
theorem dvX0_untwist_38 : ([(38, .iload 4, 2), (40, .aload_n 0, 1), (41, .getfield 30, 3), (44, .iload 4, 2), (46, .iconst 1, 1), (47, .isub, 1), (48, .iaload, 1), (49, .iastore, 1), (50, .iinc 4 (-1), 3), (53, .goto (-38), 3), (56, .aload_n 0, 1), (57, .getfield 30, 3), (60, .iload 4, 2), (62, .iload_n 2, 1), (63, .iastore, 1), (64, .aload_n 0, 1), (65, .getfield 18, 3), (68, .iload_n 1, 1), (69, .dup2, 1), (70, .iaload, 1), (71, .iconst 1, 1), (72, .iadd, 1), (73, .iastore, 1), (74, .aload_n 0, 1)] : List (Nat × Instr × Nat)).all (fun q => decide (decode cX0_untwist q.1 = .ok (q.2.1, q.2.2))) = true := by decide +kernel
theorem dX0_untwist_38 : decode cX0_untwist 38 = .ok (.iload 4, 2) := all_at dvX0_untwist_38 0 rfl
theorem dX0_untwist_40 : decode cX0_untwist 40 = .ok (.aload_n 0, 1) := all_at dvX0_untwist_38 1 rfl
theorem dX0_untwist_41 : decode cX0_untwist 41 = .ok (.getfield 30, 3) := all_at dvX0_untwist_38 2 rfl
theorem dX0_untwist_44 : decode cX0_untwist 44 = .ok (.iload 4, 2) := all_at dvX0_untwist_38 3 rfl
theorem dX0_untwist_46 : decode cX0_untwist 46 = .ok (.iconst 1, 1) := all_at dvX0_untwist_38 4 rfl
theorem dX0_untwist_47 : decode cX0_untwist 47 = .ok (.isub, 1) := all_at dvX0_untwist_38 5 rfl
theorem dX0_untwist_48 : decode cX0_untwist 48 = .ok (.iaload, 1) := all_at dvX0_untwist_38 6 rfl
theorem dX0_untwist_49 : decode cX0_untwist 49 = .ok (.iastore, 1) := all_at dvX0_untwist_38 7 rfl
theorem dX0_untwist_50 : decode cX0_untwist 50 = .ok (.iinc 4 (-1), 3) := all_at dvX0_untwist_38 8 rfl
theorem dX0_untwist_53 : decode cX0_untwist 53 = .ok (.goto (-38), 3) := all_at dvX0_untwist_38 9 rfl
theorem dX0_untwist_56 : decode cX0_untwist 56 = .ok (.aload_n 0, 1) := all_at dvX0_untwist_38 10 rfl
theorem dX0_untwist_57 : decode cX0_untwist 57 = .ok (.getfield 30, 3) := all_at dvX0_untwist_38 11 rfl
theorem dX0_untwist_60 : decode cX0_untwist 60 = .ok (.iload 4, 2) := all_at dvX0_untwist_38 12 rfl
theorem dX0_untwist_62 : decode cX0_untwist 62 = .ok (.iload_n 2, 1) := all_at dvX0_untwist_38 13 rfl
theorem dX0_untwist_63 : decode cX0_untwist 63 = .ok (.iastore, 1) := all_at dvX0_untwist_38 14 rfl
theorem dX0_untwist_64 : decode cX0_untwist 64 = .ok (.aload_n 0, 1) := all_at dvX0_untwist_38 15 rfl
theorem dX0_untwist_65 : decode cX0_untwist 65 = .ok (.getfield 18, 3) := all_at dvX0_untwist_38 16 rfl
theorem dX0_untwist_68 : decode cX0_untwist 68 = .ok (.iload_n 1, 1) := all_at dvX0_untwist_38 17 rfl
theorem dX0_untwist_69 : decode cX0_untwist 69 = .ok (.dup2, 1) := all_at dvX0_untwist_38 18 rfl
theorem dX0_untwist_70 : decode cX0_untwist 70 = .ok (.iaload, 1) := all_at dvX0_untwist_38 19 rfl
theorem dX0_untwist_71 : decode cX0_untwist 71 = .ok (.iconst 1, 1) := all_at dvX0_untwist_38 20 rfl
theorem dX0_untwist_72 : decode cX0_untwist 72 = .ok (.iadd, 1) := all_at dvX0_untwist_38 21 rfl
theorem dX0_untwist_73 : decode cX0_untwist 73 = .ok (.iastore, 1) := all_at dvX0_untwist_38 22 rfl
theorem dX0_untwist_74 : decode cX0_untwist 74 = .ok (.aload_n 0, 1) := all_at dvX0_untwist_38 23 rfl
set_option maxRecDepth 100000 in
theorem dvX0_untwist_75 : ([(75, .getfield 18, 3), (78, .iload_n 1, 1), (79, .iaload, 1), (80, .ireturn, 1)] : List (Nat × Instr × Nat)).all (fun q => decide (decode cX0_untwist q.1 = .ok (q.2.1, q.2.2))) = true := by decide +kernel
theorem dX0_untwist_75 : decode cX0_untwist 75 = .ok (.getfield 18, 3) := all_at dvX0_untwist_75 0 rfl
theorem dX0_untwist_78 : decode cX0_untwist 78 = .ok (.iload_n 1, 1) := all_at dvX0_untwist_75 1 rfl
theorem dX0_untwist_79 : decode cX0_untwist 79 = .ok (.iaload, 1) := all_at dvX0_untwist_75 2 rfl
theorem dX0_untwist_80 : decode cX0_untwist 80 = .ok (.ireturn, 1) := all_at dvX0_untwist_75 3 rfl
set_option maxHeartbeats 4000000 in
set_option maxRecDepth 100000 in
/-- X0_has -/
theorem c_X0_has (l : Launch) (dC : Nat → ClassId) (dI : Nat → Nat → Nat) (h : Nat) (g : Nat → Nat → Nat) (ca : Nat → Nat → ClassId) (iv : Nat → Nat → Int32) (lv : Nat → Nat → Int64) (fa : Nat → Nat → Nat → Int32) (la : Nat → Nat → Nat → Int64) (hI : IX iv fa) (b : Int32) : Met l yX0_has (wc yX0_has cX0_has 2 (some .boolean)) ({ frames := 0, cells := 0, slots := 0, locals := 0 } : Room) (pR (dC, dI) classes (WX h g ca iv lv fa la) (TX ca) [.ref (g 11 2), .int b]) (vp_Si (fun r => (r = 1 ∧ (0 ≤ b.toInt ∧ b.toInt < (iv 0 7).toInt)) ∨ (r = 0 ∧ ¬ (0 ≤ b.toInt ∧ b.toInt < (iv 0 7).toInt)))) 0 0 (fun _ => False) := by
  refine Met.ofW (cc := cX0_has) (maxL := 2) (ret := (some .boolean)) (by decide) rfl ?_
  intro p e s m args below meth c s₁ B hml hv
  obtain ⟨rfl, hP, hK⟩ := hv
  have hx := B.exec
  have hb := B.bytes
  have hr := B.returns
  have ht := tb_tl (atoms_spec (ws := wc yX0_has cX0_has 2 (some .boolean)) B.pre)
  have hown : s.vm.findClass RX0 = some m.cls := findClass_of_methodNamed B.named
  have hlocks := B.notSynchronized
  have hl := lv_entry [.ref (g 11 2), .int b] (n := 2) (Nat.le_of_ble_eq_true rfl)
  rw [lg_entry_eq]
  generalize (lg_sl [.ref (g 11 2), .int b] ++ List.replicate (2 - (lg_sl [.ref (g 11 2), .int b]).length) Slot.unset).toArray = ls at hl ⊢
  have hl : lv_has ls 2 [(0, .ref (g 11 2)), (1, .int b)] := hl
  refine lv_iload_n hx hb dX0_has_0 rfl (lv_at hl 1 rfl) ?_
  refine lv_if_lt (tgt := 16) hx hb dX0_has_1 (by decide) (fun c1 => ?_) (fun c1 => ?_)
  · have fc1 := z_lt (rfl : (b).toInt = _) (by decide : (0 : Int32).toInt = 0) c1
    refine lv_iconst (v := 0) hx hb dX0_has_16 (by decide) ?_
    exact W.zret (v := 0) hx hb hr rfl (fun t ht9 hW => ⟨0, rfl, Or.inr ⟨rfl, by omega⟩, ht9⟩) (fun q hq => by cases hq) dX0_has_17
  · have fc1 := z_nlt (rfl : (b).toInt = _) (by decide : (0 : Int32).toInt = 0) c1
    refine lv_iload_n hx hb dX0_has_4 rfl (lv_at hl 1 rfl) ?_
    refine lv_aload_n hx hb dX0_has_5 rfl (lv_at hl 0 rfl) ?_
    have i_0_7 : 0 ≤ (iv 0 7).toInt ∧ (iv 0 7).toInt ≤ 10 := hI.1 0 7
    refine gX_0_7 hx hb ht hown hK hP m_164 (v := (iv 0 7)) rfl dX0_has_6 ?_
    refine lv_icmp_ge (tgt := 16) hx hb dX0_has_9 (by decide) (fun c2 => ?_) (fun c2 => ?_)
    · have fc2 := z_le (rfl : ((iv 0 7)).toInt = _) (rfl : (b).toInt = _) c2
      refine lv_iconst (v := 0) hx hb dX0_has_16 (by decide) ?_
      exact W.zret (v := 0) hx hb hr rfl (fun t ht9 hW => ⟨0, rfl, Or.inr ⟨rfl, by omega⟩, ht9⟩) (fun q hq => by cases hq) dX0_has_17
    · have fc2 := z_nle (rfl : ((iv 0 7)).toInt = _) (rfl : (b).toInt = _) c2
      refine lv_iconst (v := 1) hx hb dX0_has_12 (by decide) ?_
      refine lv_goto (tgt := 17) hx hb dX0_has_13 (by decide) ?_
      exact W.zret (v := 1) hx hb hr rfl (fun t ht9 hW => ⟨1, rfl, Or.inl ⟨rfl, by omega⟩, ht9⟩) (fun q hq => by cases hq) dX0_has_17
set_option maxHeartbeats 4000000 in
set_option maxRecDepth 100000 in
/-- X0_reel -/
theorem c_X0_reel (l : Launch) (dC : Nat → ClassId) (dI : Nat → Nat → Nat) (sz : Nat) (h : Nat) (g : Nat → Nat → Nat) (ca : Nat → Nat → ClassId) (iv : Nat → Nat → Int32) (lv : Nat → Nat → Int64) (fa : Nat → Nat → Nat → Int32) (la : Nat → Nat → Nat → Int64) (hI : IX iv fa) (b : Int32) (a : Int32) (z_0_1 : 0 ≤ (fa 0 1 b.toNatClampNeg).toInt ∧ (fa 0 1 b.toNatClampNeg).toInt ≤ 11) (h_b : 0 ≤ b.toInt ∧ b.toInt ≤ 9) : Met l yX0_reel (wc yX0_reel cX0_reel 3 (some .int)) ({ frames := 0, cells := 0, slots := 0, locals := 0 } : Room) (pW (dC, dI) classes (WX h g ca iv lv fa la) (TX ca) sz [.ref (g 11 2), .int b, .int a]) (va_Qi (fun r (u : SS) => ∃ (na_0_1 : Nat → Int32) (na_0_5 : Nat → Int32), (∀ j, inb (bA 0 1 j) (na_0_1 j)) ∧ (0 ≤ r.toInt ∧ r.toInt ≤ 12) ∧ u = (iv, lv, (u2 (u2 fa 0 1 na_0_1) 0 5 na_0_5), la)) (bX (dC, dI) h g ca (va_A (WX h g ca iv lv fa la) sz)) (va_A (WX h g ca iv lv fa la) sz)) 0 0 (va_A (WX h g ca iv lv fa la) sz) := by
  refine Met.ofW (cc := cX0_reel) (maxL := 3) (ret := (some .int)) (by decide) rfl ?_
  intro p e s m args below meth c s₁ B hml hv
  obtain ⟨rfl, hsz, hP, hK, hD0⟩ := hv
  have hx := B.exec
  have hb := B.bytes
  have hr := B.returns
  have ht := tb_tl (atoms_spec (ws := wc yX0_reel cX0_reel 3 (some .int)) B.pre)
  have hown : s.vm.findClass RX0 = some m.cls := findClass_of_methodNamed B.named
  have hlocks := B.notSynchronized
  subst hsz
  have hD := hD0.self (sz := s.heap.size)
  generalize hAe : va_A (WX h g ca iv lv fa la) s.heap.size = A at hD ⊢
  have hA : ∀ q : Nat, s.heap.size ≤ q → A q := fun q h => by rw [← hAe]; exact Or.inr h
  have hS : va_S A s.heap s.heap [] := va_S.rf
  have hl := lv_entry [.ref (g 11 2), .int b, .int a] (n := 3) (Nat.le_of_ble_eq_true rfl)
  rw [lg_entry_eq]
  generalize (lg_sl [.ref (g 11 2), .int b, .int a] ++ List.replicate (3 - (lg_sl [.ref (g 11 2), .int b, .int a]).length) Slot.unset).toArray = ls at hl ⊢
  have hl : lv_has ls 3 [(0, .ref (g 11 2)), (1, .int b), (2, .int a)] := hl
  refine lv_aload_n hx hb dX0_reel_0 rfl (lv_at hl 0 rfl) ?_
  refine gX_0_5 hx hb ht hown hK hP m_162 dX0_reel_1 ?_
  refine lv_iload_n hx hb dX0_reel_4 rfl (lv_at hl 1 rfl) ?_
  refine lv_bipush (v := 12) hx hb dX0_reel_5 (by decide) ?_
  refine lv_imul hx hb dX0_reel_7 ?_
  refine lv_topi (fun v1 ev1 => ?_)
  have tv1 := z_mul ev1 (rfl : (b).toInt = _) (by decide : (12 : Int32).toInt = 12) (by omega) (by omega)
  refine lv_aload_n hx hb dX0_reel_8 rfl (lv_at hl 0 rfl) ?_
  refine gX_0_1 hx hb ht hown hK hP m_154 dX0_reel_9 ?_
  refine lv_iload_n hx hb dX0_reel_12 rfl (lv_at hl 1 rfl) ?_
  refine lX_0_1 hx hb hK hP (f := (fa 0 1)) rfl (vp_in_iff.mpr ⟨by omega, by omega⟩) dX0_reel_13 ?_
  refine lv_topi (fun v2 ev2 => ?_)
  have tv2 : 0 ≤ v2.toInt ∧ v2.toInt ≤ 11 := by rw [ev2]; exact z_0_1
  refine lv_iadd hx hb dX0_reel_14 ?_
  refine lv_topi (fun v3 ev3 => ?_)
  have tv3 := z_add ev3 (rfl : (v1).toInt = _) (rfl : (v2).toInt = _) (by omega) (by omega)
  refine lv_iconst (v := 2) hx hb dX0_reel_15 (by decide) ?_
  refine lv_iload_n hx hb dX0_reel_16 rfl (lv_at hl 2 rfl) ?_
  refine lv_imul hx hb dX0_reel_17 ?_
  refine lv_topi (fun v4 ev4 => ?_)
  refine tX_0_5 hx hb hK hP hD hS (f0 := (fa 0 5)) rfl (i := v3) (x := v4) (vp_in_iff.mpr ⟨by omega, by omega⟩) dX0_reel_18 (fun f5 ef5 H locs hP hD hS => ?_)
  have hf5 : ∀ j, inb (bA 0 5 j) (f5 j) := fun j => full_i _
  refine lv_aload_n hx hb dX0_reel_19 rfl (lv_at hl 0 rfl) ?_
  refine gX_0_1 hx hb ht hown hK hP m_154 dX0_reel_20 ?_
  refine lv_iload_n hx hb dX0_reel_23 rfl (lv_at hl 1 rfl) ?_
  refine lv_dup2_11 hx hb dX0_reel_24 rfl rfl ?_
  refine lX_0_1 hx hb hK hP (f := (fa 0 1)) rfl (vp_in_iff.mpr ⟨by omega, by omega⟩) dX0_reel_25 ?_
  refine lv_topi (fun v6 ev6 => ?_)
  obtain rfl : v2 = v6 := ev2.trans ev6.symm
  refine lv_iconst (v := 1) hx hb dX0_reel_26 (by decide) ?_
  refine lv_iadd hx hb dX0_reel_27 ?_
  refine lv_topi (fun v7 ev7 => ?_)
  have tv7 := z_add ev7 (rfl : (v2).toInt = _) (by decide : (1 : Int32).toInt = 1) (by omega) (by omega)
  refine tX_0_1 hx hb hK hP hD hS (f0 := (fa 0 1)) rfl (i := b) (x := v7) (vp_in_iff.mpr ⟨by omega, by omega⟩) dX0_reel_28 (fun f8 ef8 H locs hP hD hS => ?_)
  have hf8 : ∀ j, inb (bA 0 1 j) (f8 j) := by rw [ef8]; exact upd_b (b := bA 0 1) (hI.2 0 1) (show inb (0, 12) v7 from ⟨by omega, by omega⟩)
  refine lv_aload_n hx hb dX0_reel_29 rfl (lv_at hl 0 rfl) ?_
  refine gX_0_1 hx hb ht hown hK hP m_154 dX0_reel_30 ?_
  refine lv_iload_n hx hb dX0_reel_33 rfl (lv_at hl 1 rfl) ?_
  refine lX_0_1 hx hb hK hP (f := f8) rfl (vp_in_iff.mpr ⟨by omega, by omega⟩) dX0_reel_34 ?_
  refine lv_topi (fun v9 ev9 => ?_)
  have tv9 : 0 ≤ v9.toInt ∧ v9.toInt ≤ 12 := by rw [ev9]; exact hf8 _
  have hP9 : va_P (dC, dI) classes (WX h g ca iv lv (u2 (u2 fa 0 1 f8) 0 5 f5) la) H := hP
  have hD9 : va_D A (WX h g ca iv lv (u2 (u2 fa 0 1 f8) 0 5 f5) la) := hD
  exact W.iret (v := v9) hx hb hr (fun t ht9 hW => ⟨⟨v9, (iv, lv, (u2 (u2 fa 0 1 f8) 0 5 f5), la), rfl, ⟨f8, f5, hf8, ⟨by omega, by omega⟩, rfl⟩, by rw [ht9]; exact hP9, hD9⟩, hS.F ht9⟩) hS.2.2 dX0_reel_35
set_option maxHeartbeats 4000000 in
set_option maxRecDepth 100000 in
/-- X0_allSizes -/
theorem c_X0_allSizes (l : Launch) (dC : Nat → ClassId) (dI : Nat → Nat → Nat) (h : Nat) (g : Nat → Nat → Nat) (ca : Nat → Nat → ClassId) (iv : Nat → Nat → Int32) (lv : Nat → Nat → Int64) (fa : Nat → Nat → Nat → Int32) (la : Nat → Nat → Nat → Int64) (hI : IX iv fa) (b : Int32) (h_b : 0 ≤ b.toInt ∧ b.toInt ≤ 9) : Met l yX0_allSizes (wc yX0_allSizes cX0_allSizes 4 (some .int)) ({ frames := 0, cells := 0, slots := 0, locals := 0 } : Room) (pR (dC, dI) classes (WX h g ca iv lv fa la) (TX ca) [.ref (g 11 2), .int b]) (vp_Si (fun r => True)) 0 0 (fun _ => False) := by
  refine Met.ofW (cc := cX0_allSizes) (maxL := 4) (ret := (some .int)) (by decide) rfl ?_
  intro p e s m args below meth c s₁ B hml hv
  obtain ⟨rfl, hP, hK⟩ := hv
  have hx := B.exec
  have hb := B.bytes
  have hr := B.returns
  have ht := tb_tl (atoms_spec (ws := wc yX0_allSizes cX0_allSizes 4 (some .int)) B.pre)
  have hown : s.vm.findClass RX0 = some m.cls := findClass_of_methodNamed B.named
  have hlocks := B.notSynchronized
  have hl := lv_entry [.ref (g 11 2), .int b] (n := 4) (Nat.le_of_ble_eq_true rfl)
  rw [lg_entry_eq]
  generalize (lg_sl [.ref (g 11 2), .int b] ++ List.replicate (4 - (lg_sl [.ref (g 11 2), .int b]).length) Slot.unset).toArray = ls at hl ⊢
  have hl : lv_has ls 4 [(0, .ref (g 11 2)), (1, .int b)] := hl
  refine lv_iconst (v := 0) hx hb dX0_allSizes_0 (by decide) ?_
  refine lv_istore_n (lv' := [(2, .int 0), (0, .ref (g 11 2)), (1, .int b)]) hx hb dX0_allSizes_1 rfl hl (by decide) rfl (fun ls hl => ?_)
  refine lv_iconst (v := 0) hx hb dX0_allSizes_2 (by decide) ?_
  refine lv_istore_n (lv' := [(3, .int 0), (2, .int 0), (0, .ref (g 11 2)), (1, .int b)]) hx hb dX0_allSizes_3 rfl hl (by decide) rfl (fun ls hl => ?_)
  have lp106 : ∀ (nn106 : Nat) (x105_3 : Int32) (x105_2 : Int32), 0 ≤ x105_3.toInt ∧ x105_3.toInt ≤ 12 → 12 - x105_3.toInt < (nn106 : Int) → ∀ (ls : Array Slot), lv_has ls 4 [(3, .int x105_3), (2, .int x105_2), (0, .ref (g 11 2)), (1, .int b)] → W p l e ({ frames := 0, cells := 0, slots := 0, locals := 0 } : Room) s m ([.ref (g 11 2), .int b] : List Value).toArray below meth c s.heap [] 0 0 (MQ below (vp_Si (fun r => True)) ([.ref (g 11 2), .int b] : List Value).toArray s 0 0 (fun _ => False)) (F0 m 4 ls []) := by
    intro nn106
    induction nn106 with
    | zero => intro x105_3 x105_2 hx105_3 hm106; exfalso; omega
    | succ nn106 ih106 =>
      intro x105_3 x105_2 hx105_3 hm106 ls hl
      refine lv_iload_n hx hb dX0_allSizes_4 rfl (lv_at hl 0 rfl) ?_
      refine lv_aload_n hx hb dX0_allSizes_5 rfl (lv_at hl 2 rfl) ?_
      refine gX_0_1 hx hb ht hown hK hP m_154 dX0_allSizes_6 ?_
      refine lv_iload_n hx hb dX0_allSizes_9 rfl (lv_at hl 3 rfl) ?_
      refine lX_0_1 hx hb hK hP (f := (fa 0 1)) rfl (vp_in_iff.mpr ⟨by omega, by omega⟩) dX0_allSizes_10 ?_
      refine lv_topi (fun v107 ev107 => ?_)
      have tv107 : 0 ≤ v107.toInt ∧ v107.toInt ≤ 12 := by rw [ev107]; exact hI.2 0 1 _
      refine lv_icmp_ge (tgt := 34) hx hb dX0_allSizes_11 (by decide) (fun c108 => ?_) (fun c108 => ?_)
      · have fc108 := z_le (rfl : (v107).toInt = _) (rfl : (x105_3).toInt = _) c108
        refine lv_iload_n hx hb dX0_allSizes_34 rfl (lv_at hl 1 rfl) ?_
        exact W.iret (v := x105_2) hx hb hr (fun t ht9 hW => ⟨x105_2, rfl, trivial, ht9⟩) (fun q hq => by cases hq) dX0_allSizes_35
      · have fc108 := z_nle (rfl : (v107).toInt = _) (rfl : (x105_3).toInt = _) c108
        refine lv_iload_n hx hb dX0_allSizes_14 rfl (lv_at hl 1 rfl) ?_
        refine lv_aload_n hx hb dX0_allSizes_15 rfl (lv_at hl 2 rfl) ?_
        refine gX_0_5 hx hb ht hown hK hP m_162 dX0_allSizes_16 ?_
        refine lv_iload_n hx hb dX0_allSizes_19 rfl (lv_at hl 3 rfl) ?_
        refine lv_bipush (v := 12) hx hb dX0_allSizes_20 (by decide) ?_
        refine lv_imul hx hb dX0_allSizes_22 ?_
        refine lv_topi (fun v109 ev109 => ?_)
        have tv109 := z_mul ev109 (rfl : (b).toInt = _) (by decide : (12 : Int32).toInt = 12) (by omega) (by omega)
        refine lv_iload_n hx hb dX0_allSizes_23 rfl (lv_at hl 0 rfl) ?_
        refine lv_iadd hx hb dX0_allSizes_24 ?_
        refine lv_topi (fun v110 ev110 => ?_)
        have tv110 := z_add ev110 (rfl : (v109).toInt = _) (rfl : (x105_3).toInt = _) (by omega) (by omega)
        refine lX_0_5 hx hb hK hP (f := (fa 0 5)) rfl (vp_in_iff.mpr ⟨by omega, by omega⟩) dX0_allSizes_25 ?_
        refine lv_topi (fun v111 ev111 => ?_)
        refine lv_iadd hx hb dX0_allSizes_26 ?_
        refine lv_topi (fun v112 ev112 => ?_)
        refine lv_istore_n (lv' := [(2, .int v112), (3, .int x105_3), (0, .ref (g 11 2)), (1, .int b)]) hx hb dX0_allSizes_27 rfl hl (by decide) rfl (fun ls hl => ?_)
        obtain ⟨v113, ev113⟩ : ∃ y : Int32, y = x105_3 + 1 := ⟨_, rfl⟩
        have tv113 := z_add ev113 rfl (by decide : (1 : Int32).toInt = 1) (by omega) (by omega)
        refine lv_iinc (v := v113) (lv' := [(3, .int v113), (2, .int v112), (0, .ref (g 11 2)), (1, .int b)]) hx hb dX0_allSizes_28 hl (k := 1) rfl (by rw [ev113]; rfl) (by decide) rfl (fun ls hl => ?_)
        refine lv_goto (tgt := 4) hx hb dX0_allSizes_31 (by decide) ?_
        exact ih106 v113 v112 ⟨by omega, by omega⟩ (by omega) ls (lv_sub hl [0, 1, 2, 3] rfl)
  exact lp106 13 0 0 ⟨by decide, by decide⟩ (by first | decide | omega) ls (lv_sub hl [0, 1, 2, 3] rfl)
set_option maxHeartbeats 4000000 in
set_option maxRecDepth 100000 in
/-- X0_allSquares -/
theorem c_X0_allSquares (l : Launch) (dC : Nat → ClassId) (dI : Nat → Nat → Nat) (h : Nat) (g : Nat → Nat → Nat) (ca : Nat → Nat → ClassId) (iv : Nat → Nat → Int32) (lv : Nat → Nat → Int64) (fa : Nat → Nat → Nat → Int32) (la : Nat → Nat → Nat → Int64) (hI : IX iv fa) (b : Int32) (h_b : 0 ≤ b.toInt ∧ b.toInt ≤ 9) : Met l yX0_allSquares (wc yX0_allSquares cX0_allSquares 7 (some .long)) ({ frames := 0, cells := 0, slots := 0, locals := 0 } : Room) (pR (dC, dI) classes (WX h g ca iv lv fa la) (TX ca) [.ref (g 11 2), .int b]) (vp_Sl (fun r => True)) 0 0 (fun _ => False) := by
  refine Met.ofW (cc := cX0_allSquares) (maxL := 7) (ret := (some .long)) (by decide) rfl ?_
  intro p e s m args below meth c s₁ B hml hv
  obtain ⟨rfl, hP, hK⟩ := hv
  have hx := B.exec
  have hb := B.bytes
  have hr := B.returns
  have ht := tb_tl (atoms_spec (ws := wc yX0_allSquares cX0_allSquares 7 (some .long)) B.pre)
  have hown : s.vm.findClass RX0 = some m.cls := findClass_of_methodNamed B.named
  have hlocks := B.notSynchronized
  have hl := lv_entry [.ref (g 11 2), .int b] (n := 7) (Nat.le_of_ble_eq_true rfl)
  rw [lg_entry_eq]
  generalize (lg_sl [.ref (g 11 2), .int b] ++ List.replicate (7 - (lg_sl [.ref (g 11 2), .int b]).length) Slot.unset).toArray = ls at hl ⊢
  have hl : lv_has ls 7 [(0, .ref (g 11 2)), (1, .int b)] := hl
  refine lv_lconst (v := 0) hx hb dX0_allSquares_0 (by decide) ?_
  refine lv_lstore_n (lv' := [(2, .long 0), (0, .ref (g 11 2)), (1, .int b)]) hx hb dX0_allSquares_1 rfl hl (by decide) rfl (fun ls hl => ?_)
  refine lv_iconst (v := 0) hx hb dX0_allSquares_2 (by decide) ?_
  refine lv_istore (lv' := [(4, .int 0), (2, .long 0), (0, .ref (g 11 2)), (1, .int b)]) hx hb dX0_allSquares_3 hl (by decide) rfl (fun ls hl => ?_)
  have lp119 : ∀ (nn119 : Nat) (x118_4 : Int32) (x118_2 : Int64), 0 ≤ x118_4.toInt ∧ x118_4.toInt ≤ 12 → 12 - x118_4.toInt < (nn119 : Int) → ∀ (ls : Array Slot), lv_has ls 7 [(4, .int x118_4), (2, .long x118_2), (0, .ref (g 11 2)), (1, .int b)] → W p l e ({ frames := 0, cells := 0, slots := 0, locals := 0 } : Room) s m ([.ref (g 11 2), .int b] : List Value).toArray below meth c s.heap [] 0 0 (MQ below (vp_Sl (fun r => True)) ([.ref (g 11 2), .int b] : List Value).toArray s 0 0 (fun _ => False)) (F0 m 5 ls []) := by
    intro nn119
    induction nn119 with
    | zero => intro x118_4 x118_2 hx118_4 hm119; exfalso; omega
    | succ nn119 ih119 =>
      intro x118_4 x118_2 hx118_4 hm119 ls hl
      refine lv_iload hx hb dX0_allSquares_5 (lv_at hl 0 rfl) ?_
      refine lv_aload_n hx hb dX0_allSquares_7 rfl (lv_at hl 2 rfl) ?_
      refine gX_0_1 hx hb ht hown hK hP m_154 dX0_allSquares_8 ?_
      refine lv_iload_n hx hb dX0_allSquares_11 rfl (lv_at hl 3 rfl) ?_
      refine lX_0_1 hx hb hK hP (f := (fa 0 1)) rfl (vp_in_iff.mpr ⟨by omega, by omega⟩) dX0_allSquares_12 ?_
      refine lv_topi (fun v120 ev120 => ?_)
      have tv120 : 0 ≤ v120.toInt ∧ v120.toInt ≤ 12 := by rw [ev120]; exact hI.2 0 1 _
      refine lv_icmp_ge (tgt := 45) hx hb dX0_allSquares_13 (by decide) (fun c121 => ?_) (fun c121 => ?_)
      · have fc121 := z_le (rfl : (v120).toInt = _) (rfl : (x118_4).toInt = _) c121
        refine lv_lload_n hx hb dX0_allSquares_45 rfl (lv_at hl 1 rfl) ?_
        exact W.lret (v := x118_2) hx hb hr (fun t ht9 hW => ⟨x118_2, rfl, trivial, ht9⟩) (fun q hq => by cases hq) dX0_allSquares_46
      · have fc121 := z_nle (rfl : (v120).toInt = _) (rfl : (x118_4).toInt = _) c121
        refine lv_aload_n hx hb dX0_allSquares_16 rfl (lv_at hl 2 rfl) ?_
        refine gX_0_5 hx hb ht hown hK hP m_162 dX0_allSquares_17 ?_
        refine lv_iload_n hx hb dX0_allSquares_20 rfl (lv_at hl 3 rfl) ?_
        refine lv_bipush (v := 12) hx hb dX0_allSquares_21 (by decide) ?_
        refine lv_imul hx hb dX0_allSquares_23 ?_
        refine lv_topi (fun v122 ev122 => ?_)
        have tv122 := z_mul ev122 (rfl : (b).toInt = _) (by decide : (12 : Int32).toInt = 12) (by omega) (by omega)
        refine lv_iload hx hb dX0_allSquares_24 (lv_at hl 0 rfl) ?_
        refine lv_iadd hx hb dX0_allSquares_26 ?_
        refine lv_topi (fun v123 ev123 => ?_)
        have tv123 := z_add ev123 (rfl : (v122).toInt = _) (rfl : (x118_4).toInt = _) (by omega) (by omega)
        refine lX_0_5 hx hb hK hP (f := (fa 0 5)) rfl (vp_in_iff.mpr ⟨by omega, by omega⟩) dX0_allSquares_27 ?_
        refine lv_topi (fun v124 ev124 => ?_)
        refine lv_i2l (v := (v124.toInt64)) hx hb dX0_allSquares_28 rfl ?_
        refine lv_lstore (lv' := [(5, .long (v124.toInt64)), (4, .int x118_4), (2, .long x118_2), (0, .ref (g 11 2)), (1, .int b)]) hx hb dX0_allSquares_29 hl (by decide) rfl (fun ls hl => ?_)
        refine lv_lload_n hx hb dX0_allSquares_31 rfl (lv_at hl 2 rfl) ?_
        refine lv_lload hx hb dX0_allSquares_32 (lv_at hl 0 rfl) ?_
        refine lv_lload hx hb dX0_allSquares_34 (lv_at hl 0 rfl) ?_
        refine lv_lmul hx hb dX0_allSquares_36 ?_
        refine lv_topl (fun w125 ew125 => ?_)
        refine lv_ladd hx hb dX0_allSquares_37 ?_
        refine lv_topl (fun w126 ew126 => ?_)
        refine lv_lstore_n (lv' := [(2, .long w126), (5, .long (v124.toInt64)), (4, .int x118_4), (0, .ref (g 11 2)), (1, .int b)]) hx hb dX0_allSquares_38 rfl hl (by decide) rfl (fun ls hl => ?_)
        obtain ⟨v127, ev127⟩ : ∃ y : Int32, y = x118_4 + 1 := ⟨_, rfl⟩
        have tv127 := z_add ev127 rfl (by decide : (1 : Int32).toInt = 1) (by omega) (by omega)
        refine lv_iinc (v := v127) (lv' := [(4, .int v127), (2, .long w126), (5, .long (v124.toInt64)), (0, .ref (g 11 2)), (1, .int b)]) hx hb dX0_allSquares_39 hl (k := 2) rfl (by rw [ev127]; rfl) (by decide) rfl (fun ls hl => ?_)
        refine lv_goto (tgt := 5) hx hb dX0_allSquares_42 (by decide) ?_
        exact ih119 v127 w126 ⟨by omega, by omega⟩ (by omega) ls (lv_sub hl [0, 1, 3, 4] rfl)
  exact lp119 13 0 0 ⟨by decide, by decide⟩ (by first | decide | omega) ls (lv_sub hl [0, 1, 2, 3] rfl)
set_option maxHeartbeats 4000000 in
set_option maxRecDepth 100000 in
/-- X0_untwist -/
theorem c_X0_untwist (l : Launch) (dC : Nat → ClassId) (dI : Nat → Nat → Nat) (sz : Nat) (h : Nat) (g : Nat → Nat → Nat) (ca : Nat → Nat → ClassId) (iv : Nat → Nat → Int32) (lv : Nat → Nat → Int64) (fa : Nat → Nat → Nat → Int32) (la : Nat → Nat → Nat → Int64) (hI : IX iv fa) (b : Int32) (a : Int32) (z_0_2 : 0 ≤ (fa 0 2 b.toNatClampNeg).toInt ∧ (fa 0 2 b.toNatClampNeg).toInt ≤ 7) (h_b : 0 ≤ b.toInt ∧ b.toInt ≤ 9) : Met l yX0_untwist (wc yX0_untwist cX0_untwist 5 (some .int)) ({ frames := 0, cells := 0, slots := 0, locals := 0 } : Room) (pW (dC, dI) classes (WX h g ca iv lv fa la) (TX ca) sz [.ref (g 11 2), .int b, .int a]) (va_Qi (fun r (u : SS) => ∃ (na_0_2 : Nat → Int32) (na_0_6 : Nat → Int32), (∀ j, inb (bA 0 2 j) (na_0_2 j)) ∧ (0 ≤ r.toInt ∧ r.toInt ≤ 8) ∧ u = (iv, lv, (u2 (u2 fa 0 2 na_0_2) 0 6 na_0_6), la)) (bX (dC, dI) h g ca (va_A (WX h g ca iv lv fa la) sz)) (va_A (WX h g ca iv lv fa la) sz)) 0 0 (va_A (WX h g ca iv lv fa la) sz) := by
  refine Met.ofW (cc := cX0_untwist) (maxL := 5) (ret := (some .int)) (by decide) rfl ?_
  intro p e s m args below meth c s₁ B hml hv
  obtain ⟨rfl, hsz, hP, hK, hD0⟩ := hv
  have hx := B.exec
  have hb := B.bytes
  have hr := B.returns
  have ht := tb_tl (atoms_spec (ws := wc yX0_untwist cX0_untwist 5 (some .int)) B.pre)
  have hown : s.vm.findClass RX0 = some m.cls := findClass_of_methodNamed B.named
  have hlocks := B.notSynchronized
  subst hsz
  have hD := hD0.self (sz := s.heap.size)
  generalize hAe : va_A (WX h g ca iv lv fa la) s.heap.size = A at hD ⊢
  have hA : ∀ q : Nat, s.heap.size ≤ q → A q := fun q h => by rw [← hAe]; exact Or.inr h
  have hS : va_S A s.heap s.heap [] := va_S.rf
  have hl := lv_entry [.ref (g 11 2), .int b, .int a] (n := 5) (Nat.le_of_ble_eq_true rfl)
  rw [lg_entry_eq]
  generalize (lg_sl [.ref (g 11 2), .int b, .int a] ++ List.replicate (5 - (lg_sl [.ref (g 11 2), .int b, .int a]).length) Slot.unset).toArray = ls at hl ⊢
  have hl : lv_has ls 5 [(0, .ref (g 11 2)), (1, .int b), (2, .int a)] := hl
  refine lv_iload_n hx hb dX0_untwist_0 rfl (lv_at hl 1 rfl) ?_
  refine lv_bipush (v := 8) hx hb dX0_untwist_1 (by decide) ?_
  refine lv_imul hx hb dX0_untwist_3 ?_
  refine lv_topi (fun v1 ev1 => ?_)
  have tv1 := z_mul ev1 (rfl : (b).toInt = _) (by decide : (8 : Int32).toInt = 8) (by omega) (by omega)
  refine lv_istore_n (lv' := [(3, .int v1), (0, .ref (g 11 2)), (1, .int b), (2, .int a)]) hx hb dX0_untwist_4 rfl hl (by decide) rfl (fun ls hl => ?_)
  refine lv_iload_n hx hb dX0_untwist_5 rfl (lv_at hl 0 rfl) ?_
  refine lv_aload_n hx hb dX0_untwist_6 rfl (lv_at hl 1 rfl) ?_
  refine gX_0_2 hx hb ht hown hK hP m_156 dX0_untwist_7 ?_
  refine lv_iload_n hx hb dX0_untwist_10 rfl (lv_at hl 2 rfl) ?_
  refine lX_0_2 hx hb hK hP (f := (fa 0 2)) rfl (vp_in_iff.mpr ⟨by omega, by omega⟩) dX0_untwist_11 ?_
  refine lv_topi (fun v2 ev2 => ?_)
  have tv2 : 0 ≤ v2.toInt ∧ v2.toInt ≤ 7 := by rw [ev2]; exact z_0_2
  refine lv_iadd hx hb dX0_untwist_12 ?_
  refine lv_topi (fun v3 ev3 => ?_)
  have tv3 := z_add ev3 (rfl : (v1).toInt = _) (rfl : (v2).toInt = _) (by omega) (by omega)
  refine lv_istore (lv' := [(4, .int v3), (3, .int v1), (0, .ref (g 11 2)), (1, .int b), (2, .int a)]) hx hb dX0_untwist_13 hl (by decide) rfl (fun ls hl => ?_)
  have lp43 : ∀ (nn43 : Nat) (x42_4 : Int32) (w42_a_0_6 : Nat → Int32), 0 ≤ x42_4.toInt ∧ x42_4.toInt ≤ 79 → (∀ j, inb (bA 0 6 j) (w42_a_0_6 j)) → x42_4.toInt - 0 < (nn43 : Int) → ∀ (H : Heap) (locs : List Loc), ∀ (ls : Array Slot), va_P (dC, dI) classes (WX h g ca iv lv (u2 fa 0 6 w42_a_0_6) la) H → va_D A (WX h g ca iv lv (u2 fa 0 6 w42_a_0_6) la) → va_S A s.heap H locs → lv_has ls 5 [(4, .int x42_4), (3, .int v1), (0, .ref (g 11 2)), (1, .int b), (2, .int a)] → W p l e ({ frames := 0, cells := 0, slots := 0, locals := 0 } : Room) s m ([.ref (g 11 2), .int b, .int a] : List Value).toArray below meth c H locs 0 0 (MQ below (va_Qi (fun r (u : SS) => ∃ (na_0_2 : Nat → Int32) (na_0_6 : Nat → Int32), (∀ j, inb (bA 0 2 j) (na_0_2 j)) ∧ (0 ≤ r.toInt ∧ r.toInt ≤ 8) ∧ u = (iv, lv, (u2 (u2 fa 0 2 na_0_2) 0 6 na_0_6), la)) (bX (dC, dI) h g ca A) A) ([.ref (g 11 2), .int b, .int a] : List Value).toArray s 0 0 A) (F0 m 15 ls []) := by
    intro nn43
    induction nn43 with
    | zero => intro x42_4 w42_a_0_6 hx42_4 hw42_a_0_6 hm43; exfalso; omega
    | succ nn43 ih43 =>
      intro x42_4 w42_a_0_6 hx42_4 hw42_a_0_6 hm43 H locs ls hP hD hS hl
      refine lv_iload hx hb dX0_untwist_15 (lv_at hl 0 rfl) ?_
      refine lv_iload_n hx hb dX0_untwist_17 rfl (lv_at hl 1 rfl) ?_
      refine lv_icmp_le (tgt := 56) hx hb dX0_untwist_18 (by decide) (fun c44 => ?_) (fun c44 => ?_)
      · have fc44 := z_le (rfl : (x42_4).toInt = _) (rfl : (v1).toInt = _) c44
        refine lv_aload_n hx hb dX0_untwist_56 rfl (lv_at hl 2 rfl) ?_
        refine gX_0_6 hx hb ht hown hK hP m_163 dX0_untwist_57 ?_
        refine lv_iload hx hb dX0_untwist_60 (lv_at hl 0 rfl) ?_
        refine lv_iload_n hx hb dX0_untwist_62 rfl (lv_at hl 4 rfl) ?_
        refine tX_0_6 hx hb hK hP hD hS (f0 := w42_a_0_6) rfl (i := x42_4) (x := a) (vp_in_iff.mpr ⟨by omega, by omega⟩) dX0_untwist_63 (fun f45 ef45 H locs hP hD hS => ?_)
        have hf45 : ∀ j, inb (bA 0 6 j) (f45 j) := fun j => full_i _
        have hP : va_P (dC, dI) classes (WX h g ca iv lv (u2 fa 0 6 f45) la) H := hP
        have hD : va_D A (WX h g ca iv lv (u2 fa 0 6 f45) la) := hD
        refine lv_aload_n hx hb dX0_untwist_64 rfl (lv_at hl 2 rfl) ?_
        refine gX_0_2 hx hb ht hown hK hP m_156 dX0_untwist_65 ?_
        refine lv_iload_n hx hb dX0_untwist_68 rfl (lv_at hl 3 rfl) ?_
        refine lv_dup2_11 hx hb dX0_untwist_69 rfl rfl ?_
        refine lX_0_2 hx hb hK hP (f := (fa 0 2)) rfl (vp_in_iff.mpr ⟨by omega, by omega⟩) dX0_untwist_70 ?_
        refine lv_topi (fun v46 ev46 => ?_)
        obtain rfl : v2 = v46 := ev2.trans ev46.symm
        refine lv_iconst (v := 1) hx hb dX0_untwist_71 (by decide) ?_
        refine lv_iadd hx hb dX0_untwist_72 ?_
        refine lv_topi (fun v47 ev47 => ?_)
        have tv47 := z_add ev47 (rfl : (v2).toInt = _) (by decide : (1 : Int32).toInt = 1) (by omega) (by omega)
        refine tX_0_2 hx hb hK hP hD hS (f0 := (fa 0 2)) rfl (i := b) (x := v47) (vp_in_iff.mpr ⟨by omega, by omega⟩) dX0_untwist_73 (fun f48 ef48 H locs hP hD hS => ?_)
        have hf48 : ∀ j, inb (bA 0 2 j) (f48 j) := by rw [ef48]; exact upd_b (b := bA 0 2) (hI.2 0 2) (show inb (0, 8) v47 from ⟨by omega, by omega⟩)
        refine lv_aload_n hx hb dX0_untwist_74 rfl (lv_at hl 2 rfl) ?_
        refine gX_0_2 hx hb ht hown hK hP m_156 dX0_untwist_75 ?_
        refine lv_iload_n hx hb dX0_untwist_78 rfl (lv_at hl 3 rfl) ?_
        refine lX_0_2 hx hb hK hP (f := f48) rfl (vp_in_iff.mpr ⟨by omega, by omega⟩) dX0_untwist_79 ?_
        refine lv_topi (fun v49 ev49 => ?_)
        have tv49 : 0 ≤ v49.toInt ∧ v49.toInt ≤ 8 := by rw [ev49]; exact hf48 _
        have hP9 : va_P (dC, dI) classes (WX h g ca iv lv (u2 (u2 fa 0 2 f48) 0 6 f45) la) H := hP
        have hD9 : va_D A (WX h g ca iv lv (u2 (u2 fa 0 2 f48) 0 6 f45) la) := hD
        exact W.iret (v := v49) hx hb hr (fun t ht9 hW => ⟨⟨v49, (iv, lv, (u2 (u2 fa 0 2 f48) 0 6 f45), la), rfl, ⟨f48, f45, hf48, ⟨by omega, by omega⟩, rfl⟩, by rw [ht9]; exact hP9, hD9⟩, hS.F ht9⟩) hS.2.2 dX0_untwist_80
      · have fc44 := z_nle (rfl : (x42_4).toInt = _) (rfl : (v1).toInt = _) c44
        refine lv_aload_n hx hb dX0_untwist_21 rfl (lv_at hl 2 rfl) ?_
        refine gX_0_6 hx hb ht hown hK hP m_163 dX0_untwist_22 ?_
        refine lv_iload hx hb dX0_untwist_25 (lv_at hl 0 rfl) ?_
        refine lv_iconst (v := 1) hx hb dX0_untwist_27 (by decide) ?_
        refine lv_isub hx hb dX0_untwist_28 ?_
        refine lv_topi (fun v50 ev50 => ?_)
        have tv50 := z_sub ev50 (rfl : (x42_4).toInt = _) (by decide : (1 : Int32).toInt = 1) (by omega) (by omega)
        refine lX_0_6 hx hb hK hP (f := w42_a_0_6) rfl (vp_in_iff.mpr ⟨by omega, by omega⟩) dX0_untwist_29 ?_
        refine lv_topi (fun v51 ev51 => ?_)
        refine lv_iload_n hx hb dX0_untwist_30 rfl (lv_at hl 4 rfl) ?_
        refine lv_icmp_le (tgt := 56) hx hb dX0_untwist_31 (by decide) (fun c52 => ?_) (fun c52 => ?_)
        · have fc52 := z_le (rfl : (v51).toInt = _) (rfl : (a).toInt = _) c52
          refine lv_aload_n hx hb dX0_untwist_56 rfl (lv_at hl 2 rfl) ?_
          refine gX_0_6 hx hb ht hown hK hP m_163 dX0_untwist_57 ?_
          refine lv_iload hx hb dX0_untwist_60 (lv_at hl 0 rfl) ?_
          refine lv_iload_n hx hb dX0_untwist_62 rfl (lv_at hl 4 rfl) ?_
          refine tX_0_6 hx hb hK hP hD hS (f0 := w42_a_0_6) rfl (i := x42_4) (x := a) (vp_in_iff.mpr ⟨by omega, by omega⟩) dX0_untwist_63 (fun f53 ef53 H locs hP hD hS => ?_)
          have hf53 : ∀ j, inb (bA 0 6 j) (f53 j) := fun j => full_i _
          have hP : va_P (dC, dI) classes (WX h g ca iv lv (u2 fa 0 6 f53) la) H := hP
          have hD : va_D A (WX h g ca iv lv (u2 fa 0 6 f53) la) := hD
          refine lv_aload_n hx hb dX0_untwist_64 rfl (lv_at hl 2 rfl) ?_
          refine gX_0_2 hx hb ht hown hK hP m_156 dX0_untwist_65 ?_
          refine lv_iload_n hx hb dX0_untwist_68 rfl (lv_at hl 3 rfl) ?_
          refine lv_dup2_11 hx hb dX0_untwist_69 rfl rfl ?_
          refine lX_0_2 hx hb hK hP (f := (fa 0 2)) rfl (vp_in_iff.mpr ⟨by omega, by omega⟩) dX0_untwist_70 ?_
          refine lv_topi (fun v54 ev54 => ?_)
          obtain rfl : v2 = v54 := ev2.trans ev54.symm
          refine lv_iconst (v := 1) hx hb dX0_untwist_71 (by decide) ?_
          refine lv_iadd hx hb dX0_untwist_72 ?_
          refine lv_topi (fun v55 ev55 => ?_)
          have tv55 := z_add ev55 (rfl : (v2).toInt = _) (by decide : (1 : Int32).toInt = 1) (by omega) (by omega)
          refine tX_0_2 hx hb hK hP hD hS (f0 := (fa 0 2)) rfl (i := b) (x := v55) (vp_in_iff.mpr ⟨by omega, by omega⟩) dX0_untwist_73 (fun f56 ef56 H locs hP hD hS => ?_)
          have hf56 : ∀ j, inb (bA 0 2 j) (f56 j) := by rw [ef56]; exact upd_b (b := bA 0 2) (hI.2 0 2) (show inb (0, 8) v55 from ⟨by omega, by omega⟩)
          refine lv_aload_n hx hb dX0_untwist_74 rfl (lv_at hl 2 rfl) ?_
          refine gX_0_2 hx hb ht hown hK hP m_156 dX0_untwist_75 ?_
          refine lv_iload_n hx hb dX0_untwist_78 rfl (lv_at hl 3 rfl) ?_
          refine lX_0_2 hx hb hK hP (f := f56) rfl (vp_in_iff.mpr ⟨by omega, by omega⟩) dX0_untwist_79 ?_
          refine lv_topi (fun v57 ev57 => ?_)
          have tv57 : 0 ≤ v57.toInt ∧ v57.toInt ≤ 8 := by rw [ev57]; exact hf56 _
          have hP9 : va_P (dC, dI) classes (WX h g ca iv lv (u2 (u2 fa 0 2 f56) 0 6 f53) la) H := hP
          have hD9 : va_D A (WX h g ca iv lv (u2 (u2 fa 0 2 f56) 0 6 f53) la) := hD
          exact W.iret (v := v57) hx hb hr (fun t ht9 hW => ⟨⟨v57, (iv, lv, (u2 (u2 fa 0 2 f56) 0 6 f53), la), rfl, ⟨f56, f53, hf56, ⟨by omega, by omega⟩, rfl⟩, by rw [ht9]; exact hP9, hD9⟩, hS.F ht9⟩) hS.2.2 dX0_untwist_80
        · have fc52 := z_nle (rfl : (v51).toInt = _) (rfl : (a).toInt = _) c52
          refine lv_aload_n hx hb dX0_untwist_34 rfl (lv_at hl 2 rfl) ?_
          refine gX_0_6 hx hb ht hown hK hP m_163 dX0_untwist_35 ?_
          refine lv_iload hx hb dX0_untwist_38 (lv_at hl 0 rfl) ?_
          refine lv_aload_n hx hb dX0_untwist_40 rfl (lv_at hl 2 rfl) ?_
          refine gX_0_6 hx hb ht hown hK hP m_163 dX0_untwist_41 ?_
          refine lv_iload hx hb dX0_untwist_44 (lv_at hl 0 rfl) ?_
          refine lv_iconst (v := 1) hx hb dX0_untwist_46 (by decide) ?_
          refine lv_isub hx hb dX0_untwist_47 ?_
          refine lv_topi (fun v58 ev58 => ?_)
          obtain rfl : v50 = v58 := ev50.trans ev58.symm
          refine lX_0_6 hx hb hK hP (f := w42_a_0_6) rfl (vp_in_iff.mpr ⟨by omega, by omega⟩) dX0_untwist_48 ?_
          refine lv_topi (fun v59 ev59 => ?_)
          obtain rfl : v51 = v59 := ev51.trans ev59.symm
          refine tX_0_6 hx hb hK hP hD hS (f0 := w42_a_0_6) rfl (i := x42_4) (x := v51) (vp_in_iff.mpr ⟨by omega, by omega⟩) dX0_untwist_49 (fun f60 ef60 H locs hP hD hS => ?_)
          have hf60 : ∀ j, inb (bA 0 6 j) (f60 j) := fun j => full_i _
          have hP : va_P (dC, dI) classes (WX h g ca iv lv (u2 fa 0 6 f60) la) H := hP
          have hD : va_D A (WX h g ca iv lv (u2 fa 0 6 f60) la) := hD
          obtain ⟨v61, ev61⟩ : ∃ y : Int32, y = x42_4 + (-1) := ⟨_, rfl⟩
          have tv61 := z_add ev61 rfl (by decide : ((-1) : Int32).toInt = (-1)) (by omega) (by omega)
          refine lv_iinc (v := v61) (lv' := [(4, .int v61), (3, .int v1), (0, .ref (g 11 2)), (1, .int b), (2, .int a)]) hx hb dX0_untwist_50 hl (k := 0) rfl (by rw [ev61]; rfl) (by decide) rfl (fun ls hl => ?_)
          refine lv_goto (tgt := 15) hx hb dX0_untwist_53 (by decide) ?_
          exact ih43 v61 f60 ⟨by omega, by omega⟩ hf60 (by omega) _ _ ls hP hD hS (lv_sub hl [0, 1, 2, 3, 4] rfl)
  exact lp43 80 v3 (fa 0 6) ⟨by omega, by omega⟩ (hI.2 0 6) (by first | decide | omega) _ _ ls hP hD hS (lv_sub hl [0, 1, 2, 3, 4] rfl)
set_option maxHeartbeats 4000000 in
set_option maxRecDepth 100000 in
/-- X0_middleTwist -/
theorem c_X0_middleTwist (l : Launch) (dC : Nat → ClassId) (dI : Nat → Nat → Nat) (h : Nat) (g : Nat → Nat → Nat) (ca : Nat → Nat → ClassId) (iv : Nat → Nat → Int32) (lv : Nat → Nat → Int64) (fa : Nat → Nat → Nat → Int32) (la : Nat → Nat → Nat → Int64) (hI : IX iv fa) (b : Int32) (h_b : 0 ≤ b.toInt ∧ b.toInt ≤ 9) : Met l yX0_middleTwist (wc yX0_middleTwist cX0_middleTwist 2 (some .int)) ({ frames := 0, cells := 0, slots := 0, locals := 0 } : Room) (pR (dC, dI) classes (WX h g ca iv lv fa la) (TX ca) [.ref (g 11 2), .int b]) (vp_Si (fun r => True)) 0 0 (fun _ => False) := by
  refine Met.ofW (cc := cX0_middleTwist) (maxL := 2) (ret := (some .int)) (by decide) rfl ?_
  intro p e s m args below meth c s₁ B hml hv
  obtain ⟨rfl, hP, hK⟩ := hv
  have hx := B.exec
  have hb := B.bytes
  have hr := B.returns
  have ht := tb_tl (atoms_spec (ws := wc yX0_middleTwist cX0_middleTwist 2 (some .int)) B.pre)
  have hown : s.vm.findClass RX0 = some m.cls := findClass_of_methodNamed B.named
  have hlocks := B.notSynchronized
  have hl := lv_entry [.ref (g 11 2), .int b] (n := 2) (Nat.le_of_ble_eq_true rfl)
  rw [lg_entry_eq]
  generalize (lg_sl [.ref (g 11 2), .int b] ++ List.replicate (2 - (lg_sl [.ref (g 11 2), .int b]).length) Slot.unset).toArray = ls at hl ⊢
  have hl : lv_has ls 2 [(0, .ref (g 11 2)), (1, .int b)] := hl
  refine lv_aload_n hx hb dX0_middleTwist_0 rfl (lv_at hl 0 rfl) ?_
  refine gX_0_2 hx hb ht hown hK hP m_156 dX0_middleTwist_1 ?_
  refine lv_iload_n hx hb dX0_middleTwist_4 rfl (lv_at hl 1 rfl) ?_
  refine lX_0_2 hx hb hK hP (f := (fa 0 2)) rfl (vp_in_iff.mpr ⟨by omega, by omega⟩) dX0_middleTwist_5 ?_
  refine lv_topi (fun v1 ev1 => ?_)
  have tv1 : 0 ≤ v1.toInt ∧ v1.toInt ≤ 8 := by rw [ev1]; exact hI.2 0 2 _
  refine lv_if_ne (tgt := 13) hx hb dX0_middleTwist_6 (by decide) (fun c2 => ?_) (fun c2 => ?_)
  · have fc2 := z_ne (rfl : (v1).toInt = _) (by decide : (0 : Int32).toInt = 0) c2
    refine lv_aload_n hx hb dX0_middleTwist_13 rfl (lv_at hl 0 rfl) ?_
    refine gX_0_6 hx hb ht hown hK hP m_163 dX0_middleTwist_14 ?_
    refine lv_iload_n hx hb dX0_middleTwist_17 rfl (lv_at hl 1 rfl) ?_
    refine lv_bipush (v := 8) hx hb dX0_middleTwist_18 (by decide) ?_
    refine lv_imul hx hb dX0_middleTwist_20 ?_
    refine lv_topi (fun v3 ev3 => ?_)
    have tv3 := z_mul ev3 (rfl : (b).toInt = _) (by decide : (8 : Int32).toInt = 8) (by omega) (by omega)
    refine lv_aload_n hx hb dX0_middleTwist_21 rfl (lv_at hl 0 rfl) ?_
    refine gX_0_2 hx hb ht hown hK hP m_156 dX0_middleTwist_22 ?_
    refine lv_iload_n hx hb dX0_middleTwist_25 rfl (lv_at hl 1 rfl) ?_
    refine lX_0_2 hx hb hK hP (f := (fa 0 2)) rfl (vp_in_iff.mpr ⟨by omega, by omega⟩) dX0_middleTwist_26 ?_
    refine lv_topi (fun v4 ev4 => ?_)
    obtain rfl : v1 = v4 := ev1.trans ev4.symm
    refine lv_iconst (v := 1) hx hb dX0_middleTwist_27 (by decide) ?_
    refine lv_isub hx hb dX0_middleTwist_28 ?_
    refine lv_topi (fun v5 ev5 => ?_)
    have tv5 := z_sub ev5 (rfl : (v1).toInt = _) (by decide : (1 : Int32).toInt = 1) (by omega) (by omega)
    refine lv_iconst (v := 2) hx hb dX0_middleTwist_29 (by decide) ?_
    refine lv_idiv hx hb dX0_middleTwist_30 (by decide) ?_
    refine lv_topi (fun v6 ev6 => ?_)
    have tv6 := z_divp ev6 (rfl : (v5).toInt = _) (by decide : (2 : Int32).toInt = 2) (by omega) (by omega)
    refine lv_iadd hx hb dX0_middleTwist_31 ?_
    refine lv_topi (fun v7 ev7 => ?_)
    have tv7 := z_add ev7 (rfl : (v3).toInt = _) (rfl : (v6).toInt = _) (by omega) (by omega)
    refine lX_0_6 hx hb hK hP (f := (fa 0 6)) rfl (vp_in_iff.mpr ⟨by omega, by omega⟩) dX0_middleTwist_32 ?_
    refine lv_topi (fun v8 ev8 => ?_)
    exact W.iret (v := v8) hx hb hr (fun t ht9 hW => ⟨v8, rfl, trivial, ht9⟩) (fun q hq => by cases hq) dX0_middleTwist_33
  · have fc2 := z_eq (rfl : (v1).toInt = _) (by decide : (0 : Int32).toInt = 0) c2
    refine lv_iconst (v := (-1)) hx hb dX0_middleTwist_9 (by decide) ?_
    refine lv_goto (tgt := 33) hx hb dX0_middleTwist_10 (by decide) ?_
    exact W.iret (v := (-1)) hx hb hr (fun t ht9 hW => ⟨(-1), rfl, trivial, ht9⟩) (fun q hq => by cases hq) dX0_middleTwist_33
/-! ===== papers ===== -/
theorem m_88 : Cond.initialized RX6 ∈ tb := mb_1_0 _ (List.mem_of_getElem? (i := 11) rfl)
theorem m_383 : Cond.fieldLink RX6 11 "SilkHouse$Papers" "kind" "[I" ∈ tb := mb_2_1 _ (List.mem_of_getElem? (i := 5) rfl)
theorem m_385 : Cond.fieldLink RX6 15 "SilkHouse$Papers" "bale" "[I" ∈ tb := mb_2_1 _ (List.mem_of_getElem? (i := 7) rfl)
theorem m_387 : Cond.fieldLink RX6 18 "SilkHouse$Papers" "amount" "[I" ∈ tb := mb_2_1 _ (List.mem_of_getElem? (i := 9) rfl)
theorem m_389 : Cond.fieldLink RX6 21 "SilkHouse$Papers" "on" "[I" ∈ tb := mb_2_1 _ (List.mem_of_getElem? (i := 11) rfl)
theorem m_391 : Cond.fieldLink RX6 24 "SilkHouse$Papers" "day" "[I" ∈ tb := mb_2_1 _ (List.mem_of_getElem? (i := 13) rfl)
theorem m_393 : Cond.fieldLink RX6 27 "SilkHouse$Papers" "undone" "[I" ∈ tb := mb_2_1 _ (List.mem_of_getElem? (i := 15) rfl)
theorem m_395 : Cond.fieldLink RX6 30 "SilkHouse$Papers" "falls" "[Z" ∈ tb := mb_2_1 _ (List.mem_of_getElem? (i := 17) rfl)
theorem m_396 : Cond.fieldLink RX6 34 "SilkHouse$Papers" "number" "I" ∈ tb := mb_2_1 _ (List.mem_of_getElem? (i := 18) rfl)
theorem m_664 : Cond.instanceMethod yX6_isCertificate ∈ tb := mb_3_3 _ (List.mem_of_getElem? (i := 23) rfl)
theorem m_665 : Cond.selects RX6 yX6_isCertificate yX6_isCertificate ∈ tb := mb_3_4 _ (List.mem_of_getElem? (i := 0) rfl)
theorem m_666 : Cond.code yX6_isCertificate cX6_isCertificate 2 (some .boolean) ∈ tb := mb_3_4 _ (List.mem_of_getElem? (i := 1) rfl)
theorem m_1078 : Cond.methodLink RX6 38 yX6_isCertificate ∈ tb := mb_5_1 _ (List.mem_of_getElem? (i := 15) rfl)
theorem m_1079 : Cond.methodLink RX6 42 yX6_isUndone ∈ tb := mb_5_1 _ (List.mem_of_getElem? (i := 16) rfl)
theorem m_1080 : Cond.instanceMethod yX6_isUndone ∈ tb := mb_5_1 _ (List.mem_of_getElem? (i := 17) rfl)
theorem m_1081 : Cond.selects RX6 yX6_isUndone yX6_isUndone ∈ tb := mb_5_1 _ (List.mem_of_getElem? (i := 18) rfl)
theorem m_1082 : Cond.code yX6_isUndone cX6_isUndone 2 (some .boolean) ∈ tb := mb_5_1 _ (List.mem_of_getElem? (i := 19) rfl)
theorem m_1096 : Cond.instanceMethod yX6_has ∈ tb := mb_5_2 _ (List.mem_of_getElem? (i := 9) rfl)
theorem m_1097 : Cond.selects RX6 yX6_has yX6_has ∈ tb := mb_5_2 _ (List.mem_of_getElem? (i := 10) rfl)
theorem m_1098 : Cond.code yX6_has cX6_has 2 (some .boolean) ∈ tb := mb_5_2 _ (List.mem_of_getElem? (i := 11) rfl)
theorem m_1116 : Cond.methodLink RX6 45 yX6_has ∈ tb := mb_5_3 _ (List.mem_of_getElem? (i := 5) rfl)
theorem hd_X6_has_v : yX6_has.cls = RX6 ∧ yX6_has.cls ≠ "java/lang/invoke/MethodHandle" ∧ yX6_has.cls ≠ "java/lang/invoke/VarHandle" ∧ (parseMethodDescriptor yX6_has.desc).map (fun d => d.parameters.length) = some 1 := by decide +kernel
theorem hd_X6_isCertificate_v : yX6_isCertificate.cls = RX6 ∧ yX6_isCertificate.cls ≠ "java/lang/invoke/MethodHandle" ∧ yX6_isCertificate.cls ≠ "java/lang/invoke/VarHandle" ∧ (parseMethodDescriptor yX6_isCertificate.desc).map (fun d => d.parameters.length) = some 1 := by decide +kernel
theorem hd_X6_isUndone_v : yX6_isUndone.cls = RX6 ∧ yX6_isUndone.cls ≠ "java/lang/invoke/MethodHandle" ∧ yX6_isUndone.cls ≠ "java/lang/invoke/VarHandle" ∧ (parseMethodDescriptor yX6_isUndone.desc).map (fun d => d.parameters.length) = some 1 := by decide +kernel
set_option maxRecDepth 100000 in
theorem dvX6_certified_0 : ([(0, .iconst 0, 1), (1, .istore_n 2, 1), (2, .iload_n 2, 1), (3, .aload_n 0, 1), (4, .getfield 34, 3), (7, .if_icmp .ge 37, 3), (10, .aload_n 0, 1), (11, .iload_n 2, 1), (12, .invokevirtual 38, 3), (15, .ifCond .eq 23, 3), (18, .aload_n 0, 1), (19, .getfield 15, 3), (22, .iload_n 2, 1), (23, .iaload, 1), (24, .iload_n 1, 1), (25, .if_icmp .ne 13, 3), (28, .aload_n 0, 1), (29, .iload_n 2, 1), (30, .invokevirtual 42, 3), (33, .ifCond .ne 5, 3), (36, .iconst 1, 1), (37, .ireturn, 1), (38, .iinc 2 1, 3), (41, .goto (-39), 3)] : List (Nat × Instr × Nat)).all (fun q => decide (decode cX6_certified q.1 = .ok (q.2.1, q.2.2))) = true := by decide +kernel
theorem dX6_certified_0 : decode cX6_certified 0 = .ok (.iconst 0, 1) := all_at dvX6_certified_0 0 rfl
theorem dX6_certified_1 : decode cX6_certified 1 = .ok (.istore_n 2, 1) := all_at dvX6_certified_0 1 rfl
theorem dX6_certified_2 : decode cX6_certified 2 = .ok (.iload_n 2, 1) := all_at dvX6_certified_0 2 rfl
theorem dX6_certified_3 : decode cX6_certified 3 = .ok (.aload_n 0, 1) := all_at dvX6_certified_0 3 rfl
theorem dX6_certified_4 : decode cX6_certified 4 = .ok (.getfield 34, 3) := all_at dvX6_certified_0 4 rfl
theorem dX6_certified_7 : decode cX6_certified 7 = .ok (.if_icmp .ge 37, 3) := all_at dvX6_certified_0 5 rfl
theorem dX6_certified_10 : decode cX6_certified 10 = .ok (.aload_n 0, 1) := all_at dvX6_certified_0 6 rfl
theorem dX6_certified_11 : decode cX6_certified 11 = .ok (.iload_n 2, 1) := all_at dvX6_certified_0 7 rfl
theorem dX6_certified_12 : decode cX6_certified 12 = .ok (.invokevirtual 38, 3) := all_at dvX6_certified_0 8 rfl
theorem dX6_certified_15 : decode cX6_certified 15 = .ok (.ifCond .eq 23, 3) := all_at dvX6_certified_0 9 rfl
theorem dX6_certified_18 : decode cX6_certified 18 = .ok (.aload_n 0, 1) := all_at dvX6_certified_0 10 rfl
theorem dX6_certified_19 : decode cX6_certified 19 = .ok (.getfield 15, 3) := all_at dvX6_certified_0 11 rfl
theorem dX6_certified_22 : decode cX6_certified 22 = .ok (.iload_n 2, 1) := all_at dvX6_certified_0 12 rfl
theorem dX6_certified_23 : decode cX6_certified 23 = .ok (.iaload, 1) := all_at dvX6_certified_0 13 rfl
theorem dX6_certified_24 : decode cX6_certified 24 = .ok (.iload_n 1, 1) := all_at dvX6_certified_0 14 rfl
theorem dX6_certified_25 : decode cX6_certified 25 = .ok (.if_icmp .ne 13, 3) := all_at dvX6_certified_0 15 rfl
theorem dX6_certified_28 : decode cX6_certified 28 = .ok (.aload_n 0, 1) := all_at dvX6_certified_0 16 rfl
theorem dX6_certified_29 : decode cX6_certified 29 = .ok (.iload_n 2, 1) := all_at dvX6_certified_0 17 rfl
theorem dX6_certified_30 : decode cX6_certified 30 = .ok (.invokevirtual 42, 3) := all_at dvX6_certified_0 18 rfl
theorem dX6_certified_33 : decode cX6_certified 33 = .ok (.ifCond .ne 5, 3) := all_at dvX6_certified_0 19 rfl
theorem dX6_certified_36 : decode cX6_certified 36 = .ok (.iconst 1, 1) := all_at dvX6_certified_0 20 rfl
theorem dX6_certified_37 : decode cX6_certified 37 = .ok (.ireturn, 1) := all_at dvX6_certified_0 21 rfl
theorem dX6_certified_38 : decode cX6_certified 38 = .ok (.iinc 2 1, 3) := all_at dvX6_certified_0 22 rfl
theorem dX6_certified_41 : decode cX6_certified 41 = .ok (.goto (-39), 3) := all_at dvX6_certified_0 23 rfl
theorem dX6_certified_44 : decode cX6_certified 44 = .ok (.iconst 0, 1) := by decide +kernel
theorem dX6_certified_45 : decode cX6_certified 45 = .ok (.ireturn, 1) := by decide +kernel
set_option maxRecDepth 100000 in
theorem dvX6_hanging_0 : ([(0, .iconst 0, 1), (1, .istore_n 2, 1), (2, .iconst 0, 1), (3, .istore_n 3, 1), (4, .iload_n 3, 1), (5, .aload_n 0, 1), (6, .getfield 34, 3), (9, .if_icmp .ge 22, 3), (12, .aload_n 0, 1), (13, .getfield 21, 3), (16, .iload_n 3, 1), (17, .iaload, 1), (18, .iload_n 1, 1), (19, .if_icmp .ne 6, 3), (22, .iinc 2 1, 3), (25, .iinc 3 1, 3), (28, .goto (-24), 3), (31, .iload_n 2, 1), (32, .ireturn, 1)] : List (Nat × Instr × Nat)).all (fun q => decide (decode cX6_hanging q.1 = .ok (q.2.1, q.2.2))) = true := by decide +kernel
theorem dX6_hanging_0 : decode cX6_hanging 0 = .ok (.iconst 0, 1) := all_at dvX6_hanging_0 0 rfl
theorem dX6_hanging_1 : decode cX6_hanging 1 = .ok (.istore_n 2, 1) := all_at dvX6_hanging_0 1 rfl
theorem dX6_hanging_2 : decode cX6_hanging 2 = .ok (.iconst 0, 1) := all_at dvX6_hanging_0 2 rfl
theorem dX6_hanging_3 : decode cX6_hanging 3 = .ok (.istore_n 3, 1) := all_at dvX6_hanging_0 3 rfl
theorem dX6_hanging_4 : decode cX6_hanging 4 = .ok (.iload_n 3, 1) := all_at dvX6_hanging_0 4 rfl
theorem dX6_hanging_5 : decode cX6_hanging 5 = .ok (.aload_n 0, 1) := all_at dvX6_hanging_0 5 rfl
theorem dX6_hanging_6 : decode cX6_hanging 6 = .ok (.getfield 34, 3) := all_at dvX6_hanging_0 6 rfl
theorem dX6_hanging_9 : decode cX6_hanging 9 = .ok (.if_icmp .ge 22, 3) := all_at dvX6_hanging_0 7 rfl
theorem dX6_hanging_12 : decode cX6_hanging 12 = .ok (.aload_n 0, 1) := all_at dvX6_hanging_0 8 rfl
theorem dX6_hanging_13 : decode cX6_hanging 13 = .ok (.getfield 21, 3) := all_at dvX6_hanging_0 9 rfl
theorem dX6_hanging_16 : decode cX6_hanging 16 = .ok (.iload_n 3, 1) := all_at dvX6_hanging_0 10 rfl
theorem dX6_hanging_17 : decode cX6_hanging 17 = .ok (.iaload, 1) := all_at dvX6_hanging_0 11 rfl
theorem dX6_hanging_18 : decode cX6_hanging 18 = .ok (.iload_n 1, 1) := all_at dvX6_hanging_0 12 rfl
theorem dX6_hanging_19 : decode cX6_hanging 19 = .ok (.if_icmp .ne 6, 3) := all_at dvX6_hanging_0 13 rfl
theorem dX6_hanging_22 : decode cX6_hanging 22 = .ok (.iinc 2 1, 3) := all_at dvX6_hanging_0 14 rfl
theorem dX6_hanging_25 : decode cX6_hanging 25 = .ok (.iinc 3 1, 3) := all_at dvX6_hanging_0 15 rfl
theorem dX6_hanging_28 : decode cX6_hanging 28 = .ok (.goto (-24), 3) := all_at dvX6_hanging_0 16 rfl
theorem dX6_hanging_31 : decode cX6_hanging 31 = .ok (.iload_n 2, 1) := all_at dvX6_hanging_0 17 rfl
theorem dX6_hanging_32 : decode cX6_hanging 32 = .ok (.ireturn, 1) := all_at dvX6_hanging_0 18 rfl
set_option maxRecDepth 100000 in
theorem dvX6_has_0 : ([(0, .iload_n 1, 1), (1, .ifCond .lt 15, 3), (4, .iload_n 1, 1), (5, .aload_n 0, 1), (6, .getfield 34, 3), (9, .if_icmp .ge 7, 3), (12, .iconst 1, 1), (13, .goto 4, 3), (16, .iconst 0, 1), (17, .ireturn, 1)] : List (Nat × Instr × Nat)).all (fun q => decide (decode cX6_has q.1 = .ok (q.2.1, q.2.2))) = true := by decide +kernel
theorem dX6_has_0 : decode cX6_has 0 = .ok (.iload_n 1, 1) := all_at dvX6_has_0 0 rfl
theorem dX6_has_1 : decode cX6_has 1 = .ok (.ifCond .lt 15, 3) := all_at dvX6_has_0 1 rfl
theorem dX6_has_4 : decode cX6_has 4 = .ok (.iload_n 1, 1) := all_at dvX6_has_0 2 rfl
theorem dX6_has_5 : decode cX6_has 5 = .ok (.aload_n 0, 1) := all_at dvX6_has_0 3 rfl
theorem dX6_has_6 : decode cX6_has 6 = .ok (.getfield 34, 3) := all_at dvX6_has_0 4 rfl
theorem dX6_has_9 : decode cX6_has 9 = .ok (.if_icmp .ge 7, 3) := all_at dvX6_has_0 5 rfl
theorem dX6_has_12 : decode cX6_has 12 = .ok (.iconst 1, 1) := all_at dvX6_has_0 6 rfl
theorem dX6_has_13 : decode cX6_has 13 = .ok (.goto 4, 3) := all_at dvX6_has_0 7 rfl
theorem dX6_has_16 : decode cX6_has 16 = .ok (.iconst 0, 1) := all_at dvX6_has_0 8 rfl
theorem dX6_has_17 : decode cX6_has 17 = .ok (.ireturn, 1) := all_at dvX6_has_0 9 rfl
set_option maxRecDepth 100000 in
theorem dvX6_hasRoom_0 : ([(0, .aload_n 0, 1), (1, .getfield 34, 3), (4, .iload_n 1, 1), (5, .iadd, 1), (6, .bipush 40, 2), (8, .if_icmp .gt 7, 3), (11, .iconst 1, 1), (12, .goto 4, 3), (15, .iconst 0, 1), (16, .ireturn, 1)] : List (Nat × Instr × Nat)).all (fun q => decide (decode cX6_hasRoom q.1 = .ok (q.2.1, q.2.2))) = true := by decide +kernel
theorem dX6_hasRoom_0 : decode cX6_hasRoom 0 = .ok (.aload_n 0, 1) := all_at dvX6_hasRoom_0 0 rfl
theorem dX6_hasRoom_1 : decode cX6_hasRoom 1 = .ok (.getfield 34, 3) := all_at dvX6_hasRoom_0 1 rfl
theorem dX6_hasRoom_4 : decode cX6_hasRoom 4 = .ok (.iload_n 1, 1) := all_at dvX6_hasRoom_0 2 rfl
theorem dX6_hasRoom_5 : decode cX6_hasRoom 5 = .ok (.iadd, 1) := all_at dvX6_hasRoom_0 3 rfl
theorem dX6_hasRoom_6 : decode cX6_hasRoom 6 = .ok (.bipush 40, 2) := all_at dvX6_hasRoom_0 4 rfl
theorem dX6_hasRoom_8 : decode cX6_hasRoom 8 = .ok (.if_icmp .gt 7, 3) := all_at dvX6_hasRoom_0 5 rfl
theorem dX6_hasRoom_11 : decode cX6_hasRoom 11 = .ok (.iconst 1, 1) := all_at dvX6_hasRoom_0 6 rfl
theorem dX6_hasRoom_12 : decode cX6_hasRoom 12 = .ok (.goto 4, 3) := all_at dvX6_hasRoom_0 7 rfl
theorem dX6_hasRoom_15 : decode cX6_hasRoom 15 = .ok (.iconst 0, 1) := all_at dvX6_hasRoom_0 8 rfl
theorem dX6_hasRoom_16 : decode cX6_hasRoom 16 = .ok (.ireturn, 1) := all_at dvX6_hasRoom_0 9 rfl
set_option maxRecDepth 100000 in
theorem dvX6_isBilled_0 : ([(0, .iconst 0, 1), (1, .istore_n 2, 1), (2, .iload_n 2, 1), (3, .aload_n 0, 1), (4, .getfield 34, 3), (7, .if_icmp .ge 39, 3), (10, .aload_n 0, 1), (11, .getfield 11, 3), (14, .iload_n 2, 1), (15, .iaload, 1), (16, .iconst 1, 1), (17, .if_icmp .ne 23, 3), (20, .aload_n 0, 1), (21, .getfield 21, 3), (24, .iload_n 2, 1), (25, .iaload, 1), (26, .iload_n 1, 1), (27, .if_icmp .ne 13, 3), (30, .aload_n 0, 1), (31, .iload_n 2, 1), (32, .invokevirtual 42, 3), (35, .ifCond .ne 5, 3), (38, .iconst 1, 1), (39, .ireturn, 1)] : List (Nat × Instr × Nat)).all (fun q => decide (decode cX6_isBilled q.1 = .ok (q.2.1, q.2.2))) = true := by decide +kernel
theorem dX6_isBilled_0 : decode cX6_isBilled 0 = .ok (.iconst 0, 1) := all_at dvX6_isBilled_0 0 rfl
theorem dX6_isBilled_1 : decode cX6_isBilled 1 = .ok (.istore_n 2, 1) := all_at dvX6_isBilled_0 1 rfl
theorem dX6_isBilled_2 : decode cX6_isBilled 2 = .ok (.iload_n 2, 1) := all_at dvX6_isBilled_0 2 rfl
theorem dX6_isBilled_3 : decode cX6_isBilled 3 = .ok (.aload_n 0, 1) := all_at dvX6_isBilled_0 3 rfl
theorem dX6_isBilled_4 : decode cX6_isBilled 4 = .ok (.getfield 34, 3) := all_at dvX6_isBilled_0 4 rfl
theorem dX6_isBilled_7 : decode cX6_isBilled 7 = .ok (.if_icmp .ge 39, 3) := all_at dvX6_isBilled_0 5 rfl
theorem dX6_isBilled_10 : decode cX6_isBilled 10 = .ok (.aload_n 0, 1) := all_at dvX6_isBilled_0 6 rfl
theorem dX6_isBilled_11 : decode cX6_isBilled 11 = .ok (.getfield 11, 3) := all_at dvX6_isBilled_0 7 rfl
theorem dX6_isBilled_14 : decode cX6_isBilled 14 = .ok (.iload_n 2, 1) := all_at dvX6_isBilled_0 8 rfl
theorem dX6_isBilled_15 : decode cX6_isBilled 15 = .ok (.iaload, 1) := all_at dvX6_isBilled_0 9 rfl
theorem dX6_isBilled_16 : decode cX6_isBilled 16 = .ok (.iconst 1, 1) := all_at dvX6_isBilled_0 10 rfl
theorem dX6_isBilled_17 : decode cX6_isBilled 17 = .ok (.if_icmp .ne 23, 3) := all_at dvX6_isBilled_0 11 rfl
theorem dX6_isBilled_20 : decode cX6_isBilled 20 = .ok (.aload_n 0, 1) := all_at dvX6_isBilled_0 12 rfl
theorem dX6_isBilled_21 : decode cX6_isBilled 21 = .ok (.getfield 21, 3) := all_at dvX6_isBilled_0 13 rfl
theorem dX6_isBilled_24 : decode cX6_isBilled 24 = .ok (.iload_n 2, 1) := all_at dvX6_isBilled_0 14 rfl
theorem dX6_isBilled_25 : decode cX6_isBilled 25 = .ok (.iaload, 1) := all_at dvX6_isBilled_0 15 rfl
theorem dX6_isBilled_26 : decode cX6_isBilled 26 = .ok (.iload_n 1, 1) := all_at dvX6_isBilled_0 16 rfl
theorem dX6_isBilled_27 : decode cX6_isBilled 27 = .ok (.if_icmp .ne 13, 3) := all_at dvX6_isBilled_0 17 rfl
theorem dX6_isBilled_30 : decode cX6_isBilled 30 = .ok (.aload_n 0, 1) := all_at dvX6_isBilled_0 18 rfl
theorem dX6_isBilled_31 : decode cX6_isBilled 31 = .ok (.iload_n 2, 1) := all_at dvX6_isBilled_0 19 rfl
theorem dX6_isBilled_32 : decode cX6_isBilled 32 = .ok (.invokevirtual 42, 3) := all_at dvX6_isBilled_0 20 rfl
theorem dX6_isBilled_35 : decode cX6_isBilled 35 = .ok (.ifCond .ne 5, 3) := all_at dvX6_isBilled_0 21 rfl
theorem dX6_isBilled_38 : decode cX6_isBilled 38 = .ok (.iconst 1, 1) := all_at dvX6_isBilled_0 22 rfl
theorem dX6_isBilled_39 : decode cX6_isBilled 39 = .ok (.ireturn, 1) := all_at dvX6_isBilled_0 23 rfl
set_option maxRecDepth 100000 in
theorem dvX6_isBilled_40 : ([(40, .iinc 2 1, 3), (43, .goto (-41), 3), (46, .iconst 0, 1), (47, .ireturn, 1)] : List (Nat × Instr × Nat)).all (fun q => decide (decode cX6_isBilled q.1 = .ok (q.2.1, q.2.2))) = true := by decide +kernel
theorem dX6_isBilled_40 : decode cX6_isBilled 40 = .ok (.iinc 2 1, 3) := all_at dvX6_isBilled_40 0 rfl
theorem dX6_isBilled_43 : decode cX6_isBilled 43 = .ok (.goto (-41), 3) := all_at dvX6_isBilled_40 1 rfl
theorem dX6_isBilled_46 : decode cX6_isBilled 46 = .ok (.iconst 0, 1) := all_at dvX6_isBilled_40 2 rfl
theorem dX6_isBilled_47 : decode cX6_isBilled 47 = .ok (.ireturn, 1) := all_at dvX6_isBilled_40 3 rfl
set_option maxRecDepth 100000 in
theorem dvX6_isCertificate_0 : ([(0, .aload_n 0, 1), (1, .getfield 11, 3), (4, .iload_n 1, 1), (5, .iaload, 1), (6, .ifCond .ne 7, 3), (9, .iconst 1, 1), (10, .goto 4, 3), (13, .iconst 0, 1), (14, .ireturn, 1)] : List (Nat × Instr × Nat)).all (fun q => decide (decode cX6_isCertificate q.1 = .ok (q.2.1, q.2.2))) = true := by decide +kernel
theorem dX6_isCertificate_0 : decode cX6_isCertificate 0 = .ok (.aload_n 0, 1) := all_at dvX6_isCertificate_0 0 rfl
theorem dX6_isCertificate_1 : decode cX6_isCertificate 1 = .ok (.getfield 11, 3) := all_at dvX6_isCertificate_0 1 rfl
theorem dX6_isCertificate_4 : decode cX6_isCertificate 4 = .ok (.iload_n 1, 1) := all_at dvX6_isCertificate_0 2 rfl
theorem dX6_isCertificate_5 : decode cX6_isCertificate 5 = .ok (.iaload, 1) := all_at dvX6_isCertificate_0 3 rfl
theorem dX6_isCertificate_6 : decode cX6_isCertificate 6 = .ok (.ifCond .ne 7, 3) := all_at dvX6_isCertificate_0 4 rfl
theorem dX6_isCertificate_9 : decode cX6_isCertificate 9 = .ok (.iconst 1, 1) := all_at dvX6_isCertificate_0 5 rfl
theorem dX6_isCertificate_10 : decode cX6_isCertificate 10 = .ok (.goto 4, 3) := all_at dvX6_isCertificate_0 6 rfl
theorem dX6_isCertificate_13 : decode cX6_isCertificate 13 = .ok (.iconst 0, 1) := all_at dvX6_isCertificate_0 7 rfl
theorem dX6_isCertificate_14 : decode cX6_isCertificate 14 = .ok (.ireturn, 1) := all_at dvX6_isCertificate_0 8 rfl
set_option maxRecDepth 100000 in
theorem dvX6_isUndone_0 : ([(0, .aload_n 0, 1), (1, .getfield 27, 3), (4, .iload_n 1, 1), (5, .iaload, 1), (6, .iconst (-1), 1), (7, .if_icmp .eq 7, 3), (10, .iconst 1, 1), (11, .goto 4, 3), (14, .iconst 0, 1), (15, .ireturn, 1)] : List (Nat × Instr × Nat)).all (fun q => decide (decode cX6_isUndone q.1 = .ok (q.2.1, q.2.2))) = true := by decide +kernel
theorem dX6_isUndone_0 : decode cX6_isUndone 0 = .ok (.aload_n 0, 1) := all_at dvX6_isUndone_0 0 rfl
theorem dX6_isUndone_1 : decode cX6_isUndone 1 = .ok (.getfield 27, 3) := all_at dvX6_isUndone_0 1 rfl
theorem dX6_isUndone_4 : decode cX6_isUndone 4 = .ok (.iload_n 1, 1) := all_at dvX6_isUndone_0 2 rfl
theorem dX6_isUndone_5 : decode cX6_isUndone 5 = .ok (.iaload, 1) := all_at dvX6_isUndone_0 3 rfl
theorem dX6_isUndone_6 : decode cX6_isUndone 6 = .ok (.iconst (-1), 1) := all_at dvX6_isUndone_0 4 rfl
theorem dX6_isUndone_7 : decode cX6_isUndone 7 = .ok (.if_icmp .eq 7, 3) := all_at dvX6_isUndone_0 5 rfl
theorem dX6_isUndone_10 : decode cX6_isUndone 10 = .ok (.iconst 1, 1) := all_at dvX6_isUndone_0 6 rfl
theorem dX6_isUndone_11 : decode cX6_isUndone 11 = .ok (.goto 4, 3) := all_at dvX6_isUndone_0 7 rfl
theorem dX6_isUndone_14 : decode cX6_isUndone 14 = .ok (.iconst 0, 1) := all_at dvX6_isUndone_0 8 rfl
theorem dX6_isUndone_15 : decode cX6_isUndone 15 = .ok (.ireturn, 1) := all_at dvX6_isUndone_0 9 rfl
set_option maxRecDepth 100000 in
theorem dvX6_standing_0 : ([(0, .lconst 0, 1), (1, .lstore_n 3, 1), (2, .iconst 0, 1), (3, .istore 5, 2), (5, .iload 5, 2), (7, .aload_n 0, 1), (8, .getfield 34, 3), (11, .if_icmp .ge 76, 3), (14, .aload_n 0, 1), (15, .getfield 24, 3), (18, .iload 5, 2), (20, .iaload, 1), (21, .iload_n 1, 1), (22, .if_icmp .gt 29, 3), (25, .aload_n 0, 1), (26, .getfield 27, 3), (29, .iload 5, 2), (31, .iaload, 1), (32, .iconst (-1), 1), (33, .if_icmp .eq 14, 3), (36, .aload_n 0, 1), (37, .getfield 27, 3), (40, .iload 5, 2), (42, .iaload, 1)] : List (Nat × Instr × Nat)).all (fun q => decide (decode cX6_standing q.1 = .ok (q.2.1, q.2.2))) = true := by decide +kernel
theorem dX6_standing_0 : decode cX6_standing 0 = .ok (.lconst 0, 1) := all_at dvX6_standing_0 0 rfl
theorem dX6_standing_1 : decode cX6_standing 1 = .ok (.lstore_n 3, 1) := all_at dvX6_standing_0 1 rfl
theorem dX6_standing_2 : decode cX6_standing 2 = .ok (.iconst 0, 1) := all_at dvX6_standing_0 2 rfl
theorem dX6_standing_3 : decode cX6_standing 3 = .ok (.istore 5, 2) := all_at dvX6_standing_0 3 rfl
theorem dX6_standing_5 : decode cX6_standing 5 = .ok (.iload 5, 2) := all_at dvX6_standing_0 4 rfl
theorem dX6_standing_7 : decode cX6_standing 7 = .ok (.aload_n 0, 1) := all_at dvX6_standing_0 5 rfl
theorem dX6_standing_8 : decode cX6_standing 8 = .ok (.getfield 34, 3) := all_at dvX6_standing_0 6 rfl
theorem dX6_standing_11 : decode cX6_standing 11 = .ok (.if_icmp .ge 76, 3) := all_at dvX6_standing_0 7 rfl
theorem dX6_standing_14 : decode cX6_standing 14 = .ok (.aload_n 0, 1) := all_at dvX6_standing_0 8 rfl
theorem dX6_standing_15 : decode cX6_standing 15 = .ok (.getfield 24, 3) := all_at dvX6_standing_0 9 rfl
theorem dX6_standing_18 : decode cX6_standing 18 = .ok (.iload 5, 2) := all_at dvX6_standing_0 10 rfl
theorem dX6_standing_20 : decode cX6_standing 20 = .ok (.iaload, 1) := all_at dvX6_standing_0 11 rfl
theorem dX6_standing_21 : decode cX6_standing 21 = .ok (.iload_n 1, 1) := all_at dvX6_standing_0 12 rfl
theorem dX6_standing_22 : decode cX6_standing 22 = .ok (.if_icmp .gt 29, 3) := all_at dvX6_standing_0 13 rfl
theorem dX6_standing_25 : decode cX6_standing 25 = .ok (.aload_n 0, 1) := all_at dvX6_standing_0 14 rfl
theorem dX6_standing_26 : decode cX6_standing 26 = .ok (.getfield 27, 3) := all_at dvX6_standing_0 15 rfl
theorem dX6_standing_29 : decode cX6_standing 29 = .ok (.iload 5, 2) := all_at dvX6_standing_0 16 rfl
theorem dX6_standing_31 : decode cX6_standing 31 = .ok (.iaload, 1) := all_at dvX6_standing_0 17 rfl
theorem dX6_standing_32 : decode cX6_standing 32 = .ok (.iconst (-1), 1) := all_at dvX6_standing_0 18 rfl
theorem dX6_standing_33 : decode cX6_standing 33 = .ok (.if_icmp .eq 14, 3) := all_at dvX6_standing_0 19 rfl
theorem dX6_standing_36 : decode cX6_standing 36 = .ok (.aload_n 0, 1) := all_at dvX6_standing_0 20 rfl
theorem dX6_standing_37 : decode cX6_standing 37 = .ok (.getfield 27, 3) := all_at dvX6_standing_0 21 rfl
theorem dX6_standing_40 : decode cX6_standing 40 = .ok (.iload 5, 2) := all_at dvX6_standing_0 22 rfl
theorem dX6_standing_42 : decode cX6_standing 42 = .ok (.iaload, 1) := all_at dvX6_standing_0 23 rfl
set_option maxRecDepth 100000 in
theorem dvX6_standing_43 : ([(43, .iload_n 1, 1), (44, .if_icmp .le 7, 3), (47, .iconst 1, 1), (48, .goto 4, 3), (51, .iconst 0, 1), (52, .istore 6, 2), (54, .aload_n 0, 1), (55, .getfield 11, 3), (58, .iload 5, 2), (60, .iaload, 1), (61, .iload_n 2, 1), (62, .if_icmp .ne 19, 3), (65, .iload 6, 2), (67, .ifCond .eq 14, 3), (70, .lload_n 3, 1), (71, .aload_n 0, 1), (72, .getfield 18, 3), (75, .iload 5, 2), (77, .iaload, 1), (78, .i2l, 1), (79, .ladd, 1), (80, .lstore_n 3, 1), (81, .iinc 5 1, 3), (84, .goto (-79), 3)] : List (Nat × Instr × Nat)).all (fun q => decide (decode cX6_standing q.1 = .ok (q.2.1, q.2.2))) = true := by decide +kernel
theorem dX6_standing_43 : decode cX6_standing 43 = .ok (.iload_n 1, 1) := all_at dvX6_standing_43 0 rfl
theorem dX6_standing_44 : decode cX6_standing 44 = .ok (.if_icmp .le 7, 3) := all_at dvX6_standing_43 1 rfl
theorem dX6_standing_47 : decode cX6_standing 47 = .ok (.iconst 1, 1) := all_at dvX6_standing_43 2 rfl
theorem dX6_standing_48 : decode cX6_standing 48 = .ok (.goto 4, 3) := all_at dvX6_standing_43 3 rfl
theorem dX6_standing_51 : decode cX6_standing 51 = .ok (.iconst 0, 1) := all_at dvX6_standing_43 4 rfl
theorem dX6_standing_52 : decode cX6_standing 52 = .ok (.istore 6, 2) := all_at dvX6_standing_43 5 rfl
theorem dX6_standing_54 : decode cX6_standing 54 = .ok (.aload_n 0, 1) := all_at dvX6_standing_43 6 rfl
theorem dX6_standing_55 : decode cX6_standing 55 = .ok (.getfield 11, 3) := all_at dvX6_standing_43 7 rfl
theorem dX6_standing_58 : decode cX6_standing 58 = .ok (.iload 5, 2) := all_at dvX6_standing_43 8 rfl
theorem dX6_standing_60 : decode cX6_standing 60 = .ok (.iaload, 1) := all_at dvX6_standing_43 9 rfl
theorem dX6_standing_61 : decode cX6_standing 61 = .ok (.iload_n 2, 1) := all_at dvX6_standing_43 10 rfl
theorem dX6_standing_62 : decode cX6_standing 62 = .ok (.if_icmp .ne 19, 3) := all_at dvX6_standing_43 11 rfl
theorem dX6_standing_65 : decode cX6_standing 65 = .ok (.iload 6, 2) := all_at dvX6_standing_43 12 rfl
theorem dX6_standing_67 : decode cX6_standing 67 = .ok (.ifCond .eq 14, 3) := all_at dvX6_standing_43 13 rfl
theorem dX6_standing_70 : decode cX6_standing 70 = .ok (.lload_n 3, 1) := all_at dvX6_standing_43 14 rfl
theorem dX6_standing_71 : decode cX6_standing 71 = .ok (.aload_n 0, 1) := all_at dvX6_standing_43 15 rfl
theorem dX6_standing_72 : decode cX6_standing 72 = .ok (.getfield 18, 3) := all_at dvX6_standing_43 16 rfl
theorem dX6_standing_75 : decode cX6_standing 75 = .ok (.iload 5, 2) := all_at dvX6_standing_43 17 rfl
theorem dX6_standing_77 : decode cX6_standing 77 = .ok (.iaload, 1) := all_at dvX6_standing_43 18 rfl
theorem dX6_standing_78 : decode cX6_standing 78 = .ok (.i2l, 1) := all_at dvX6_standing_43 19 rfl
theorem dX6_standing_79 : decode cX6_standing 79 = .ok (.ladd, 1) := all_at dvX6_standing_43 20 rfl
theorem dX6_standing_80 : decode cX6_standing 80 = .ok (.lstore_n 3, 1) := all_at dvX6_standing_43 21 rfl
theorem dX6_standing_81 : decode cX6_standing 81 = .ok (.iinc 5 1, 3) := all_at dvX6_standing_43 22 rfl
theorem dX6_standing_84 : decode cX6_standing 84 = .ok (.goto (-79), 3) := all_at dvX6_standing_43 23 rfl
theorem dX6_standing_87 : decode cX6_standing 87 = .ok (.lload_n 3, 1) := by decide +kernel
theorem dX6_standing_88 : decode cX6_standing 88 = .ok (.lreturn, 1) := by decide +kernel
set_option maxRecDepth 100000 in
theorem dvX6_tear_0 : ([(0, .iconst 0, 1), (1, .istore_n 3, 1), (2, .iconst 0, 1), (3, .istore 4, 2), (5, .iload 4, 2), (7, .aload_n 0, 1), (8, .getfield 34, 3), (11, .if_icmp .ge 86, 3), (14, .aload_n 0, 1), (15, .getfield 30, 3), (18, .iload 4, 2), (20, .iload 4, 2), (22, .iload_n 1, 1), (23, .if_icmp .eq 32, 3), (26, .aload_n 0, 1), (27, .aload_n 0, 1), (28, .getfield 21, 3), (31, .iload 4, 2), (33, .iaload, 1), (34, .invokevirtual 45, 3), (37, .ifCond .eq 22, 3), (40, .aload_n 0, 1), (41, .getfield 30, 3), (44, .aload_n 0, 1)] : List (Nat × Instr × Nat)).all (fun q => decide (decode cX6_tear q.1 = .ok (q.2.1, q.2.2))) = true := by decide +kernel
theorem dX6_tear_0 : decode cX6_tear 0 = .ok (.iconst 0, 1) := all_at dvX6_tear_0 0 rfl
theorem dX6_tear_1 : decode cX6_tear 1 = .ok (.istore_n 3, 1) := all_at dvX6_tear_0 1 rfl
theorem dX6_tear_2 : decode cX6_tear 2 = .ok (.iconst 0, 1) := all_at dvX6_tear_0 2 rfl
theorem dX6_tear_3 : decode cX6_tear 3 = .ok (.istore 4, 2) := all_at dvX6_tear_0 3 rfl
theorem dX6_tear_5 : decode cX6_tear 5 = .ok (.iload 4, 2) := all_at dvX6_tear_0 4 rfl
theorem dX6_tear_7 : decode cX6_tear 7 = .ok (.aload_n 0, 1) := all_at dvX6_tear_0 5 rfl
theorem dX6_tear_8 : decode cX6_tear 8 = .ok (.getfield 34, 3) := all_at dvX6_tear_0 6 rfl
theorem dX6_tear_11 : decode cX6_tear 11 = .ok (.if_icmp .ge 86, 3) := all_at dvX6_tear_0 7 rfl
theorem dX6_tear_14 : decode cX6_tear 14 = .ok (.aload_n 0, 1) := all_at dvX6_tear_0 8 rfl
theorem dX6_tear_15 : decode cX6_tear 15 = .ok (.getfield 30, 3) := all_at dvX6_tear_0 9 rfl
theorem dX6_tear_18 : decode cX6_tear 18 = .ok (.iload 4, 2) := all_at dvX6_tear_0 10 rfl
theorem dX6_tear_20 : decode cX6_tear 20 = .ok (.iload 4, 2) := all_at dvX6_tear_0 11 rfl
theorem dX6_tear_22 : decode cX6_tear 22 = .ok (.iload_n 1, 1) := all_at dvX6_tear_0 12 rfl
theorem dX6_tear_23 : decode cX6_tear 23 = .ok (.if_icmp .eq 32, 3) := all_at dvX6_tear_0 13 rfl
theorem dX6_tear_26 : decode cX6_tear 26 = .ok (.aload_n 0, 1) := all_at dvX6_tear_0 14 rfl
theorem dX6_tear_27 : decode cX6_tear 27 = .ok (.aload_n 0, 1) := all_at dvX6_tear_0 15 rfl
theorem dX6_tear_28 : decode cX6_tear 28 = .ok (.getfield 21, 3) := all_at dvX6_tear_0 16 rfl
theorem dX6_tear_31 : decode cX6_tear 31 = .ok (.iload 4, 2) := all_at dvX6_tear_0 17 rfl
theorem dX6_tear_33 : decode cX6_tear 33 = .ok (.iaload, 1) := all_at dvX6_tear_0 18 rfl
theorem dX6_tear_34 : decode cX6_tear 34 = .ok (.invokevirtual 45, 3) := all_at dvX6_tear_0 19 rfl
theorem dX6_tear_37 : decode cX6_tear 37 = .ok (.ifCond .eq 22, 3) := all_at dvX6_tear_0 20 rfl
theorem dX6_tear_40 : decode cX6_tear 40 = .ok (.aload_n 0, 1) := all_at dvX6_tear_0 21 rfl
theorem dX6_tear_41 : decode cX6_tear 41 = .ok (.getfield 30, 3) := all_at dvX6_tear_0 22 rfl
theorem dX6_tear_44 : decode cX6_tear 44 = .ok (.aload_n 0, 1) := all_at dvX6_tear_0 23 rfl
set_option maxRecDepth 100000 in
theorem dvX6_tear_45 : ([(45, .getfield 21, 3), (48, .iload 4, 2), (50, .iaload, 1), (51, .baload, 1), (52, .ifCond .eq 7, 3), (55, .iconst 1, 1), (56, .goto 4, 3), (59, .iconst 0, 1), (60, .bastore, 1), (61, .aload_n 0, 1), (62, .getfield 30, 3), (65, .iload 4, 2), (67, .baload, 1), (68, .ifCond .eq 23, 3), (71, .aload_n 0, 1), (72, .iload 4, 2), (74, .invokevirtual 42, 3), (77, .ifCond .ne 14, 3), (80, .aload_n 0, 1), (81, .getfield 27, 3), (84, .iload 4, 2), (86, .iload_n 2, 1), (87, .iastore, 1), (88, .iinc 3 1, 3)] : List (Nat × Instr × Nat)).all (fun q => decide (decode cX6_tear q.1 = .ok (q.2.1, q.2.2))) = true := by decide +kernel
theorem dX6_tear_45 : decode cX6_tear 45 = .ok (.getfield 21, 3) := all_at dvX6_tear_45 0 rfl
theorem dX6_tear_48 : decode cX6_tear 48 = .ok (.iload 4, 2) := all_at dvX6_tear_45 1 rfl
theorem dX6_tear_50 : decode cX6_tear 50 = .ok (.iaload, 1) := all_at dvX6_tear_45 2 rfl
theorem dX6_tear_51 : decode cX6_tear 51 = .ok (.baload, 1) := all_at dvX6_tear_45 3 rfl
theorem dX6_tear_52 : decode cX6_tear 52 = .ok (.ifCond .eq 7, 3) := all_at dvX6_tear_45 4 rfl
theorem dX6_tear_55 : decode cX6_tear 55 = .ok (.iconst 1, 1) := all_at dvX6_tear_45 5 rfl
theorem dX6_tear_56 : decode cX6_tear 56 = .ok (.goto 4, 3) := all_at dvX6_tear_45 6 rfl
theorem dX6_tear_59 : decode cX6_tear 59 = .ok (.iconst 0, 1) := all_at dvX6_tear_45 7 rfl
theorem dX6_tear_60 : decode cX6_tear 60 = .ok (.bastore, 1) := all_at dvX6_tear_45 8 rfl
theorem dX6_tear_61 : decode cX6_tear 61 = .ok (.aload_n 0, 1) := all_at dvX6_tear_45 9 rfl
theorem dX6_tear_62 : decode cX6_tear 62 = .ok (.getfield 30, 3) := all_at dvX6_tear_45 10 rfl
theorem dX6_tear_65 : decode cX6_tear 65 = .ok (.iload 4, 2) := all_at dvX6_tear_45 11 rfl
theorem dX6_tear_67 : decode cX6_tear 67 = .ok (.baload, 1) := all_at dvX6_tear_45 12 rfl
theorem dX6_tear_68 : decode cX6_tear 68 = .ok (.ifCond .eq 23, 3) := all_at dvX6_tear_45 13 rfl
theorem dX6_tear_71 : decode cX6_tear 71 = .ok (.aload_n 0, 1) := all_at dvX6_tear_45 14 rfl
theorem dX6_tear_72 : decode cX6_tear 72 = .ok (.iload 4, 2) := all_at dvX6_tear_45 15 rfl
theorem dX6_tear_74 : decode cX6_tear 74 = .ok (.invokevirtual 42, 3) := all_at dvX6_tear_45 16 rfl
theorem dX6_tear_77 : decode cX6_tear 77 = .ok (.ifCond .ne 14, 3) := all_at dvX6_tear_45 17 rfl
theorem dX6_tear_80 : decode cX6_tear 80 = .ok (.aload_n 0, 1) := all_at dvX6_tear_45 18 rfl
theorem dX6_tear_81 : decode cX6_tear 81 = .ok (.getfield 27, 3) := all_at dvX6_tear_45 19 rfl
theorem dX6_tear_84 : decode cX6_tear 84 = .ok (.iload 4, 2) := all_at dvX6_tear_45 20 rfl
theorem dX6_tear_86 : decode cX6_tear 86 = .ok (.iload_n 2, 1) := all_at dvX6_tear_45 21 rfl
theorem dX6_tear_87 : decode cX6_tear 87 = .ok (.iastore, 1) := all_at dvX6_tear_45 22 rfl
theorem dX6_tear_88 : decode cX6_tear 88 = .ok (.iinc 3 1, 3) := all_at dvX6_tear_45 23 rfl
set_option maxRecDepth 100000 in
theorem dvX6_tear_91 : ([(91, .iinc 4 1, 3), (94, .goto (-89), 3), (97, .iload_n 3, 1), (98, .ireturn, 1)] : List (Nat × Instr × Nat)).all (fun q => decide (decode cX6_tear q.1 = .ok (q.2.1, q.2.2))) = true := by decide +kernel
theorem dX6_tear_91 : decode cX6_tear 91 = .ok (.iinc 4 1, 3) := all_at dvX6_tear_91 0 rfl
theorem dX6_tear_94 : decode cX6_tear 94 = .ok (.goto (-89), 3) := all_at dvX6_tear_91 1 rfl
theorem dX6_tear_97 : decode cX6_tear 97 = .ok (.iload_n 3, 1) := all_at dvX6_tear_91 2 rfl
theorem dX6_tear_98 : decode cX6_tear 98 = .ok (.ireturn, 1) := all_at dvX6_tear_91 3 rfl
set_option maxRecDepth 100000 in
theorem dvX6_write_0 : ([(0, .aload_n 0, 1), (1, .getfield 34, 3), (4, .istore 6, 2), (6, .aload_n 0, 1), (7, .getfield 11, 3), (10, .iload 6, 2), (12, .iload_n 1, 1), (13, .iastore, 1), (14, .aload_n 0, 1), (15, .getfield 15, 3), (18, .iload 6, 2), (20, .iload_n 2, 1), (21, .iastore, 1), (22, .aload_n 0, 1), (23, .getfield 18, 3), (26, .iload 6, 2), (28, .iload_n 3, 1), (29, .iastore, 1), (30, .aload_n 0, 1), (31, .getfield 21, 3), (34, .iload 6, 2), (36, .iload 4, 2), (38, .iastore, 1), (39, .aload_n 0, 1)] : List (Nat × Instr × Nat)).all (fun q => decide (decode cX6_write q.1 = .ok (q.2.1, q.2.2))) = true := by decide +kernel
theorem dX6_write_0 : decode cX6_write 0 = .ok (.aload_n 0, 1) := all_at dvX6_write_0 0 rfl
theorem dX6_write_1 : decode cX6_write 1 = .ok (.getfield 34, 3) := all_at dvX6_write_0 1 rfl
theorem dX6_write_4 : decode cX6_write 4 = .ok (.istore 6, 2) := all_at dvX6_write_0 2 rfl
theorem dX6_write_6 : decode cX6_write 6 = .ok (.aload_n 0, 1) := all_at dvX6_write_0 3 rfl
theorem dX6_write_7 : decode cX6_write 7 = .ok (.getfield 11, 3) := all_at dvX6_write_0 4 rfl
theorem dX6_write_10 : decode cX6_write 10 = .ok (.iload 6, 2) := all_at dvX6_write_0 5 rfl
theorem dX6_write_12 : decode cX6_write 12 = .ok (.iload_n 1, 1) := all_at dvX6_write_0 6 rfl
theorem dX6_write_13 : decode cX6_write 13 = .ok (.iastore, 1) := all_at dvX6_write_0 7 rfl
theorem dX6_write_14 : decode cX6_write 14 = .ok (.aload_n 0, 1) := all_at dvX6_write_0 8 rfl
theorem dX6_write_15 : decode cX6_write 15 = .ok (.getfield 15, 3) := all_at dvX6_write_0 9 rfl
theorem dX6_write_18 : decode cX6_write 18 = .ok (.iload 6, 2) := all_at dvX6_write_0 10 rfl
theorem dX6_write_20 : decode cX6_write 20 = .ok (.iload_n 2, 1) := all_at dvX6_write_0 11 rfl
theorem dX6_write_21 : decode cX6_write 21 = .ok (.iastore, 1) := all_at dvX6_write_0 12 rfl
theorem dX6_write_22 : decode cX6_write 22 = .ok (.aload_n 0, 1) := all_at dvX6_write_0 13 rfl
theorem dX6_write_23 : decode cX6_write 23 = .ok (.getfield 18, 3) := all_at dvX6_write_0 14 rfl
theorem dX6_write_26 : decode cX6_write 26 = .ok (.iload 6, 2) := all_at dvX6_write_0 15 rfl
theorem dX6_write_28 : decode cX6_write 28 = .ok (.iload_n 3, 1) := all_at dvX6_write_0 16 rfl
theorem dX6_write_29 : decode cX6_write 29 = .ok (.iastore, 1) := all_at dvX6_write_0 17 rfl
theorem dX6_write_30 : decode cX6_write 30 = .ok (.aload_n 0, 1) := all_at dvX6_write_0 18 rfl
theorem dX6_write_31 : decode cX6_write 31 = .ok (.getfield 21, 3) := all_at dvX6_write_0 19 rfl
theorem dX6_write_34 : decode cX6_write 34 = .ok (.iload 6, 2) := all_at dvX6_write_0 20 rfl
theorem dX6_write_36 : decode cX6_write 36 = .ok (.iload 4, 2) := all_at dvX6_write_0 21 rfl
theorem dX6_write_38 : decode cX6_write 38 = .ok (.iastore, 1) := all_at dvX6_write_0 22 rfl
theorem dX6_write_39 : decode cX6_write 39 = .ok (.aload_n 0, 1) := all_at dvX6_write_0 23 rfl
set_option maxRecDepth 100000 in
theorem dvX6_write_40 : ([(40, .getfield 24, 3), (43, .iload 6, 2), (45, .iload 5, 2), (47, .iastore, 1), (48, .aload_n 0, 1), (49, .getfield 27, 3), (52, .iload 6, 2), (54, .iconst (-1), 1), (55, .iastore, 1), (56, .aload_n 0, 1), (57, .dup, 1), (58, .getfield 34, 3), (61, .iconst 1, 1), (62, .iadd, 1), (63, .putfield 34, 3), (66, .iload 6, 2), (68, .ireturn, 1)] : List (Nat × Instr × Nat)).all (fun q => decide (decode cX6_write q.1 = .ok (q.2.1, q.2.2))) = true := by decide +kernel
theorem dX6_write_40 : decode cX6_write 40 = .ok (.getfield 24, 3) := all_at dvX6_write_40 0 rfl
theorem dX6_write_43 : decode cX6_write 43 = .ok (.iload 6, 2) := all_at dvX6_write_40 1 rfl
theorem dX6_write_45 : decode cX6_write 45 = .ok (.iload 5, 2) := all_at dvX6_write_40 2 rfl
theorem dX6_write_47 : decode cX6_write 47 = .ok (.iastore, 1) := all_at dvX6_write_40 3 rfl
theorem dX6_write_48 : decode cX6_write 48 = .ok (.aload_n 0, 1) := all_at dvX6_write_40 4 rfl
theorem dX6_write_49 : decode cX6_write 49 = .ok (.getfield 27, 3) := all_at dvX6_write_40 5 rfl
theorem dX6_write_52 : decode cX6_write 52 = .ok (.iload 6, 2) := all_at dvX6_write_40 6 rfl
theorem dX6_write_54 : decode cX6_write 54 = .ok (.iconst (-1), 1) := all_at dvX6_write_40 7 rfl
theorem dX6_write_55 : decode cX6_write 55 = .ok (.iastore, 1) := all_at dvX6_write_40 8 rfl
theorem dX6_write_56 : decode cX6_write 56 = .ok (.aload_n 0, 1) := all_at dvX6_write_40 9 rfl
theorem dX6_write_57 : decode cX6_write 57 = .ok (.dup, 1) := all_at dvX6_write_40 10 rfl
theorem dX6_write_58 : decode cX6_write 58 = .ok (.getfield 34, 3) := all_at dvX6_write_40 11 rfl
theorem dX6_write_61 : decode cX6_write 61 = .ok (.iconst 1, 1) := all_at dvX6_write_40 12 rfl
theorem dX6_write_62 : decode cX6_write 62 = .ok (.iadd, 1) := all_at dvX6_write_40 13 rfl
theorem dX6_write_63 : decode cX6_write 63 = .ok (.putfield 34, 3) := all_at dvX6_write_40 14 rfl
theorem dX6_write_66 : decode cX6_write 66 = .ok (.iload 6, 2) := all_at dvX6_write_40 15 rfl
theorem dX6_write_68 : decode cX6_write 68 = .ok (.ireturn, 1) := all_at dvX6_write_40 16 rfl
set_option maxHeartbeats 4000000 in
set_option maxRecDepth 100000 in
/-- X6_has -/
theorem c_X6_has (l : Launch) (dC : Nat → ClassId) (dI : Nat → Nat → Nat) (h : Nat) (g : Nat → Nat → Nat) (ca : Nat → Nat → ClassId) (iv : Nat → Nat → Int32) (lv : Nat → Nat → Int64) (fa : Nat → Nat → Nat → Int32) (la : Nat → Nat → Nat → Int64) (hI : IX iv fa) (b : Int32) : Met l yX6_has (wc yX6_has cX6_has 2 (some .boolean)) ({ frames := 0, cells := 0, slots := 0, locals := 0 } : Room) (pR (dC, dI) classes (WX h g ca iv lv fa la) (TX ca) [.ref (g 11 9), .int b]) (vp_Si (fun r => (r = 1 ∧ (0 ≤ b.toInt ∧ b.toInt < (iv 6 7).toInt)) ∨ (r = 0 ∧ ¬ (0 ≤ b.toInt ∧ b.toInt < (iv 6 7).toInt)))) 0 0 (fun _ => False) := by
  refine Met.ofW (cc := cX6_has) (maxL := 2) (ret := (some .boolean)) (by decide) rfl ?_
  intro p e s m args below meth c s₁ B hml hv
  obtain ⟨rfl, hP, hK⟩ := hv
  have hx := B.exec
  have hb := B.bytes
  have hr := B.returns
  have ht := tb_tl (atoms_spec (ws := wc yX6_has cX6_has 2 (some .boolean)) B.pre)
  have hown : s.vm.findClass RX6 = some m.cls := findClass_of_methodNamed B.named
  have hlocks := B.notSynchronized
  have hl := lv_entry [.ref (g 11 9), .int b] (n := 2) (Nat.le_of_ble_eq_true rfl)
  rw [lg_entry_eq]
  generalize (lg_sl [.ref (g 11 9), .int b] ++ List.replicate (2 - (lg_sl [.ref (g 11 9), .int b]).length) Slot.unset).toArray = ls at hl ⊢
  have hl : lv_has ls 2 [(0, .ref (g 11 9)), (1, .int b)] := hl
  refine lv_iload_n hx hb dX6_has_0 rfl (lv_at hl 1 rfl) ?_
  refine lv_if_lt (tgt := 16) hx hb dX6_has_1 (by decide) (fun c1 => ?_) (fun c1 => ?_)
  · have fc1 := z_lt (rfl : (b).toInt = _) (by decide : (0 : Int32).toInt = 0) c1
    refine lv_iconst (v := 0) hx hb dX6_has_16 (by decide) ?_
    exact W.zret (v := 0) hx hb hr rfl (fun t ht9 hW => ⟨0, rfl, Or.inr ⟨rfl, by omega⟩, ht9⟩) (fun q hq => by cases hq) dX6_has_17
  · have fc1 := z_nlt (rfl : (b).toInt = _) (by decide : (0 : Int32).toInt = 0) c1
    refine lv_iload_n hx hb dX6_has_4 rfl (lv_at hl 1 rfl) ?_
    refine lv_aload_n hx hb dX6_has_5 rfl (lv_at hl 0 rfl) ?_
    have i_6_7 : 0 ≤ (iv 6 7).toInt ∧ (iv 6 7).toInt ≤ 40 := hI.1 6 7
    refine gX_6_7 hx hb ht hown hK hP m_396 (v := (iv 6 7)) rfl dX6_has_6 ?_
    refine lv_icmp_ge (tgt := 16) hx hb dX6_has_9 (by decide) (fun c2 => ?_) (fun c2 => ?_)
    · have fc2 := z_le (rfl : ((iv 6 7)).toInt = _) (rfl : (b).toInt = _) c2
      refine lv_iconst (v := 0) hx hb dX6_has_16 (by decide) ?_
      exact W.zret (v := 0) hx hb hr rfl (fun t ht9 hW => ⟨0, rfl, Or.inr ⟨rfl, by omega⟩, ht9⟩) (fun q hq => by cases hq) dX6_has_17
    · have fc2 := z_nle (rfl : ((iv 6 7)).toInt = _) (rfl : (b).toInt = _) c2
      refine lv_iconst (v := 1) hx hb dX6_has_12 (by decide) ?_
      refine lv_goto (tgt := 17) hx hb dX6_has_13 (by decide) ?_
      exact W.zret (v := 1) hx hb hr rfl (fun t ht9 hW => ⟨1, rfl, Or.inl ⟨rfl, by omega⟩, ht9⟩) (fun q hq => by cases hq) dX6_has_17
set_option maxHeartbeats 4000000 in
set_option maxRecDepth 100000 in
/-- X6_isCertificate -/
theorem c_X6_isCertificate (l : Launch) (dC : Nat → ClassId) (dI : Nat → Nat → Nat) (h : Nat) (g : Nat → Nat → Nat) (ca : Nat → Nat → ClassId) (iv : Nat → Nat → Int32) (lv : Nat → Nat → Int64) (fa : Nat → Nat → Nat → Int32) (la : Nat → Nat → Nat → Int64) (hI : IX iv fa) (a : Int32) (h_a : 0 ≤ a.toInt ∧ a.toInt ≤ 39) : Met l yX6_isCertificate (wc yX6_isCertificate cX6_isCertificate 2 (some .boolean)) ({ frames := 0, cells := 0, slots := 0, locals := 0 } : Room) (pR (dC, dI) classes (WX h g ca iv lv fa la) (TX ca) [.ref (g 11 9), .int a]) (vp_Si (fun r => 0 ≤ r.toInt ∧ r.toInt ≤ 1)) 0 0 (fun _ => False) := by
  refine Met.ofW (cc := cX6_isCertificate) (maxL := 2) (ret := (some .boolean)) (by decide) rfl ?_
  intro p e s m args below meth c s₁ B hml hv
  obtain ⟨rfl, hP, hK⟩ := hv
  have hx := B.exec
  have hb := B.bytes
  have hr := B.returns
  have ht := tb_tl (atoms_spec (ws := wc yX6_isCertificate cX6_isCertificate 2 (some .boolean)) B.pre)
  have hown : s.vm.findClass RX6 = some m.cls := findClass_of_methodNamed B.named
  have hlocks := B.notSynchronized
  have hl := lv_entry [.ref (g 11 9), .int a] (n := 2) (Nat.le_of_ble_eq_true rfl)
  rw [lg_entry_eq]
  generalize (lg_sl [.ref (g 11 9), .int a] ++ List.replicate (2 - (lg_sl [.ref (g 11 9), .int a]).length) Slot.unset).toArray = ls at hl ⊢
  have hl : lv_has ls 2 [(0, .ref (g 11 9)), (1, .int a)] := hl
  refine lv_aload_n hx hb dX6_isCertificate_0 rfl (lv_at hl 0 rfl) ?_
  refine gX_6_0 hx hb ht hown hK hP m_383 dX6_isCertificate_1 ?_
  refine lv_iload_n hx hb dX6_isCertificate_4 rfl (lv_at hl 1 rfl) ?_
  refine lX_6_0 hx hb hK hP (f := (fa 6 0)) rfl (vp_in_iff.mpr ⟨by omega, by omega⟩) dX6_isCertificate_5 ?_
  refine lv_topi (fun v1 ev1 => ?_)
  refine lv_if_ne (tgt := 13) hx hb dX6_isCertificate_6 (by decide) (fun c2 => ?_) (fun c2 => ?_)
  · have fc2 := z_ne (rfl : (v1).toInt = _) (by decide : (0 : Int32).toInt = 0) c2
    refine lv_iconst (v := 0) hx hb dX6_isCertificate_13 (by decide) ?_
    exact W.zret (v := 0) hx hb hr rfl (fun t ht9 hW => ⟨0, rfl, ⟨by decide, by decide⟩, ht9⟩) (fun q hq => by cases hq) dX6_isCertificate_14
  · have fc2 := z_eq (rfl : (v1).toInt = _) (by decide : (0 : Int32).toInt = 0) c2
    refine lv_iconst (v := 1) hx hb dX6_isCertificate_9 (by decide) ?_
    refine lv_goto (tgt := 14) hx hb dX6_isCertificate_10 (by decide) ?_
    exact W.zret (v := 1) hx hb hr rfl (fun t ht9 hW => ⟨1, rfl, ⟨by decide, by decide⟩, ht9⟩) (fun q hq => by cases hq) dX6_isCertificate_14
set_option maxHeartbeats 4000000 in
set_option maxRecDepth 100000 in
/-- X6_hanging -/
theorem c_X6_hanging (l : Launch) (dC : Nat → ClassId) (dI : Nat → Nat → Nat) (h : Nat) (g : Nat → Nat → Nat) (ca : Nat → Nat → ClassId) (iv : Nat → Nat → Int32) (lv : Nat → Nat → Int64) (fa : Nat → Nat → Nat → Int32) (la : Nat → Nat → Nat → Int64) (hI : IX iv fa) (b : Int32) : Met l yX6_hanging (wc yX6_hanging cX6_hanging 4 (some .int)) ({ frames := 0, cells := 0, slots := 0, locals := 0 } : Room) (pR (dC, dI) classes (WX h g ca iv lv fa la) (TX ca) [.ref (g 11 9), .int b]) (vp_Si (fun r => True)) 0 0 (fun _ => False) := by
  refine Met.ofW (cc := cX6_hanging) (maxL := 4) (ret := (some .int)) (by decide) rfl ?_
  intro p e s m args below meth c s₁ B hml hv
  obtain ⟨rfl, hP, hK⟩ := hv
  have hx := B.exec
  have hb := B.bytes
  have hr := B.returns
  have ht := tb_tl (atoms_spec (ws := wc yX6_hanging cX6_hanging 4 (some .int)) B.pre)
  have hown : s.vm.findClass RX6 = some m.cls := findClass_of_methodNamed B.named
  have hlocks := B.notSynchronized
  have hl := lv_entry [.ref (g 11 9), .int b] (n := 4) (Nat.le_of_ble_eq_true rfl)
  rw [lg_entry_eq]
  generalize (lg_sl [.ref (g 11 9), .int b] ++ List.replicate (4 - (lg_sl [.ref (g 11 9), .int b]).length) Slot.unset).toArray = ls at hl ⊢
  have hl : lv_has ls 4 [(0, .ref (g 11 9)), (1, .int b)] := hl
  refine lv_iconst (v := 0) hx hb dX6_hanging_0 (by decide) ?_
  refine lv_istore_n (lv' := [(2, .int 0), (0, .ref (g 11 9)), (1, .int b)]) hx hb dX6_hanging_1 rfl hl (by decide) rfl (fun ls hl => ?_)
  refine lv_iconst (v := 0) hx hb dX6_hanging_2 (by decide) ?_
  refine lv_istore_n (lv' := [(3, .int 0), (2, .int 0), (0, .ref (g 11 9)), (1, .int b)]) hx hb dX6_hanging_3 rfl hl (by decide) rfl (fun ls hl => ?_)
  have lp366 : ∀ (nn366 : Nat) (x365_3 : Int32) (x365_2 : Int32), 0 ≤ x365_3.toInt ∧ x365_3.toInt ≤ 40 → 40 - x365_3.toInt < (nn366 : Int) → ∀ (ls : Array Slot), lv_has ls 4 [(3, .int x365_3), (2, .int x365_2), (0, .ref (g 11 9)), (1, .int b)] → W p l e ({ frames := 0, cells := 0, slots := 0, locals := 0 } : Room) s m ([.ref (g 11 9), .int b] : List Value).toArray below meth c s.heap [] 0 0 (MQ below (vp_Si (fun r => True)) ([.ref (g 11 9), .int b] : List Value).toArray s 0 0 (fun _ => False)) (F0 m 4 ls []) := by
    intro nn366
    induction nn366 with
    | zero => intro x365_3 x365_2 hx365_3 hm366; exfalso; omega
    | succ nn366 ih366 =>
      intro x365_3 x365_2 hx365_3 hm366 ls hl
      refine lv_iload_n hx hb dX6_hanging_4 rfl (lv_at hl 0 rfl) ?_
      refine lv_aload_n hx hb dX6_hanging_5 rfl (lv_at hl 2 rfl) ?_
      have i_6_7 : 0 ≤ (iv 6 7).toInt ∧ (iv 6 7).toInt ≤ 40 := hI.1 6 7
      refine gX_6_7 hx hb ht hown hK hP m_396 (v := (iv 6 7)) rfl dX6_hanging_6 ?_
      refine lv_icmp_ge (tgt := 31) hx hb dX6_hanging_9 (by decide) (fun c367 => ?_) (fun c367 => ?_)
      · have fc367 := z_le (rfl : ((iv 6 7)).toInt = _) (rfl : (x365_3).toInt = _) c367
        refine lv_iload_n hx hb dX6_hanging_31 rfl (lv_at hl 1 rfl) ?_
        exact W.iret (v := x365_2) hx hb hr (fun t ht9 hW => ⟨x365_2, rfl, trivial, ht9⟩) (fun q hq => by cases hq) dX6_hanging_32
      · have fc367 := z_nle (rfl : ((iv 6 7)).toInt = _) (rfl : (x365_3).toInt = _) c367
        refine lv_aload_n hx hb dX6_hanging_12 rfl (lv_at hl 2 rfl) ?_
        refine gX_6_3 hx hb ht hown hK hP m_389 dX6_hanging_13 ?_
        refine lv_iload_n hx hb dX6_hanging_16 rfl (lv_at hl 0 rfl) ?_
        refine lX_6_3 hx hb hK hP (f := (fa 6 3)) rfl (vp_in_iff.mpr ⟨by omega, by omega⟩) dX6_hanging_17 ?_
        refine lv_topi (fun v368 ev368 => ?_)
        have tv368 : (-1) ≤ v368.toInt ∧ v368.toInt ≤ 39 := by rw [ev368]; exact hI.2 6 3 _
        refine lv_iload_n hx hb dX6_hanging_18 rfl (lv_at hl 3 rfl) ?_
        refine lv_icmp_ne (tgt := 25) hx hb dX6_hanging_19 (by decide) (fun c369 => ?_) (fun c369 => ?_)
        · have fc369 := z_ne (rfl : (v368).toInt = _) (rfl : (b).toInt = _) c369
          obtain ⟨v370, ev370⟩ : ∃ y : Int32, y = x365_3 + 1 := ⟨_, rfl⟩
          have tv370 := z_add ev370 rfl (by decide : (1 : Int32).toInt = 1) (by omega) (by omega)
          refine lv_iinc (v := v370) (lv' := [(3, .int v370), (2, .int x365_2), (0, .ref (g 11 9)), (1, .int b)]) hx hb dX6_hanging_25 hl (k := 0) rfl (by rw [ev370]; rfl) (by decide) rfl (fun ls hl => ?_)
          refine lv_goto (tgt := 4) hx hb dX6_hanging_28 (by decide) ?_
          exact ih366 v370 x365_2 ⟨by omega, by omega⟩ (by omega) ls (lv_sub hl [0, 1, 2, 3] rfl)
        · have fc369 := z_eq (rfl : (v368).toInt = _) (rfl : (b).toInt = _) c369
          obtain ⟨v371, ev371⟩ : ∃ y : Int32, y = x365_2 + 1 := ⟨_, rfl⟩
          refine lv_iinc (v := v371) (lv' := [(2, .int v371), (3, .int x365_3), (0, .ref (g 11 9)), (1, .int b)]) hx hb dX6_hanging_22 hl (k := 1) rfl (by rw [ev371]; rfl) (by decide) rfl (fun ls hl => ?_)
          obtain ⟨v372, ev372⟩ : ∃ y : Int32, y = x365_3 + 1 := ⟨_, rfl⟩
          have tv372 := z_add ev372 rfl (by decide : (1 : Int32).toInt = 1) (by omega) (by omega)
          refine lv_iinc (v := v372) (lv' := [(3, .int v372), (2, .int v371), (0, .ref (g 11 9)), (1, .int b)]) hx hb dX6_hanging_25 hl (k := 1) rfl (by rw [ev372]; rfl) (by decide) rfl (fun ls hl => ?_)
          refine lv_goto (tgt := 4) hx hb dX6_hanging_28 (by decide) ?_
          exact ih366 v372 v371 ⟨by omega, by omega⟩ (by omega) ls (lv_sub hl [0, 1, 2, 3] rfl)
  exact lp366 41 0 0 ⟨by decide, by decide⟩ (by first | decide | omega) ls (lv_sub hl [0, 1, 2, 3] rfl)
