/-! ===== m4 ===== -/
set_option maxRecDepth 100000 in
theorem m_59 : Cond.selects RX12 yX12_only yX12_only ∈ tb := tb_in 59 (by decide +kernel) rfl
set_option maxRecDepth 100000 in
theorem m_61 : Cond.selects RX12 yX12_half yX12_half ∈ tb := tb_in 61 (by decide +kernel) rfl
theorem m_1162 : Cond.fieldLink RX12 303 "SilkHouseModel" "rules" "I" ∈ tb := mb_5_5 _ (List.mem_of_getElem? (i := 3) rfl)
theorem m_1164 : Cond.fieldLink RX12 62 "SilkHouseModel" "clauses" "[I" ∈ tb := mb_5_5 _ (List.mem_of_getElem? (i := 5) rfl)
theorem m_1165 : Cond.fieldLink RX12 65 "SilkHouseModel" "kindOf" "[I" ∈ tb := mb_5_5 _ (List.mem_of_getElem? (i := 6) rfl)
theorem m_1169 : Cond.fieldLink RX12 77 "SilkHouseModel" "wordSize" "[I" ∈ tb := mb_5_5 _ (List.mem_of_getElem? (i := 10) rfl)
theorem m_1170 : Cond.fieldLink RX12 80 "SilkHouseModel" "word" "[I" ∈ tb := mb_5_5 _ (List.mem_of_getElem? (i := 11) rfl)
theorem m_1181 : Cond.fieldLink RX12 96 "SilkHouseModel" "dryOf" "[J" ∈ tb := mb_5_5 _ (List.mem_of_getElem? (i := 22) rfl)
theorem m_1182 : Cond.fieldLink RX12 100 "SilkHouseModel" "rawOf" "[J" ∈ tb := mb_5_5 _ (List.mem_of_getElem? (i := 23) rfl)
theorem m_1183 : Cond.fieldLink RX12 328 "SilkHouseModel" "resultUp" "J" ∈ tb := mb_5_6 _ (List.mem_of_getElem? (i := 0) rfl)
theorem m_1184 : Cond.fieldLink RX12 331 "SilkHouseModel" "resultDown" "J" ∈ tb := mb_5_6 _ (List.mem_of_getElem? (i := 1) rfl)
theorem m_1536 : Cond.methodLink RX12 337 yX12_only ∈ tb := mb_7_0 _ (List.mem_of_getElem? (i := 18) rfl)
theorem m_1538 : Cond.instanceMethod yX12_only ∈ tb := mb_7_0 _ (List.mem_of_getElem? (i := 19) rfl)
theorem m_1539 : Cond.code yX12_only cX12_only 2 none ∈ tb := mb_7_0 _ (List.mem_of_getElem? (i := 20) rfl)
theorem m_1548 : Cond.methodLink RX12 334 yX12_half ∈ tb := mb_7_1 _ (List.mem_of_getElem? (i := 4) rfl)
theorem m_1550 : Cond.instanceMethod yX12_half ∈ tb := mb_7_1 _ (List.mem_of_getElem? (i := 5) rfl)
theorem m_1551 : Cond.code yX12_half cX12_half 3 none ∈ tb := mb_7_1 _ (List.mem_of_getElem? (i := 6) rfl)
theorem hd_X12_half_v : yX12_half.cls = RX12 ∧ yX12_half.cls ≠ "java/lang/invoke/MethodHandle" ∧ yX12_half.cls ≠ "java/lang/invoke/VarHandle" ∧ (parseMethodDescriptor yX12_half.desc).map (fun d => d.parameters.length) = some 2 := by decide +kernel
theorem hd_X12_only_v : yX12_only.cls = RX12 ∧ yX12_only.cls ≠ "java/lang/invoke/MethodHandle" ∧ yX12_only.cls ≠ "java/lang/invoke/VarHandle" ∧ (parseMethodDescriptor yX12_only.desc).map (fun d => d.parameters.length) = some 1 := by decide +kernel
set_option maxRecDepth 100000 in
theorem dvX12_half_0 : ([(0, .aload_n 0, 1), (1, .aload_n 0, 1), (2, .getfield 96, 3), (5, .iload_n 1, 1), (6, .laload, 1), (7, .aload_n 0, 1), (8, .getfield 100, 3), (11, .iload_n 2, 1), (12, .laload, 1), (13, .lmul, 1), (14, .aload_n 0, 1), (15, .getfield 96, 3), (18, .iload_n 2, 1), (19, .laload, 1), (20, .aload_n 0, 1), (21, .getfield 100, 3), (24, .iload_n 1, 1), (25, .laload, 1), (26, .lmul, 1), (27, .ladd, 1), (28, .putfield 328, 3), (31, .aload_n 0, 1), (32, .ldc2_w 188, 3), (35, .aload_n 0, 1)] : List (Nat × Instr × Nat)).all (fun q => decide (decode cX12_half q.1 = .ok (q.2.1, q.2.2))) = true := by decide +kernel
theorem dX12_half_0 : decode cX12_half 0 = .ok (.aload_n 0, 1) := all_at dvX12_half_0 0 rfl
theorem dX12_half_1 : decode cX12_half 1 = .ok (.aload_n 0, 1) := all_at dvX12_half_0 1 rfl
theorem dX12_half_2 : decode cX12_half 2 = .ok (.getfield 96, 3) := all_at dvX12_half_0 2 rfl
theorem dX12_half_5 : decode cX12_half 5 = .ok (.iload_n 1, 1) := all_at dvX12_half_0 3 rfl
theorem dX12_half_6 : decode cX12_half 6 = .ok (.laload, 1) := all_at dvX12_half_0 4 rfl
theorem dX12_half_7 : decode cX12_half 7 = .ok (.aload_n 0, 1) := all_at dvX12_half_0 5 rfl
theorem dX12_half_8 : decode cX12_half 8 = .ok (.getfield 100, 3) := all_at dvX12_half_0 6 rfl
theorem dX12_half_11 : decode cX12_half 11 = .ok (.iload_n 2, 1) := all_at dvX12_half_0 7 rfl
theorem dX12_half_12 : decode cX12_half 12 = .ok (.laload, 1) := all_at dvX12_half_0 8 rfl
theorem dX12_half_13 : decode cX12_half 13 = .ok (.lmul, 1) := all_at dvX12_half_0 9 rfl
theorem dX12_half_14 : decode cX12_half 14 = .ok (.aload_n 0, 1) := all_at dvX12_half_0 10 rfl
theorem dX12_half_15 : decode cX12_half 15 = .ok (.getfield 96, 3) := all_at dvX12_half_0 11 rfl
theorem dX12_half_18 : decode cX12_half 18 = .ok (.iload_n 2, 1) := all_at dvX12_half_0 12 rfl
theorem dX12_half_19 : decode cX12_half 19 = .ok (.laload, 1) := all_at dvX12_half_0 13 rfl
theorem dX12_half_20 : decode cX12_half 20 = .ok (.aload_n 0, 1) := all_at dvX12_half_0 14 rfl
theorem dX12_half_21 : decode cX12_half 21 = .ok (.getfield 100, 3) := all_at dvX12_half_0 15 rfl
theorem dX12_half_24 : decode cX12_half 24 = .ok (.iload_n 1, 1) := all_at dvX12_half_0 16 rfl
theorem dX12_half_25 : decode cX12_half 25 = .ok (.laload, 1) := all_at dvX12_half_0 17 rfl
theorem dX12_half_26 : decode cX12_half 26 = .ok (.lmul, 1) := all_at dvX12_half_0 18 rfl
theorem dX12_half_27 : decode cX12_half 27 = .ok (.ladd, 1) := all_at dvX12_half_0 19 rfl
theorem dX12_half_28 : decode cX12_half 28 = .ok (.putfield 328, 3) := all_at dvX12_half_0 20 rfl
theorem dX12_half_31 : decode cX12_half 31 = .ok (.aload_n 0, 1) := all_at dvX12_half_0 21 rfl
theorem dX12_half_32 : decode cX12_half 32 = .ok (.ldc2_w 188, 3) := all_at dvX12_half_0 22 rfl
theorem dX12_half_35 : decode cX12_half 35 = .ok (.aload_n 0, 1) := all_at dvX12_half_0 23 rfl
set_option maxRecDepth 100000 in
theorem dvX12_half_36 : ([(36, .getfield 100, 3), (39, .iload_n 1, 1), (40, .laload, 1), (41, .lmul, 1), (42, .aload_n 0, 1), (43, .getfield 100, 3), (46, .iload_n 2, 1), (47, .laload, 1), (48, .lmul, 1), (49, .putfield 331, 3), (52, .return_, 1)] : List (Nat × Instr × Nat)).all (fun q => decide (decode cX12_half q.1 = .ok (q.2.1, q.2.2))) = true := by decide +kernel
theorem dX12_half_36 : decode cX12_half 36 = .ok (.getfield 100, 3) := all_at dvX12_half_36 0 rfl
theorem dX12_half_39 : decode cX12_half 39 = .ok (.iload_n 1, 1) := all_at dvX12_half_36 1 rfl
theorem dX12_half_40 : decode cX12_half 40 = .ok (.laload, 1) := all_at dvX12_half_36 2 rfl
theorem dX12_half_41 : decode cX12_half 41 = .ok (.lmul, 1) := all_at dvX12_half_36 3 rfl
theorem dX12_half_42 : decode cX12_half 42 = .ok (.aload_n 0, 1) := all_at dvX12_half_36 4 rfl
theorem dX12_half_43 : decode cX12_half 43 = .ok (.getfield 100, 3) := all_at dvX12_half_36 5 rfl
theorem dX12_half_46 : decode cX12_half 46 = .ok (.iload_n 2, 1) := all_at dvX12_half_36 6 rfl
theorem dX12_half_47 : decode cX12_half 47 = .ok (.laload, 1) := all_at dvX12_half_36 7 rfl
theorem dX12_half_48 : decode cX12_half 48 = .ok (.lmul, 1) := all_at dvX12_half_36 8 rfl
theorem dX12_half_49 : decode cX12_half 49 = .ok (.putfield 331, 3) := all_at dvX12_half_36 9 rfl
theorem dX12_half_52 : decode cX12_half 52 = .ok (.return_, 1) := all_at dvX12_half_36 10 rfl
set_option maxRecDepth 100000 in
theorem dvX12_held_0 : ([(0, .iload_n 0, 1), (1, .bipush 40, 2), (3, .if_icmp .le 8, 3), (6, .bipush 40, 2), (8, .goto 15, 3), (11, .iload_n 0, 1), (12, .bipush (-40), 2), (14, .if_icmp .ge 8, 3), (17, .bipush (-40), 2), (19, .goto 4, 3), (22, .iload_n 0, 1), (23, .ireturn, 1)] : List (Nat × Instr × Nat)).all (fun q => decide (decode cX12_held q.1 = .ok (q.2.1, q.2.2))) = true := by decide +kernel
theorem dX12_held_0 : decode cX12_held 0 = .ok (.iload_n 0, 1) := all_at dvX12_held_0 0 rfl
theorem dX12_held_1 : decode cX12_held 1 = .ok (.bipush 40, 2) := all_at dvX12_held_0 1 rfl
theorem dX12_held_3 : decode cX12_held 3 = .ok (.if_icmp .le 8, 3) := all_at dvX12_held_0 2 rfl
theorem dX12_held_6 : decode cX12_held 6 = .ok (.bipush 40, 2) := all_at dvX12_held_0 3 rfl
theorem dX12_held_8 : decode cX12_held 8 = .ok (.goto 15, 3) := all_at dvX12_held_0 4 rfl
theorem dX12_held_11 : decode cX12_held 11 = .ok (.iload_n 0, 1) := all_at dvX12_held_0 5 rfl
theorem dX12_held_12 : decode cX12_held 12 = .ok (.bipush (-40), 2) := all_at dvX12_held_0 6 rfl
theorem dX12_held_14 : decode cX12_held 14 = .ok (.if_icmp .ge 8, 3) := all_at dvX12_held_0 7 rfl
theorem dX12_held_17 : decode cX12_held 17 = .ok (.bipush (-40), 2) := all_at dvX12_held_0 8 rfl
theorem dX12_held_19 : decode cX12_held 19 = .ok (.goto 4, 3) := all_at dvX12_held_0 9 rfl
theorem dX12_held_22 : decode cX12_held 22 = .ok (.iload_n 0, 1) := all_at dvX12_held_0 10 rfl
theorem dX12_held_23 : decode cX12_held 23 = .ok (.ireturn, 1) := all_at dvX12_held_0 11 rfl
set_option maxRecDepth 100000 in
theorem dvX12_isLess_0 : ([(0, .aload_n 0, 1), (1, .getfield 96, 3), (4, .iload_n 1, 1), (5, .laload, 1), (6, .aload_n 0, 1), (7, .getfield 100, 3), (10, .iload_n 2, 1), (11, .laload, 1), (12, .lmul, 1), (13, .aload_n 0, 1), (14, .getfield 96, 3), (17, .iload_n 2, 1), (18, .laload, 1), (19, .aload_n 0, 1), (20, .getfield 100, 3), (23, .iload_n 1, 1), (24, .laload, 1), (25, .lmul, 1), (26, .lcmp, 1), (27, .ifCond .ge 7, 3), (30, .iconst 1, 1), (31, .goto 4, 3), (34, .iconst 0, 1), (35, .ireturn, 1)] : List (Nat × Instr × Nat)).all (fun q => decide (decode cX12_isLess q.1 = .ok (q.2.1, q.2.2))) = true := by decide +kernel
theorem dX12_isLess_0 : decode cX12_isLess 0 = .ok (.aload_n 0, 1) := all_at dvX12_isLess_0 0 rfl
theorem dX12_isLess_1 : decode cX12_isLess 1 = .ok (.getfield 96, 3) := all_at dvX12_isLess_0 1 rfl
theorem dX12_isLess_4 : decode cX12_isLess 4 = .ok (.iload_n 1, 1) := all_at dvX12_isLess_0 2 rfl
theorem dX12_isLess_5 : decode cX12_isLess 5 = .ok (.laload, 1) := all_at dvX12_isLess_0 3 rfl
theorem dX12_isLess_6 : decode cX12_isLess 6 = .ok (.aload_n 0, 1) := all_at dvX12_isLess_0 4 rfl
theorem dX12_isLess_7 : decode cX12_isLess 7 = .ok (.getfield 100, 3) := all_at dvX12_isLess_0 5 rfl
theorem dX12_isLess_10 : decode cX12_isLess 10 = .ok (.iload_n 2, 1) := all_at dvX12_isLess_0 6 rfl
theorem dX12_isLess_11 : decode cX12_isLess 11 = .ok (.laload, 1) := all_at dvX12_isLess_0 7 rfl
theorem dX12_isLess_12 : decode cX12_isLess 12 = .ok (.lmul, 1) := all_at dvX12_isLess_0 8 rfl
theorem dX12_isLess_13 : decode cX12_isLess 13 = .ok (.aload_n 0, 1) := all_at dvX12_isLess_0 9 rfl
theorem dX12_isLess_14 : decode cX12_isLess 14 = .ok (.getfield 96, 3) := all_at dvX12_isLess_0 10 rfl
theorem dX12_isLess_17 : decode cX12_isLess 17 = .ok (.iload_n 2, 1) := all_at dvX12_isLess_0 11 rfl
theorem dX12_isLess_18 : decode cX12_isLess 18 = .ok (.laload, 1) := all_at dvX12_isLess_0 12 rfl
theorem dX12_isLess_19 : decode cX12_isLess 19 = .ok (.aload_n 0, 1) := all_at dvX12_isLess_0 13 rfl
theorem dX12_isLess_20 : decode cX12_isLess 20 = .ok (.getfield 100, 3) := all_at dvX12_isLess_0 14 rfl
theorem dX12_isLess_23 : decode cX12_isLess 23 = .ok (.iload_n 1, 1) := all_at dvX12_isLess_0 15 rfl
theorem dX12_isLess_24 : decode cX12_isLess 24 = .ok (.laload, 1) := all_at dvX12_isLess_0 16 rfl
theorem dX12_isLess_25 : decode cX12_isLess 25 = .ok (.lmul, 1) := all_at dvX12_isLess_0 17 rfl
theorem dX12_isLess_26 : decode cX12_isLess 26 = .ok (.lcmp, 1) := all_at dvX12_isLess_0 18 rfl
theorem dX12_isLess_27 : decode cX12_isLess 27 = .ok (.ifCond .ge 7, 3) := all_at dvX12_isLess_0 19 rfl
theorem dX12_isLess_30 : decode cX12_isLess 30 = .ok (.iconst 1, 1) := all_at dvX12_isLess_0 20 rfl
theorem dX12_isLess_31 : decode cX12_isLess 31 = .ok (.goto 4, 3) := all_at dvX12_isLess_0 21 rfl
theorem dX12_isLess_34 : decode cX12_isLess 34 = .ok (.iconst 0, 1) := all_at dvX12_isLess_0 22 rfl
theorem dX12_isLess_35 : decode cX12_isLess 35 = .ok (.ireturn, 1) := all_at dvX12_isLess_0 23 rfl
set_option maxRecDepth 100000 in
theorem dvX12_letter_0 : ([(0, .iload_n 1, 1), (1, .ifCond .lt 30, 3), (4, .iload_n 1, 1), (5, .bipush 100, 2), (7, .idiv, 1), (8, .aload_n 0, 1), (9, .getfield 303, 3), (12, .if_icmp .ge 19, 3), (15, .iload_n 1, 1), (16, .bipush 100, 2), (18, .irem, 1), (19, .aload_n 0, 1), (20, .getfield 62, 3), (23, .iload_n 1, 1), (24, .bipush 100, 2), (26, .idiv, 1), (27, .iaload, 1), (28, .if_icmp .lt 6, 3), (31, .ldc 187, 2), (33, .ireturn, 1), (34, .bipush 12, 2), (36, .iload_n 1, 1), (37, .bipush 100, 2), (39, .idiv, 1)] : List (Nat × Instr × Nat)).all (fun q => decide (decode cX12_letter q.1 = .ok (q.2.1, q.2.2))) = true := by decide +kernel
theorem dX12_letter_0 : decode cX12_letter 0 = .ok (.iload_n 1, 1) := all_at dvX12_letter_0 0 rfl
theorem dX12_letter_1 : decode cX12_letter 1 = .ok (.ifCond .lt 30, 3) := all_at dvX12_letter_0 1 rfl
theorem dX12_letter_4 : decode cX12_letter 4 = .ok (.iload_n 1, 1) := all_at dvX12_letter_0 2 rfl
theorem dX12_letter_5 : decode cX12_letter 5 = .ok (.bipush 100, 2) := all_at dvX12_letter_0 3 rfl
theorem dX12_letter_7 : decode cX12_letter 7 = .ok (.idiv, 1) := all_at dvX12_letter_0 4 rfl
theorem dX12_letter_8 : decode cX12_letter 8 = .ok (.aload_n 0, 1) := all_at dvX12_letter_0 5 rfl
theorem dX12_letter_9 : decode cX12_letter 9 = .ok (.getfield 303, 3) := all_at dvX12_letter_0 6 rfl
theorem dX12_letter_12 : decode cX12_letter 12 = .ok (.if_icmp .ge 19, 3) := all_at dvX12_letter_0 7 rfl
theorem dX12_letter_15 : decode cX12_letter 15 = .ok (.iload_n 1, 1) := all_at dvX12_letter_0 8 rfl
theorem dX12_letter_16 : decode cX12_letter 16 = .ok (.bipush 100, 2) := all_at dvX12_letter_0 9 rfl
theorem dX12_letter_18 : decode cX12_letter 18 = .ok (.irem, 1) := all_at dvX12_letter_0 10 rfl
theorem dX12_letter_19 : decode cX12_letter 19 = .ok (.aload_n 0, 1) := all_at dvX12_letter_0 11 rfl
theorem dX12_letter_20 : decode cX12_letter 20 = .ok (.getfield 62, 3) := all_at dvX12_letter_0 12 rfl
theorem dX12_letter_23 : decode cX12_letter 23 = .ok (.iload_n 1, 1) := all_at dvX12_letter_0 13 rfl
theorem dX12_letter_24 : decode cX12_letter 24 = .ok (.bipush 100, 2) := all_at dvX12_letter_0 14 rfl
theorem dX12_letter_26 : decode cX12_letter 26 = .ok (.idiv, 1) := all_at dvX12_letter_0 15 rfl
theorem dX12_letter_27 : decode cX12_letter 27 = .ok (.iaload, 1) := all_at dvX12_letter_0 16 rfl
theorem dX12_letter_28 : decode cX12_letter 28 = .ok (.if_icmp .lt 6, 3) := all_at dvX12_letter_0 17 rfl
theorem dX12_letter_31 : decode cX12_letter 31 = .ok (.ldc 187, 2) := all_at dvX12_letter_0 18 rfl
theorem dX12_letter_33 : decode cX12_letter 33 = .ok (.ireturn, 1) := all_at dvX12_letter_0 19 rfl
theorem dX12_letter_34 : decode cX12_letter 34 = .ok (.bipush 12, 2) := all_at dvX12_letter_0 20 rfl
theorem dX12_letter_36 : decode cX12_letter 36 = .ok (.iload_n 1, 1) := all_at dvX12_letter_0 21 rfl
theorem dX12_letter_37 : decode cX12_letter 37 = .ok (.bipush 100, 2) := all_at dvX12_letter_0 22 rfl
theorem dX12_letter_39 : decode cX12_letter 39 = .ok (.idiv, 1) := all_at dvX12_letter_0 23 rfl
set_option maxRecDepth 100000 in
theorem dvX12_letter_40 : ([(40, .imul, 1), (41, .iload_n 1, 1), (42, .bipush 100, 2), (44, .irem, 1), (45, .iadd, 1), (46, .istore_n 3, 1), (47, .aload_n 0, 1), (48, .getfield 65, 3), (51, .iload_n 3, 1), (52, .iaload, 1), (53, .iconst 2, 1), (54, .if_icmp .ne 35, 3), (57, .iload_n 2, 1), (58, .i2l, 1), (59, .lconst 0, 1), (60, .aload_n 0, 1), (61, .getfield 77, 3), (64, .iload_n 3, 1), (65, .iaload, 1), (66, .iconst 1, 1), (67, .isub, 1), (68, .i2l, 1), (69, .invokestatic 167, 3), (72, .ifCond .eq 17, 3)] : List (Nat × Instr × Nat)).all (fun q => decide (decode cX12_letter q.1 = .ok (q.2.1, q.2.2))) = true := by decide +kernel
theorem dX12_letter_40 : decode cX12_letter 40 = .ok (.imul, 1) := all_at dvX12_letter_40 0 rfl
theorem dX12_letter_41 : decode cX12_letter 41 = .ok (.iload_n 1, 1) := all_at dvX12_letter_40 1 rfl
theorem dX12_letter_42 : decode cX12_letter 42 = .ok (.bipush 100, 2) := all_at dvX12_letter_40 2 rfl
theorem dX12_letter_44 : decode cX12_letter 44 = .ok (.irem, 1) := all_at dvX12_letter_40 3 rfl
theorem dX12_letter_45 : decode cX12_letter 45 = .ok (.iadd, 1) := all_at dvX12_letter_40 4 rfl
theorem dX12_letter_46 : decode cX12_letter 46 = .ok (.istore_n 3, 1) := all_at dvX12_letter_40 5 rfl
theorem dX12_letter_47 : decode cX12_letter 47 = .ok (.aload_n 0, 1) := all_at dvX12_letter_40 6 rfl
theorem dX12_letter_48 : decode cX12_letter 48 = .ok (.getfield 65, 3) := all_at dvX12_letter_40 7 rfl
theorem dX12_letter_51 : decode cX12_letter 51 = .ok (.iload_n 3, 1) := all_at dvX12_letter_40 8 rfl
theorem dX12_letter_52 : decode cX12_letter 52 = .ok (.iaload, 1) := all_at dvX12_letter_40 9 rfl
theorem dX12_letter_53 : decode cX12_letter 53 = .ok (.iconst 2, 1) := all_at dvX12_letter_40 10 rfl
theorem dX12_letter_54 : decode cX12_letter 54 = .ok (.if_icmp .ne 35, 3) := all_at dvX12_letter_40 11 rfl
theorem dX12_letter_57 : decode cX12_letter 57 = .ok (.iload_n 2, 1) := all_at dvX12_letter_40 12 rfl
theorem dX12_letter_58 : decode cX12_letter 58 = .ok (.i2l, 1) := all_at dvX12_letter_40 13 rfl
theorem dX12_letter_59 : decode cX12_letter 59 = .ok (.lconst 0, 1) := all_at dvX12_letter_40 14 rfl
theorem dX12_letter_60 : decode cX12_letter 60 = .ok (.aload_n 0, 1) := all_at dvX12_letter_40 15 rfl
theorem dX12_letter_61 : decode cX12_letter 61 = .ok (.getfield 77, 3) := all_at dvX12_letter_40 16 rfl
theorem dX12_letter_64 : decode cX12_letter 64 = .ok (.iload_n 3, 1) := all_at dvX12_letter_40 17 rfl
theorem dX12_letter_65 : decode cX12_letter 65 = .ok (.iaload, 1) := all_at dvX12_letter_40 18 rfl
theorem dX12_letter_66 : decode cX12_letter 66 = .ok (.iconst 1, 1) := all_at dvX12_letter_40 19 rfl
theorem dX12_letter_67 : decode cX12_letter 67 = .ok (.isub, 1) := all_at dvX12_letter_40 20 rfl
theorem dX12_letter_68 : decode cX12_letter 68 = .ok (.i2l, 1) := all_at dvX12_letter_40 21 rfl
theorem dX12_letter_69 : decode cX12_letter 69 = .ok (.invokestatic 167, 3) := all_at dvX12_letter_40 22 rfl
theorem dX12_letter_72 : decode cX12_letter 72 = .ok (.ifCond .eq 17, 3) := all_at dvX12_letter_40 23 rfl
set_option maxRecDepth 100000 in
theorem dvX12_letter_75 : ([(75, .aload_n 0, 1), (76, .getfield 80, 3), (79, .bipush 8, 2), (81, .iload_n 3, 1), (82, .imul, 1), (83, .iload_n 2, 1), (84, .iadd, 1), (85, .iaload, 1), (86, .goto 4, 3), (89, .iconst (-1), 1), (90, .ireturn, 1)] : List (Nat × Instr × Nat)).all (fun q => decide (decode cX12_letter q.1 = .ok (q.2.1, q.2.2))) = true := by decide +kernel
theorem dX12_letter_75 : decode cX12_letter 75 = .ok (.aload_n 0, 1) := all_at dvX12_letter_75 0 rfl
theorem dX12_letter_76 : decode cX12_letter 76 = .ok (.getfield 80, 3) := all_at dvX12_letter_75 1 rfl
theorem dX12_letter_79 : decode cX12_letter 79 = .ok (.bipush 8, 2) := all_at dvX12_letter_75 2 rfl
theorem dX12_letter_81 : decode cX12_letter 81 = .ok (.iload_n 3, 1) := all_at dvX12_letter_75 3 rfl
theorem dX12_letter_82 : decode cX12_letter 82 = .ok (.imul, 1) := all_at dvX12_letter_75 4 rfl
theorem dX12_letter_83 : decode cX12_letter 83 = .ok (.iload_n 2, 1) := all_at dvX12_letter_75 5 rfl
theorem dX12_letter_84 : decode cX12_letter 84 = .ok (.iadd, 1) := all_at dvX12_letter_75 6 rfl
theorem dX12_letter_85 : decode cX12_letter 85 = .ok (.iaload, 1) := all_at dvX12_letter_75 7 rfl
theorem dX12_letter_86 : decode cX12_letter 86 = .ok (.goto 4, 3) := all_at dvX12_letter_75 8 rfl
theorem dX12_letter_89 : decode cX12_letter 89 = .ok (.iconst (-1), 1) := all_at dvX12_letter_75 9 rfl
theorem dX12_letter_90 : decode cX12_letter 90 = .ok (.ireturn, 1) := all_at dvX12_letter_75 10 rfl
set_option maxRecDepth 100000 in
theorem dvX12_only_0 : ([(0, .aload_n 0, 1), (1, .aload_n 0, 1), (2, .getfield 96, 3), (5, .iload_n 1, 1), (6, .laload, 1), (7, .putfield 328, 3), (10, .aload_n 0, 1), (11, .aload_n 0, 1), (12, .getfield 100, 3), (15, .iload_n 1, 1), (16, .laload, 1), (17, .putfield 331, 3), (20, .return_, 1)] : List (Nat × Instr × Nat)).all (fun q => decide (decode cX12_only q.1 = .ok (q.2.1, q.2.2))) = true := by decide +kernel
theorem dX12_only_0 : decode cX12_only 0 = .ok (.aload_n 0, 1) := all_at dvX12_only_0 0 rfl
theorem dX12_only_1 : decode cX12_only 1 = .ok (.aload_n 0, 1) := all_at dvX12_only_0 1 rfl
theorem dX12_only_2 : decode cX12_only 2 = .ok (.getfield 96, 3) := all_at dvX12_only_0 2 rfl
theorem dX12_only_5 : decode cX12_only 5 = .ok (.iload_n 1, 1) := all_at dvX12_only_0 3 rfl
theorem dX12_only_6 : decode cX12_only 6 = .ok (.laload, 1) := all_at dvX12_only_0 4 rfl
theorem dX12_only_7 : decode cX12_only 7 = .ok (.putfield 328, 3) := all_at dvX12_only_0 5 rfl
theorem dX12_only_10 : decode cX12_only 10 = .ok (.aload_n 0, 1) := all_at dvX12_only_0 6 rfl
theorem dX12_only_11 : decode cX12_only 11 = .ok (.aload_n 0, 1) := all_at dvX12_only_0 7 rfl
theorem dX12_only_12 : decode cX12_only 12 = .ok (.getfield 100, 3) := all_at dvX12_only_0 8 rfl
theorem dX12_only_15 : decode cX12_only 15 = .ok (.iload_n 1, 1) := all_at dvX12_only_0 9 rfl
theorem dX12_only_16 : decode cX12_only 16 = .ok (.laload, 1) := all_at dvX12_only_0 10 rfl
theorem dX12_only_17 : decode cX12_only 17 = .ok (.putfield 331, 3) := all_at dvX12_only_0 11 rfl
theorem dX12_only_20 : decode cX12_only 20 = .ok (.return_, 1) := all_at dvX12_only_0 12 rfl
set_option maxRecDepth 100000 in
theorem dvX12_settleThree_0 : ([(0, .aload_n 0, 1), (1, .getfield 96, 3), (4, .iconst 0, 1), (5, .laload, 1), (6, .aload_n 0, 1), (7, .getfield 100, 3), (10, .iconst 1, 1), (11, .laload, 1), (12, .lmul, 1), (13, .aload_n 0, 1), (14, .getfield 100, 3), (17, .iconst 2, 1), (18, .laload, 1), (19, .lmul, 1), (20, .lstore_n 2, 1), (21, .aload_n 0, 1), (22, .getfield 96, 3), (25, .iconst 1, 1), (26, .laload, 1), (27, .aload_n 0, 1), (28, .getfield 100, 3), (31, .iconst 0, 1), (32, .laload, 1), (33, .lmul, 1)] : List (Nat × Instr × Nat)).all (fun q => decide (decode cX12_settleThree q.1 = .ok (q.2.1, q.2.2))) = true := by decide +kernel
theorem dX12_settleThree_0 : decode cX12_settleThree 0 = .ok (.aload_n 0, 1) := all_at dvX12_settleThree_0 0 rfl
theorem dX12_settleThree_1 : decode cX12_settleThree 1 = .ok (.getfield 96, 3) := all_at dvX12_settleThree_0 1 rfl
theorem dX12_settleThree_4 : decode cX12_settleThree 4 = .ok (.iconst 0, 1) := all_at dvX12_settleThree_0 2 rfl
theorem dX12_settleThree_5 : decode cX12_settleThree 5 = .ok (.laload, 1) := all_at dvX12_settleThree_0 3 rfl
theorem dX12_settleThree_6 : decode cX12_settleThree 6 = .ok (.aload_n 0, 1) := all_at dvX12_settleThree_0 4 rfl
theorem dX12_settleThree_7 : decode cX12_settleThree 7 = .ok (.getfield 100, 3) := all_at dvX12_settleThree_0 5 rfl
theorem dX12_settleThree_10 : decode cX12_settleThree 10 = .ok (.iconst 1, 1) := all_at dvX12_settleThree_0 6 rfl
theorem dX12_settleThree_11 : decode cX12_settleThree 11 = .ok (.laload, 1) := all_at dvX12_settleThree_0 7 rfl
theorem dX12_settleThree_12 : decode cX12_settleThree 12 = .ok (.lmul, 1) := all_at dvX12_settleThree_0 8 rfl
theorem dX12_settleThree_13 : decode cX12_settleThree 13 = .ok (.aload_n 0, 1) := all_at dvX12_settleThree_0 9 rfl
theorem dX12_settleThree_14 : decode cX12_settleThree 14 = .ok (.getfield 100, 3) := all_at dvX12_settleThree_0 10 rfl
theorem dX12_settleThree_17 : decode cX12_settleThree 17 = .ok (.iconst 2, 1) := all_at dvX12_settleThree_0 11 rfl
theorem dX12_settleThree_18 : decode cX12_settleThree 18 = .ok (.laload, 1) := all_at dvX12_settleThree_0 12 rfl
theorem dX12_settleThree_19 : decode cX12_settleThree 19 = .ok (.lmul, 1) := all_at dvX12_settleThree_0 13 rfl
theorem dX12_settleThree_20 : decode cX12_settleThree 20 = .ok (.lstore_n 2, 1) := all_at dvX12_settleThree_0 14 rfl
theorem dX12_settleThree_21 : decode cX12_settleThree 21 = .ok (.aload_n 0, 1) := all_at dvX12_settleThree_0 15 rfl
theorem dX12_settleThree_22 : decode cX12_settleThree 22 = .ok (.getfield 96, 3) := all_at dvX12_settleThree_0 16 rfl
theorem dX12_settleThree_25 : decode cX12_settleThree 25 = .ok (.iconst 1, 1) := all_at dvX12_settleThree_0 17 rfl
theorem dX12_settleThree_26 : decode cX12_settleThree 26 = .ok (.laload, 1) := all_at dvX12_settleThree_0 18 rfl
theorem dX12_settleThree_27 : decode cX12_settleThree 27 = .ok (.aload_n 0, 1) := all_at dvX12_settleThree_0 19 rfl
theorem dX12_settleThree_28 : decode cX12_settleThree 28 = .ok (.getfield 100, 3) := all_at dvX12_settleThree_0 20 rfl
theorem dX12_settleThree_31 : decode cX12_settleThree 31 = .ok (.iconst 0, 1) := all_at dvX12_settleThree_0 21 rfl
theorem dX12_settleThree_32 : decode cX12_settleThree 32 = .ok (.laload, 1) := all_at dvX12_settleThree_0 22 rfl
theorem dX12_settleThree_33 : decode cX12_settleThree 33 = .ok (.lmul, 1) := all_at dvX12_settleThree_0 23 rfl
set_option maxRecDepth 100000 in
theorem dvX12_settleThree_34 : ([(34, .aload_n 0, 1), (35, .getfield 100, 3), (38, .iconst 2, 1), (39, .laload, 1), (40, .lmul, 1), (41, .lstore 4, 2), (43, .aload_n 0, 1), (44, .getfield 96, 3), (47, .iconst 2, 1), (48, .laload, 1), (49, .aload_n 0, 1), (50, .getfield 100, 3), (53, .iconst 0, 1), (54, .laload, 1), (55, .lmul, 1), (56, .aload_n 0, 1), (57, .getfield 100, 3), (60, .iconst 1, 1), (61, .laload, 1), (62, .lmul, 1), (63, .lstore 6, 2), (65, .iload_n 1, 1), (66, .ifCond .ne 82, 3), (69, .lload_n 2, 1)] : List (Nat × Instr × Nat)).all (fun q => decide (decode cX12_settleThree q.1 = .ok (q.2.1, q.2.2))) = true := by decide +kernel
theorem dX12_settleThree_34 : decode cX12_settleThree 34 = .ok (.aload_n 0, 1) := all_at dvX12_settleThree_34 0 rfl
theorem dX12_settleThree_35 : decode cX12_settleThree 35 = .ok (.getfield 100, 3) := all_at dvX12_settleThree_34 1 rfl
theorem dX12_settleThree_38 : decode cX12_settleThree 38 = .ok (.iconst 2, 1) := all_at dvX12_settleThree_34 2 rfl
theorem dX12_settleThree_39 : decode cX12_settleThree 39 = .ok (.laload, 1) := all_at dvX12_settleThree_34 3 rfl
theorem dX12_settleThree_40 : decode cX12_settleThree 40 = .ok (.lmul, 1) := all_at dvX12_settleThree_34 4 rfl
theorem dX12_settleThree_41 : decode cX12_settleThree 41 = .ok (.lstore 4, 2) := all_at dvX12_settleThree_34 5 rfl
theorem dX12_settleThree_43 : decode cX12_settleThree 43 = .ok (.aload_n 0, 1) := all_at dvX12_settleThree_34 6 rfl
theorem dX12_settleThree_44 : decode cX12_settleThree 44 = .ok (.getfield 96, 3) := all_at dvX12_settleThree_34 7 rfl
theorem dX12_settleThree_47 : decode cX12_settleThree 47 = .ok (.iconst 2, 1) := all_at dvX12_settleThree_34 8 rfl
theorem dX12_settleThree_48 : decode cX12_settleThree 48 = .ok (.laload, 1) := all_at dvX12_settleThree_34 9 rfl
theorem dX12_settleThree_49 : decode cX12_settleThree 49 = .ok (.aload_n 0, 1) := all_at dvX12_settleThree_34 10 rfl
theorem dX12_settleThree_50 : decode cX12_settleThree 50 = .ok (.getfield 100, 3) := all_at dvX12_settleThree_34 11 rfl
theorem dX12_settleThree_53 : decode cX12_settleThree 53 = .ok (.iconst 0, 1) := all_at dvX12_settleThree_34 12 rfl
theorem dX12_settleThree_54 : decode cX12_settleThree 54 = .ok (.laload, 1) := all_at dvX12_settleThree_34 13 rfl
theorem dX12_settleThree_55 : decode cX12_settleThree 55 = .ok (.lmul, 1) := all_at dvX12_settleThree_34 14 rfl
theorem dX12_settleThree_56 : decode cX12_settleThree 56 = .ok (.aload_n 0, 1) := all_at dvX12_settleThree_34 15 rfl
theorem dX12_settleThree_57 : decode cX12_settleThree 57 = .ok (.getfield 100, 3) := all_at dvX12_settleThree_34 16 rfl
theorem dX12_settleThree_60 : decode cX12_settleThree 60 = .ok (.iconst 1, 1) := all_at dvX12_settleThree_34 17 rfl
theorem dX12_settleThree_61 : decode cX12_settleThree 61 = .ok (.laload, 1) := all_at dvX12_settleThree_34 18 rfl
theorem dX12_settleThree_62 : decode cX12_settleThree 62 = .ok (.lmul, 1) := all_at dvX12_settleThree_34 19 rfl
theorem dX12_settleThree_63 : decode cX12_settleThree 63 = .ok (.lstore 6, 2) := all_at dvX12_settleThree_34 20 rfl
theorem dX12_settleThree_65 : decode cX12_settleThree 65 = .ok (.iload_n 1, 1) := all_at dvX12_settleThree_34 21 rfl
theorem dX12_settleThree_66 : decode cX12_settleThree 66 = .ok (.ifCond .ne 82, 3) := all_at dvX12_settleThree_34 22 rfl
theorem dX12_settleThree_69 : decode cX12_settleThree 69 = .ok (.lload_n 2, 1) := all_at dvX12_settleThree_34 23 rfl
set_option maxRecDepth 100000 in
theorem dvX12_settleThree_70 : ([(70, .lload 4, 2), (72, .lsub, 1), (73, .invokestatic 160, 3), (76, .lstore 8, 2), (78, .lload_n 2, 1), (79, .lload 6, 2), (81, .lsub, 1), (82, .invokestatic 160, 3), (85, .lstore 10, 2), (87, .lload 4, 2), (89, .lload 6, 2), (91, .lsub, 1), (92, .invokestatic 160, 3), (95, .lstore 12, 2), (97, .lload 8, 2), (99, .lload 10, 2), (101, .lcmp, 1), (102, .ifCond .gt 20, 3), (105, .lload 8, 2), (107, .lload 12, 2), (109, .lcmp, 1), (110, .ifCond .gt 12, 3), (113, .aload_n 0, 1), (114, .iconst 0, 1)] : List (Nat × Instr × Nat)).all (fun q => decide (decode cX12_settleThree q.1 = .ok (q.2.1, q.2.2))) = true := by decide +kernel
theorem dX12_settleThree_70 : decode cX12_settleThree 70 = .ok (.lload 4, 2) := all_at dvX12_settleThree_70 0 rfl
theorem dX12_settleThree_72 : decode cX12_settleThree 72 = .ok (.lsub, 1) := all_at dvX12_settleThree_70 1 rfl
theorem dX12_settleThree_73 : decode cX12_settleThree 73 = .ok (.invokestatic 160, 3) := all_at dvX12_settleThree_70 2 rfl
theorem dX12_settleThree_76 : decode cX12_settleThree 76 = .ok (.lstore 8, 2) := all_at dvX12_settleThree_70 3 rfl
theorem dX12_settleThree_78 : decode cX12_settleThree 78 = .ok (.lload_n 2, 1) := all_at dvX12_settleThree_70 4 rfl
theorem dX12_settleThree_79 : decode cX12_settleThree 79 = .ok (.lload 6, 2) := all_at dvX12_settleThree_70 5 rfl
theorem dX12_settleThree_81 : decode cX12_settleThree 81 = .ok (.lsub, 1) := all_at dvX12_settleThree_70 6 rfl
theorem dX12_settleThree_82 : decode cX12_settleThree 82 = .ok (.invokestatic 160, 3) := all_at dvX12_settleThree_70 7 rfl
theorem dX12_settleThree_85 : decode cX12_settleThree 85 = .ok (.lstore 10, 2) := all_at dvX12_settleThree_70 8 rfl
theorem dX12_settleThree_87 : decode cX12_settleThree 87 = .ok (.lload 4, 2) := all_at dvX12_settleThree_70 9 rfl
theorem dX12_settleThree_89 : decode cX12_settleThree 89 = .ok (.lload 6, 2) := all_at dvX12_settleThree_70 10 rfl
theorem dX12_settleThree_91 : decode cX12_settleThree 91 = .ok (.lsub, 1) := all_at dvX12_settleThree_70 11 rfl
theorem dX12_settleThree_92 : decode cX12_settleThree 92 = .ok (.invokestatic 160, 3) := all_at dvX12_settleThree_70 12 rfl
theorem dX12_settleThree_95 : decode cX12_settleThree 95 = .ok (.lstore 12, 2) := all_at dvX12_settleThree_70 13 rfl
theorem dX12_settleThree_97 : decode cX12_settleThree 97 = .ok (.lload 8, 2) := all_at dvX12_settleThree_70 14 rfl
theorem dX12_settleThree_99 : decode cX12_settleThree 99 = .ok (.lload 10, 2) := all_at dvX12_settleThree_70 15 rfl
theorem dX12_settleThree_101 : decode cX12_settleThree 101 = .ok (.lcmp, 1) := all_at dvX12_settleThree_70 16 rfl
theorem dX12_settleThree_102 : decode cX12_settleThree 102 = .ok (.ifCond .gt 20, 3) := all_at dvX12_settleThree_70 17 rfl
theorem dX12_settleThree_105 : decode cX12_settleThree 105 = .ok (.lload 8, 2) := all_at dvX12_settleThree_70 18 rfl
theorem dX12_settleThree_107 : decode cX12_settleThree 107 = .ok (.lload 12, 2) := all_at dvX12_settleThree_70 19 rfl
theorem dX12_settleThree_109 : decode cX12_settleThree 109 = .ok (.lcmp, 1) := all_at dvX12_settleThree_70 20 rfl
theorem dX12_settleThree_110 : decode cX12_settleThree 110 = .ok (.ifCond .gt 12, 3) := all_at dvX12_settleThree_70 21 rfl
theorem dX12_settleThree_113 : decode cX12_settleThree 113 = .ok (.aload_n 0, 1) := all_at dvX12_settleThree_70 22 rfl
theorem dX12_settleThree_114 : decode cX12_settleThree 114 = .ok (.iconst 0, 1) := all_at dvX12_settleThree_70 23 rfl
set_option maxRecDepth 100000 in
theorem dvX12_settleThree_115 : ([(115, .iconst 1, 1), (116, .invokevirtual 334, 3), (119, .goto 26, 3), (122, .lload 10, 2), (124, .lload 12, 2), (126, .lcmp, 1), (127, .ifCond .gt 12, 3), (130, .aload_n 0, 1), (131, .iconst 0, 1), (132, .iconst 2, 1), (133, .invokevirtual 334, 3), (136, .goto 9, 3), (139, .aload_n 0, 1), (140, .iconst 1, 1), (141, .iconst 2, 1), (142, .invokevirtual 334, 3), (145, .goto 114, 3), (148, .iload_n 1, 1), (149, .iconst 1, 1), (150, .if_icmp .ne 41, 3), (153, .aload_n 0, 1), (154, .lload_n 2, 1), (155, .lload 4, 2), (157, .lcmp, 1)] : List (Nat × Instr × Nat)).all (fun q => decide (decode cX12_settleThree q.1 = .ok (q.2.1, q.2.2))) = true := by decide +kernel
theorem dX12_settleThree_115 : decode cX12_settleThree 115 = .ok (.iconst 1, 1) := all_at dvX12_settleThree_115 0 rfl
theorem dX12_settleThree_116 : decode cX12_settleThree 116 = .ok (.invokevirtual 334, 3) := all_at dvX12_settleThree_115 1 rfl
theorem dX12_settleThree_119 : decode cX12_settleThree 119 = .ok (.goto 26, 3) := all_at dvX12_settleThree_115 2 rfl
theorem dX12_settleThree_122 : decode cX12_settleThree 122 = .ok (.lload 10, 2) := all_at dvX12_settleThree_115 3 rfl
theorem dX12_settleThree_124 : decode cX12_settleThree 124 = .ok (.lload 12, 2) := all_at dvX12_settleThree_115 4 rfl
theorem dX12_settleThree_126 : decode cX12_settleThree 126 = .ok (.lcmp, 1) := all_at dvX12_settleThree_115 5 rfl
theorem dX12_settleThree_127 : decode cX12_settleThree 127 = .ok (.ifCond .gt 12, 3) := all_at dvX12_settleThree_115 6 rfl
theorem dX12_settleThree_130 : decode cX12_settleThree 130 = .ok (.aload_n 0, 1) := all_at dvX12_settleThree_115 7 rfl
theorem dX12_settleThree_131 : decode cX12_settleThree 131 = .ok (.iconst 0, 1) := all_at dvX12_settleThree_115 8 rfl
theorem dX12_settleThree_132 : decode cX12_settleThree 132 = .ok (.iconst 2, 1) := all_at dvX12_settleThree_115 9 rfl
theorem dX12_settleThree_133 : decode cX12_settleThree 133 = .ok (.invokevirtual 334, 3) := all_at dvX12_settleThree_115 10 rfl
theorem dX12_settleThree_136 : decode cX12_settleThree 136 = .ok (.goto 9, 3) := all_at dvX12_settleThree_115 11 rfl
theorem dX12_settleThree_139 : decode cX12_settleThree 139 = .ok (.aload_n 0, 1) := all_at dvX12_settleThree_115 12 rfl
theorem dX12_settleThree_140 : decode cX12_settleThree 140 = .ok (.iconst 1, 1) := all_at dvX12_settleThree_115 13 rfl
theorem dX12_settleThree_141 : decode cX12_settleThree 141 = .ok (.iconst 2, 1) := all_at dvX12_settleThree_115 14 rfl
theorem dX12_settleThree_142 : decode cX12_settleThree 142 = .ok (.invokevirtual 334, 3) := all_at dvX12_settleThree_115 15 rfl
theorem dX12_settleThree_145 : decode cX12_settleThree 145 = .ok (.goto 114, 3) := all_at dvX12_settleThree_115 16 rfl
theorem dX12_settleThree_148 : decode cX12_settleThree 148 = .ok (.iload_n 1, 1) := all_at dvX12_settleThree_115 17 rfl
theorem dX12_settleThree_149 : decode cX12_settleThree 149 = .ok (.iconst 1, 1) := all_at dvX12_settleThree_115 18 rfl
theorem dX12_settleThree_150 : decode cX12_settleThree 150 = .ok (.if_icmp .ne 41, 3) := all_at dvX12_settleThree_115 19 rfl
theorem dX12_settleThree_153 : decode cX12_settleThree 153 = .ok (.aload_n 0, 1) := all_at dvX12_settleThree_115 20 rfl
theorem dX12_settleThree_154 : decode cX12_settleThree 154 = .ok (.lload_n 2, 1) := all_at dvX12_settleThree_115 21 rfl
theorem dX12_settleThree_155 : decode cX12_settleThree 155 = .ok (.lload 4, 2) := all_at dvX12_settleThree_115 22 rfl
theorem dX12_settleThree_157 : decode cX12_settleThree 157 = .ok (.lcmp, 1) := all_at dvX12_settleThree_115 23 rfl
set_option maxRecDepth 100000 in
theorem dvX12_settleThree_158 : ([(158, .ifCond .gt 14, 3), (161, .lload_n 2, 1), (162, .lload 6, 2), (164, .lcmp, 1), (165, .ifCond .gt 7, 3), (168, .iconst 0, 1), (169, .goto 16, 3), (172, .lload 4, 2), (174, .lload 6, 2), (176, .lcmp, 1), (177, .ifCond .gt 7, 3), (180, .iconst 1, 1), (181, .goto 4, 3), (184, .iconst 2, 1), (185, .invokevirtual 337, 3), (188, .goto 71, 3), (191, .aload_n 0, 1), (192, .lload_n 2, 1), (193, .lload 4, 2), (195, .lcmp, 1), (196, .ifCond .gt 7, 3), (199, .iconst 1, 1), (200, .goto 4, 3), (203, .iconst 0, 1)] : List (Nat × Instr × Nat)).all (fun q => decide (decode cX12_settleThree q.1 = .ok (q.2.1, q.2.2))) = true := by decide +kernel
theorem dX12_settleThree_158 : decode cX12_settleThree 158 = .ok (.ifCond .gt 14, 3) := all_at dvX12_settleThree_158 0 rfl
theorem dX12_settleThree_161 : decode cX12_settleThree 161 = .ok (.lload_n 2, 1) := all_at dvX12_settleThree_158 1 rfl
theorem dX12_settleThree_162 : decode cX12_settleThree 162 = .ok (.lload 6, 2) := all_at dvX12_settleThree_158 2 rfl
theorem dX12_settleThree_164 : decode cX12_settleThree 164 = .ok (.lcmp, 1) := all_at dvX12_settleThree_158 3 rfl
theorem dX12_settleThree_165 : decode cX12_settleThree 165 = .ok (.ifCond .gt 7, 3) := all_at dvX12_settleThree_158 4 rfl
theorem dX12_settleThree_168 : decode cX12_settleThree 168 = .ok (.iconst 0, 1) := all_at dvX12_settleThree_158 5 rfl
theorem dX12_settleThree_169 : decode cX12_settleThree 169 = .ok (.goto 16, 3) := all_at dvX12_settleThree_158 6 rfl
theorem dX12_settleThree_172 : decode cX12_settleThree 172 = .ok (.lload 4, 2) := all_at dvX12_settleThree_158 7 rfl
theorem dX12_settleThree_174 : decode cX12_settleThree 174 = .ok (.lload 6, 2) := all_at dvX12_settleThree_158 8 rfl
theorem dX12_settleThree_176 : decode cX12_settleThree 176 = .ok (.lcmp, 1) := all_at dvX12_settleThree_158 9 rfl
theorem dX12_settleThree_177 : decode cX12_settleThree 177 = .ok (.ifCond .gt 7, 3) := all_at dvX12_settleThree_158 10 rfl
theorem dX12_settleThree_180 : decode cX12_settleThree 180 = .ok (.iconst 1, 1) := all_at dvX12_settleThree_158 11 rfl
theorem dX12_settleThree_181 : decode cX12_settleThree 181 = .ok (.goto 4, 3) := all_at dvX12_settleThree_158 12 rfl
theorem dX12_settleThree_184 : decode cX12_settleThree 184 = .ok (.iconst 2, 1) := all_at dvX12_settleThree_158 13 rfl
theorem dX12_settleThree_185 : decode cX12_settleThree 185 = .ok (.invokevirtual 337, 3) := all_at dvX12_settleThree_158 14 rfl
theorem dX12_settleThree_188 : decode cX12_settleThree 188 = .ok (.goto 71, 3) := all_at dvX12_settleThree_158 15 rfl
theorem dX12_settleThree_191 : decode cX12_settleThree 191 = .ok (.aload_n 0, 1) := all_at dvX12_settleThree_158 16 rfl
theorem dX12_settleThree_192 : decode cX12_settleThree 192 = .ok (.lload_n 2, 1) := all_at dvX12_settleThree_158 17 rfl
theorem dX12_settleThree_193 : decode cX12_settleThree 193 = .ok (.lload 4, 2) := all_at dvX12_settleThree_158 18 rfl
theorem dX12_settleThree_195 : decode cX12_settleThree 195 = .ok (.lcmp, 1) := all_at dvX12_settleThree_158 19 rfl
theorem dX12_settleThree_196 : decode cX12_settleThree 196 = .ok (.ifCond .gt 7, 3) := all_at dvX12_settleThree_158 20 rfl
theorem dX12_settleThree_199 : decode cX12_settleThree 199 = .ok (.iconst 1, 1) := all_at dvX12_settleThree_158 21 rfl
theorem dX12_settleThree_200 : decode cX12_settleThree 200 = .ok (.goto 4, 3) := all_at dvX12_settleThree_158 22 rfl
theorem dX12_settleThree_203 : decode cX12_settleThree 203 = .ok (.iconst 0, 1) := all_at dvX12_settleThree_158 23 rfl
set_option maxRecDepth 100000 in
theorem dvX12_settleThree_204 : ([(204, .lload 4, 2), (206, .lload 6, 2), (208, .lcmp, 1), (209, .ifCond .gt 7, 3), (212, .iconst 1, 1), (213, .goto 4, 3), (216, .iconst 0, 1), (217, .if_icmp .ne 7, 3), (220, .iconst 1, 1), (221, .goto 35, 3), (224, .lload 4, 2), (226, .lload_n 2, 1), (227, .lcmp, 1), (228, .ifCond .gt 7, 3), (231, .iconst 1, 1), (232, .goto 4, 3), (235, .iconst 0, 1), (236, .lload_n 2, 1), (237, .lload 6, 2), (239, .lcmp, 1), (240, .ifCond .gt 7, 3), (243, .iconst 1, 1), (244, .goto 4, 3), (247, .iconst 0, 1)] : List (Nat × Instr × Nat)).all (fun q => decide (decode cX12_settleThree q.1 = .ok (q.2.1, q.2.2))) = true := by decide +kernel
theorem dX12_settleThree_204 : decode cX12_settleThree 204 = .ok (.lload 4, 2) := all_at dvX12_settleThree_204 0 rfl
theorem dX12_settleThree_206 : decode cX12_settleThree 206 = .ok (.lload 6, 2) := all_at dvX12_settleThree_204 1 rfl
theorem dX12_settleThree_208 : decode cX12_settleThree 208 = .ok (.lcmp, 1) := all_at dvX12_settleThree_204 2 rfl
theorem dX12_settleThree_209 : decode cX12_settleThree 209 = .ok (.ifCond .gt 7, 3) := all_at dvX12_settleThree_204 3 rfl
theorem dX12_settleThree_212 : decode cX12_settleThree 212 = .ok (.iconst 1, 1) := all_at dvX12_settleThree_204 4 rfl
theorem dX12_settleThree_213 : decode cX12_settleThree 213 = .ok (.goto 4, 3) := all_at dvX12_settleThree_204 5 rfl
theorem dX12_settleThree_216 : decode cX12_settleThree 216 = .ok (.iconst 0, 1) := all_at dvX12_settleThree_204 6 rfl
theorem dX12_settleThree_217 : decode cX12_settleThree 217 = .ok (.if_icmp .ne 7, 3) := all_at dvX12_settleThree_204 7 rfl
theorem dX12_settleThree_220 : decode cX12_settleThree 220 = .ok (.iconst 1, 1) := all_at dvX12_settleThree_204 8 rfl
theorem dX12_settleThree_221 : decode cX12_settleThree 221 = .ok (.goto 35, 3) := all_at dvX12_settleThree_204 9 rfl
theorem dX12_settleThree_224 : decode cX12_settleThree 224 = .ok (.lload 4, 2) := all_at dvX12_settleThree_204 10 rfl
theorem dX12_settleThree_226 : decode cX12_settleThree 226 = .ok (.lload_n 2, 1) := all_at dvX12_settleThree_204 11 rfl
theorem dX12_settleThree_227 : decode cX12_settleThree 227 = .ok (.lcmp, 1) := all_at dvX12_settleThree_204 12 rfl
theorem dX12_settleThree_228 : decode cX12_settleThree 228 = .ok (.ifCond .gt 7, 3) := all_at dvX12_settleThree_204 13 rfl
theorem dX12_settleThree_231 : decode cX12_settleThree 231 = .ok (.iconst 1, 1) := all_at dvX12_settleThree_204 14 rfl
theorem dX12_settleThree_232 : decode cX12_settleThree 232 = .ok (.goto 4, 3) := all_at dvX12_settleThree_204 15 rfl
theorem dX12_settleThree_235 : decode cX12_settleThree 235 = .ok (.iconst 0, 1) := all_at dvX12_settleThree_204 16 rfl
theorem dX12_settleThree_236 : decode cX12_settleThree 236 = .ok (.lload_n 2, 1) := all_at dvX12_settleThree_204 17 rfl
theorem dX12_settleThree_237 : decode cX12_settleThree 237 = .ok (.lload 6, 2) := all_at dvX12_settleThree_204 18 rfl
theorem dX12_settleThree_239 : decode cX12_settleThree 239 = .ok (.lcmp, 1) := all_at dvX12_settleThree_204 19 rfl
theorem dX12_settleThree_240 : decode cX12_settleThree 240 = .ok (.ifCond .gt 7, 3) := all_at dvX12_settleThree_204 20 rfl
theorem dX12_settleThree_243 : decode cX12_settleThree 243 = .ok (.iconst 1, 1) := all_at dvX12_settleThree_204 21 rfl
theorem dX12_settleThree_244 : decode cX12_settleThree 244 = .ok (.goto 4, 3) := all_at dvX12_settleThree_204 22 rfl
theorem dX12_settleThree_247 : decode cX12_settleThree 247 = .ok (.iconst 0, 1) := all_at dvX12_settleThree_204 23 rfl
set_option maxRecDepth 100000 in
theorem dvX12_settleThree_248 : ([(248, .if_icmp .ne 7, 3), (251, .iconst 0, 1), (252, .goto 4, 3), (255, .iconst 2, 1), (256, .invokevirtual 337, 3), (259, .return_, 1)] : List (Nat × Instr × Nat)).all (fun q => decide (decode cX12_settleThree q.1 = .ok (q.2.1, q.2.2))) = true := by decide +kernel
theorem dX12_settleThree_248 : decode cX12_settleThree 248 = .ok (.if_icmp .ne 7, 3) := all_at dvX12_settleThree_248 0 rfl
theorem dX12_settleThree_251 : decode cX12_settleThree 251 = .ok (.iconst 0, 1) := all_at dvX12_settleThree_248 1 rfl
theorem dX12_settleThree_252 : decode cX12_settleThree 252 = .ok (.goto 4, 3) := all_at dvX12_settleThree_248 2 rfl
theorem dX12_settleThree_255 : decode cX12_settleThree 255 = .ok (.iconst 2, 1) := all_at dvX12_settleThree_248 3 rfl
theorem dX12_settleThree_256 : decode cX12_settleThree 256 = .ok (.invokevirtual 337, 3) := all_at dvX12_settleThree_248 4 rfl
theorem dX12_settleThree_259 : decode cX12_settleThree 259 = .ok (.return_, 1) := all_at dvX12_settleThree_248 5 rfl
set_option maxHeartbeats 4000000 in
set_option maxRecDepth 100000 in
/-- X12_letter -/
theorem c_X12_letter (l : Launch) (dC : Nat → ClassId) (dI : Nat → Nat → Nat) (h : Nat) (g : Nat → Nat → Nat) (ca : Nat → Nat → ClassId) (iv : Nat → Nat → Int32) (lv : Nat → Nat → Int64) (fa : Nat → Nat → Nat → Int32) (la : Nat → Nat → Nat → Int64) (hI : IX iv fa) (a : Int32) (b : Int32) : Met l yX12_letter (wc yX12_letter cX12_letter 4 (some .int)) ({ frames := 1, cells := 0, slots := 0, locals := 25 } : Room) (pR (dC, dI) classes (WM h g ca iv lv fa la) (TM ca) [.ref h, .int a, .int b]) (vp_Si (fun r => True)) 0 0 (fun _ => False) := by
  refine Met.ofW (cc := cX12_letter) (maxL := 4) (ret := (some .int)) (by decide) rfl ?_
  intro p e s m args below meth c s₁ B hml hv
  obtain ⟨rfl, hP, hK⟩ := hv
  have hx := B.exec
  have hb := B.bytes
  have hr := B.returns
  have ht := tb_tl (atoms_spec (ws := wc yX12_letter cX12_letter 4 (some .int)) B.pre)
  have hown : s.vm.findClass RX12 = some m.cls := findClass_of_methodNamed B.named
  have hlocks := B.notSynchronized
  have hl := lv_entry [.ref h, .int a, .int b] (n := 4) (Nat.le_of_ble_eq_true rfl)
  rw [lg_entry_eq]
  generalize (lg_sl [.ref h, .int a, .int b] ++ List.replicate (4 - (lg_sl [.ref h, .int a, .int b]).length) Slot.unset).toArray = ls at hl ⊢
  have hl : lv_has ls 4 [(0, .ref h), (1, .int a), (2, .int b)] := hl
  refine lv_iload_n hx hb dX12_letter_0 rfl (lv_at hl 1 rfl) ?_
  refine lv_if_lt (tgt := 31) hx hb dX12_letter_1 (by decide) (fun c1 => ?_) (fun c1 => ?_)
  · have fc1 := z_lt (rfl : (a).toInt = _) (by decide : (0 : Int32).toInt = 0) c1
    refine lv_ldc hx hb hown (ht _ m_1389) dX12_letter_31 ?_
    exact W.iret (v := (-100001)) hx hb hr (fun t ht9 hW => ⟨(-100001), rfl, trivial, ht9⟩) (fun q hq => by cases hq) dX12_letter_33
  · have fc1 := z_nlt (rfl : (a).toInt = _) (by decide : (0 : Int32).toInt = 0) c1
    refine lv_iload_n hx hb dX12_letter_4 rfl (lv_at hl 1 rfl) ?_
    refine lv_bipush (v := 100) hx hb dX12_letter_5 (by decide) ?_
    refine lv_idiv hx hb dX12_letter_7 (by decide) ?_
    refine lv_topi (fun v2 ev2 => ?_)
    have tv2 := z_divp ev2 (rfl : (a).toInt = _) (by decide : (100 : Int32).toInt = 100) (by omega) (by omega)
    refine lv_aload_n hx hb dX12_letter_8 rfl (lv_at hl 0 rfl) ?_
    have i_12_23 : 0 ≤ (iv 12 23).toInt ∧ (iv 12 23).toInt ≤ 8 := hI.1 12 23
    refine gM_12_23 hx hb ht hown hK hP m_1162 (v := (iv 12 23)) rfl dX12_letter_9 ?_
    refine lv_icmp_ge (tgt := 31) hx hb dX12_letter_12 (by decide) (fun c3 => ?_) (fun c3 => ?_)
    · have fc3 := z_le (rfl : ((iv 12 23)).toInt = _) (rfl : (v2).toInt = _) c3
      refine lv_ldc hx hb hown (ht _ m_1389) dX12_letter_31 ?_
      exact W.iret (v := (-100001)) hx hb hr (fun t ht9 hW => ⟨(-100001), rfl, trivial, ht9⟩) (fun q hq => by cases hq) dX12_letter_33
    · have fc3 := z_nle (rfl : ((iv 12 23)).toInt = _) (rfl : (v2).toInt = _) c3
      refine lv_iload_n hx hb dX12_letter_15 rfl (lv_at hl 1 rfl) ?_
      refine lv_bipush (v := 100) hx hb dX12_letter_16 (by decide) ?_
      refine lv_irem hx hb dX12_letter_18 (by decide) ?_
      refine lv_topi (fun v4 ev4 => ?_)
      have tv4 := z_remp ev4 (rfl : (a).toInt = _) (by decide : (100 : Int32).toInt = 100) (by omega) (by omega)
      refine lv_aload_n hx hb dX12_letter_19 rfl (lv_at hl 0 rfl) ?_
      refine gM_12_25 hx hb ht hown hK hP m_1164 dX12_letter_20 ?_
      refine lv_iload_n hx hb dX12_letter_23 rfl (lv_at hl 1 rfl) ?_
      refine lv_bipush (v := 100) hx hb dX12_letter_24 (by decide) ?_
      refine lv_idiv hx hb dX12_letter_26 (by decide) ?_
      refine lv_topi (fun v5 ev5 => ?_)
      obtain rfl : v2 = v5 := ev2.trans ev5.symm
      refine lM_12_25 hx hb hK hP (f := (fa 12 25)) rfl (vp_in_iff.mpr ⟨by omega, by omega⟩) dX12_letter_27 ?_
      refine lv_topi (fun v6 ev6 => ?_)
      have tv6 : 0 ≤ v6.toInt ∧ v6.toInt ≤ 12 := by rw [ev6]; exact hI.2 12 25 _
      refine lv_icmp_lt (tgt := 34) hx hb dX12_letter_28 (by decide) (fun c7 => ?_) (fun c7 => ?_)
      · have fc7 := z_lt (rfl : (v4).toInt = _) (rfl : (v6).toInt = _) c7
        refine lv_bipush (v := 12) hx hb dX12_letter_34 (by decide) ?_
        refine lv_iload_n hx hb dX12_letter_36 rfl (lv_at hl 1 rfl) ?_
        refine lv_bipush (v := 100) hx hb dX12_letter_37 (by decide) ?_
        refine lv_idiv hx hb dX12_letter_39 (by decide) ?_
        refine lv_topi (fun v8 ev8 => ?_)
        obtain rfl : v2 = v8 := ev2.trans ev8.symm
        refine lv_imul hx hb dX12_letter_40 ?_
        refine lv_topi (fun v9 ev9 => ?_)
        have tv9 := z_mul ev9 (by decide : (12 : Int32).toInt = 12) (rfl : (v2).toInt = _) (by omega) (by omega)
        refine lv_iload_n hx hb dX12_letter_41 rfl (lv_at hl 1 rfl) ?_
        refine lv_bipush (v := 100) hx hb dX12_letter_42 (by decide) ?_
        refine lv_irem hx hb dX12_letter_44 (by decide) ?_
        refine lv_topi (fun v10 ev10 => ?_)
        obtain rfl : v4 = v10 := ev4.trans ev10.symm
        refine lv_iadd hx hb dX12_letter_45 ?_
        refine lv_topi (fun v11 ev11 => ?_)
        have tv11 := z_add ev11 (rfl : (v9).toInt = _) (rfl : (v4).toInt = _) (by omega) (by omega)
        refine lv_istore_n (lv' := [(3, .int v11), (0, .ref h), (1, .int a), (2, .int b)]) hx hb dX12_letter_46 rfl hl (by decide) rfl (fun ls hl => ?_)
        refine lv_aload_n hx hb dX12_letter_47 rfl (lv_at hl 1 rfl) ?_
        refine gM_12_26 hx hb ht hown hK hP m_1165 dX12_letter_48 ?_
        refine lv_iload_n hx hb dX12_letter_51 rfl (lv_at hl 0 rfl) ?_
        refine lM_12_26 hx hb hK hP (f := (fa 12 26)) rfl (vp_in_iff.mpr ⟨by omega, by omega⟩) dX12_letter_52 ?_
        refine lv_topi (fun v12 ev12 => ?_)
        refine lv_iconst (v := 2) hx hb dX12_letter_53 (by decide) ?_
        refine lv_icmp_ne (tgt := 89) hx hb dX12_letter_54 (by decide) (fun c13 => ?_) (fun c13 => ?_)
        · have fc13 := z_ne (rfl : (v12).toInt = _) (by decide : (2 : Int32).toInt = 2) c13
          refine lv_iconst (v := (-1)) hx hb dX12_letter_89 (by decide) ?_
          exact W.iret (v := (-1)) hx hb hr (fun t ht9 hW => ⟨(-1), rfl, trivial, ht9⟩) (fun q hq => by cases hq) dX12_letter_90
        · have fc13 := z_eq (rfl : (v12).toInt = _) (by decide : (2 : Int32).toInt = 2) c13
          refine lv_iload_n hx hb dX12_letter_57 rfl (lv_at hl 3 rfl) ?_
          refine lv_i2l (v := (b.toInt64)) hx hb dX12_letter_58 rfl ?_
          refine lv_lconst (v := 0) hx hb dX12_letter_59 (by decide) ?_
          refine lv_aload_n hx hb dX12_letter_60 rfl (lv_at hl 1 rfl) ?_
          refine gM_12_30 hx hb ht hown hK hP m_1169 dX12_letter_61 ?_
          refine lv_iload_n hx hb dX12_letter_64 rfl (lv_at hl 0 rfl) ?_
          refine lM_12_30 hx hb hK hP (f := (fa 12 30)) rfl (vp_in_iff.mpr ⟨by omega, by omega⟩) dX12_letter_65 ?_
          refine lv_topi (fun v14 ev14 => ?_)
          have tv14 : 0 ≤ v14.toInt ∧ v14.toInt ≤ 8 := by rw [ev14]; exact hI.2 12 30 _
          refine lv_iconst (v := 1) hx hb dX12_letter_66 (by decide) ?_
          refine lv_isub hx hb dX12_letter_67 ?_
          refine lv_topi (fun v15 ev15 => ?_)
          have tv15 := z_sub ev15 (rfl : (v14).toInt = _) (by decide : (1 : Int32).toInt = 1) (by omega) (by omega)
          refine lv_i2l (v := (v15.toInt64)) hx hb dX12_letter_68 rfl ?_
          refine vp_callSi (W.runS (As := [.long (b.toInt64), .long 0, .long (v15.toInt64)]) (rest := []) ⟨hx, hb, hml, hown, ht⟩ (c_X12_in l dC dI (b.toInt64) 0 (v15.toInt64) (b.toInt) (0) (v15.toInt) ((Int32.toInt_toInt64 b).trans rfl) (by decide : (0 : Int64).toInt = 0) ((Int32.toInt_toInt64 v15).trans rfl)) (kS 3 ht m_1370 m_1371 m_89 m_1372 rfl rfl hd_X12_in_v ⟨Nat.le_of_ble_eq_true rfl, Nat.le_of_ble_eq_true rfl⟩) (sR noP (hK.sub (tys' := []) [] rfl)) rfl rfl hl.1 rfl (lv_room (Nat.le_of_ble_eq_true rfl)) dX12_letter_69 ⟨Nat.le_of_ble_eq_true rfl, Nat.le_of_ble_eq_true rfl⟩) (fun r16 hr16 => ?_)
          rcases hr16 with ⟨rfl, fr16⟩ | ⟨rfl, fr16⟩
          · skip
            refine lv_if_eq (tgt := 89) hx hb dX12_letter_72 (by decide) (fun c17 => ?_) (fun c17 => ?_)
            · exact absurd c17 (by decide)
            · skip
              refine lv_aload_n hx hb dX12_letter_75 rfl (lv_at hl 1 rfl) ?_
              refine gM_12_31 hx hb ht hown hK hP m_1170 dX12_letter_76 ?_
              refine lv_bipush (v := 8) hx hb dX12_letter_79 (by decide) ?_
              refine lv_iload_n hx hb dX12_letter_81 rfl (lv_at hl 0 rfl) ?_
              refine lv_imul hx hb dX12_letter_82 ?_
              refine lv_topi (fun v18 ev18 => ?_)
              have tv18 := z_mul ev18 (by decide : (8 : Int32).toInt = 8) (rfl : (v11).toInt = _) (by omega) (by omega)
              refine lv_iload_n hx hb dX12_letter_83 rfl (lv_at hl 3 rfl) ?_
              refine lv_iadd hx hb dX12_letter_84 ?_
              refine lv_topi (fun v19 ev19 => ?_)
              have tv19 := z_add ev19 (rfl : (v18).toInt = _) (rfl : (b).toInt = _) (by omega) (by omega)
              refine lM_12_31 hx hb hK hP (f := (fa 12 31)) rfl (vp_in_iff.mpr ⟨by omega, by omega⟩) dX12_letter_85 ?_
              refine lv_topi (fun v20 ev20 => ?_)
              refine lv_goto (tgt := 90) hx hb dX12_letter_86 (by decide) ?_
              exact W.iret (v := v20) hx hb hr (fun t ht9 hW => ⟨v20, rfl, trivial, ht9⟩) (fun q hq => by cases hq) dX12_letter_90
          · skip
            refine lv_if_eq (tgt := 89) hx hb dX12_letter_72 (by decide) (fun c21 => ?_) (fun c21 => ?_)
            · skip
              refine lv_iconst (v := (-1)) hx hb dX12_letter_89 (by decide) ?_
              exact W.iret (v := (-1)) hx hb hr (fun t ht9 hW => ⟨(-1), rfl, trivial, ht9⟩) (fun q hq => by cases hq) dX12_letter_90
            · exact absurd rfl c21
      · have fc7 := z_nlt (rfl : (v4).toInt = _) (rfl : (v6).toInt = _) c7
        refine lv_ldc hx hb hown (ht _ m_1389) dX12_letter_31 ?_
        exact W.iret (v := (-100001)) hx hb hr (fun t ht9 hW => ⟨(-100001), rfl, trivial, ht9⟩) (fun q hq => by cases hq) dX12_letter_33
set_option maxHeartbeats 4000000 in
set_option maxRecDepth 100000 in
/-- X12_half -/
theorem c_X12_half (l : Launch) (dC : Nat → ClassId) (dI : Nat → Nat → Nat) (sz : Nat) (h : Nat) (g : Nat → Nat → Nat) (ca : Nat → Nat → ClassId) (iv : Nat → Nat → Int32) (lv : Nat → Nat → Int64) (fa : Nat → Nat → Nat → Int32) (la : Nat → Nat → Nat → Int64) (hI : IX iv fa) (a : Int32) (b : Int32) (h_a : 0 ≤ a.toInt ∧ a.toInt ≤ 2) (h_b : 0 ≤ b.toInt ∧ b.toInt ≤ 2) : Met l yX12_half (wc yX12_half cX12_half 3 none) ({ frames := 0, cells := 0, slots := 0, locals := 0 } : Room) (pW (dC, dI) classes (WM h g ca iv lv fa la) (TM ca) sz [.ref h, .int a, .int b]) (va_Qv (fun (u : SS) => ∃ (nl_12_44 : Int64) (nl_12_45 : Int64), u = (iv, (u2 (u2 lv 12 44 nl_12_44) 12 45 nl_12_45), fa, la)) (bM (dC, dI) h g ca (va_A (WM h g ca iv lv fa la) sz)) (va_A (WM h g ca iv lv fa la) sz)) 0 0 (va_A (WM h g ca iv lv fa la) sz) := by
  refine Met.ofW (cc := cX12_half) (maxL := 3) (ret := none) (by decide) rfl ?_
  intro p e s m args below meth c s₁ B hml hv
  obtain ⟨rfl, hsz, hP, hK, hD0⟩ := hv
  have hx := B.exec
  have hb := B.bytes
  have hr := B.returns
  have ht := tb_tl (atoms_spec (ws := wc yX12_half cX12_half 3 none) B.pre)
  have hown : s.vm.findClass RX12 = some m.cls := findClass_of_methodNamed B.named
  have hlocks := B.notSynchronized
  subst hsz
  have hD := hD0.self (sz := s.heap.size)
  generalize hAe : va_A (WM h g ca iv lv fa la) s.heap.size = A at hD ⊢
  have hA : ∀ q : Nat, s.heap.size ≤ q → A q := fun q h => by rw [← hAe]; exact Or.inr h
  have hS : va_S A s.heap s.heap [] := va_S.rf
  have hl := lv_entry [.ref h, .int a, .int b] (n := 3) (Nat.le_of_ble_eq_true rfl)
  rw [lg_entry_eq]
  generalize (lg_sl [.ref h, .int a, .int b] ++ List.replicate (3 - (lg_sl [.ref h, .int a, .int b]).length) Slot.unset).toArray = ls at hl ⊢
  have hl : lv_has ls 3 [(0, .ref h), (1, .int a), (2, .int b)] := hl
  refine lv_aload_n hx hb dX12_half_0 rfl (lv_at hl 0 rfl) ?_
  refine lv_aload_n hx hb dX12_half_1 rfl (lv_at hl 0 rfl) ?_
  refine gM_12_42 hx hb ht hown hK hP m_1181 dX12_half_2 ?_
  refine lv_iload_n hx hb dX12_half_5 rfl (lv_at hl 1 rfl) ?_
  refine lM_12_42 hx hb hK hP (f := (la 12 42)) rfl (vp_in_iff.mpr ⟨by omega, by omega⟩) dX12_half_6 ?_
  refine lv_topl (fun w1 ew1 => ?_)
  refine lv_aload_n hx hb dX12_half_7 rfl (lv_at hl 0 rfl) ?_
  refine gM_12_43 hx hb ht hown hK hP m_1182 dX12_half_8 ?_
  refine lv_iload_n hx hb dX12_half_11 rfl (lv_at hl 2 rfl) ?_
  refine lM_12_43 hx hb hK hP (f := (la 12 43)) rfl (vp_in_iff.mpr ⟨by omega, by omega⟩) dX12_half_12 ?_
  refine lv_topl (fun w2 ew2 => ?_)
  refine lv_lmul hx hb dX12_half_13 ?_
  refine lv_topl (fun w3 ew3 => ?_)
  refine lv_aload_n hx hb dX12_half_14 rfl (lv_at hl 0 rfl) ?_
  refine gM_12_42 hx hb ht hown hK hP m_1181 dX12_half_15 ?_
  refine lv_iload_n hx hb dX12_half_18 rfl (lv_at hl 2 rfl) ?_
  refine lM_12_42 hx hb hK hP (f := (la 12 42)) rfl (vp_in_iff.mpr ⟨by omega, by omega⟩) dX12_half_19 ?_
  refine lv_topl (fun w4 ew4 => ?_)
  refine lv_aload_n hx hb dX12_half_20 rfl (lv_at hl 0 rfl) ?_
  refine gM_12_43 hx hb ht hown hK hP m_1182 dX12_half_21 ?_
  refine lv_iload_n hx hb dX12_half_24 rfl (lv_at hl 1 rfl) ?_
  refine lM_12_43 hx hb hK hP (f := (la 12 43)) rfl (vp_in_iff.mpr ⟨by omega, by omega⟩) dX12_half_25 ?_
  refine lv_topl (fun w5 ew5 => ?_)
  refine lv_lmul hx hb dX12_half_26 ?_
  refine lv_topl (fun w6 ew6 => ?_)
  refine lv_ladd hx hb dX12_half_27 ?_
  refine lv_topl (fun w7 ew7 => ?_)
  refine pM_12_44 (v := w7) hx hb ht hown hK hP hD hS m_1183 dX12_half_28 (fun H locs hP hD hS => ?_)
  refine lv_aload_n hx hb dX12_half_31 rfl (lv_at hl 0 rfl) ?_
  refine lv_ldc2 hx hb hown (ht _ m_1390) dX12_half_32 ?_
  refine lv_aload_n hx hb dX12_half_35 rfl (lv_at hl 0 rfl) ?_
  refine gM_12_43 hx hb ht hown hK hP m_1182 dX12_half_36 ?_
  refine lv_iload_n hx hb dX12_half_39 rfl (lv_at hl 1 rfl) ?_
  refine lM_12_43 hx hb hK hP (f := (la 12 43)) rfl (vp_in_iff.mpr ⟨by omega, by omega⟩) dX12_half_40 ?_
  refine lv_topl (fun w8 ew8 => ?_)
  refine lv_lmul hx hb dX12_half_41 ?_
  refine lv_topl (fun w9 ew9 => ?_)
  refine lv_aload_n hx hb dX12_half_42 rfl (lv_at hl 0 rfl) ?_
  refine gM_12_43 hx hb ht hown hK hP m_1182 dX12_half_43 ?_
  refine lv_iload_n hx hb dX12_half_46 rfl (lv_at hl 2 rfl) ?_
  refine lM_12_43 hx hb hK hP (f := (la 12 43)) rfl (vp_in_iff.mpr ⟨by omega, by omega⟩) dX12_half_47 ?_
  refine lv_topl (fun w10 ew10 => ?_)
  refine lv_lmul hx hb dX12_half_48 ?_
  refine lv_topl (fun w11 ew11 => ?_)
  refine pM_12_45 (v := w11) hx hb ht hown hK hP hD hS m_1184 dX12_half_49 (fun H locs hP hD hS => ?_)
  have hP9 : va_P (dC, dI) classes (WM h g ca iv (u2 (u2 lv 12 44 w7) 12 45 w11) fa la) H := hP
  have hD9 : va_D A (WM h g ca iv (u2 (u2 lv 12 44 w7) 12 45 w11) fa la) := hD
  exact W.vret hx hb hr (fun t ht9 hW => ⟨⟨(iv, (u2 (u2 lv 12 44 w7) 12 45 w11), fa, la), rfl, ⟨w7, w11, rfl⟩, by rw [ht9]; exact hP9, hD9⟩, hS.F ht9⟩) hS.2.2 dX12_half_52
set_option maxHeartbeats 4000000 in
set_option maxRecDepth 100000 in
/-- X12_only -/
theorem c_X12_only (l : Launch) (dC : Nat → ClassId) (dI : Nat → Nat → Nat) (sz : Nat) (h : Nat) (g : Nat → Nat → Nat) (ca : Nat → Nat → ClassId) (iv : Nat → Nat → Int32) (lv : Nat → Nat → Int64) (fa : Nat → Nat → Nat → Int32) (la : Nat → Nat → Nat → Int64) (hI : IX iv fa) (a : Int32) (h_a : 0 ≤ a.toInt ∧ a.toInt ≤ 2) : Met l yX12_only (wc yX12_only cX12_only 2 none) ({ frames := 0, cells := 0, slots := 0, locals := 0 } : Room) (pW (dC, dI) classes (WM h g ca iv lv fa la) (TM ca) sz [.ref h, .int a]) (va_Qv (fun (u : SS) => ∃ (nl_12_44 : Int64) (nl_12_45 : Int64), u = (iv, (u2 (u2 lv 12 44 nl_12_44) 12 45 nl_12_45), fa, la)) (bM (dC, dI) h g ca (va_A (WM h g ca iv lv fa la) sz)) (va_A (WM h g ca iv lv fa la) sz)) 0 0 (va_A (WM h g ca iv lv fa la) sz) := by
  refine Met.ofW (cc := cX12_only) (maxL := 2) (ret := none) (by decide) rfl ?_
  intro p e s m args below meth c s₁ B hml hv
  obtain ⟨rfl, hsz, hP, hK, hD0⟩ := hv
  have hx := B.exec
  have hb := B.bytes
  have hr := B.returns
  have ht := tb_tl (atoms_spec (ws := wc yX12_only cX12_only 2 none) B.pre)
  have hown : s.vm.findClass RX12 = some m.cls := findClass_of_methodNamed B.named
  have hlocks := B.notSynchronized
  subst hsz
  have hD := hD0.self (sz := s.heap.size)
  generalize hAe : va_A (WM h g ca iv lv fa la) s.heap.size = A at hD ⊢
  have hA : ∀ q : Nat, s.heap.size ≤ q → A q := fun q h => by rw [← hAe]; exact Or.inr h
  have hS : va_S A s.heap s.heap [] := va_S.rf
  have hl := lv_entry [.ref h, .int a] (n := 2) (Nat.le_of_ble_eq_true rfl)
  rw [lg_entry_eq]
  generalize (lg_sl [.ref h, .int a] ++ List.replicate (2 - (lg_sl [.ref h, .int a]).length) Slot.unset).toArray = ls at hl ⊢
  have hl : lv_has ls 2 [(0, .ref h), (1, .int a)] := hl
  refine lv_aload_n hx hb dX12_only_0 rfl (lv_at hl 0 rfl) ?_
  refine lv_aload_n hx hb dX12_only_1 rfl (lv_at hl 0 rfl) ?_
  refine gM_12_42 hx hb ht hown hK hP m_1181 dX12_only_2 ?_
  refine lv_iload_n hx hb dX12_only_5 rfl (lv_at hl 1 rfl) ?_
  refine lM_12_42 hx hb hK hP (f := (la 12 42)) rfl (vp_in_iff.mpr ⟨by omega, by omega⟩) dX12_only_6 ?_
  refine lv_topl (fun w1 ew1 => ?_)
  refine pM_12_44 (v := w1) hx hb ht hown hK hP hD hS m_1183 dX12_only_7 (fun H locs hP hD hS => ?_)
  refine lv_aload_n hx hb dX12_only_10 rfl (lv_at hl 0 rfl) ?_
  refine lv_aload_n hx hb dX12_only_11 rfl (lv_at hl 0 rfl) ?_
  refine gM_12_43 hx hb ht hown hK hP m_1182 dX12_only_12 ?_
  refine lv_iload_n hx hb dX12_only_15 rfl (lv_at hl 1 rfl) ?_
  refine lM_12_43 hx hb hK hP (f := (la 12 43)) rfl (vp_in_iff.mpr ⟨by omega, by omega⟩) dX12_only_16 ?_
  refine lv_topl (fun w2 ew2 => ?_)
  refine pM_12_45 (v := w2) hx hb ht hown hK hP hD hS m_1184 dX12_only_17 (fun H locs hP hD hS => ?_)
  have hP9 : va_P (dC, dI) classes (WM h g ca iv (u2 (u2 lv 12 44 w1) 12 45 w2) fa la) H := hP
  have hD9 : va_D A (WM h g ca iv (u2 (u2 lv 12 44 w1) 12 45 w2) fa la) := hD
  exact W.vret hx hb hr (fun t ht9 hW => ⟨⟨(iv, (u2 (u2 lv 12 44 w1) 12 45 w2), fa, la), rfl, ⟨w1, w2, rfl⟩, by rw [ht9]; exact hP9, hD9⟩, hS.F ht9⟩) hS.2.2 dX12_only_20
set_option maxHeartbeats 4000000 in
set_option maxRecDepth 100000 in
/-- X12_isLess -/
theorem c_X12_isLess (l : Launch) (dC : Nat → ClassId) (dI : Nat → Nat → Nat) (h : Nat) (g : Nat → Nat → Nat) (ca : Nat → Nat → ClassId) (iv : Nat → Nat → Int32) (lv : Nat → Nat → Int64) (fa : Nat → Nat → Nat → Int32) (la : Nat → Nat → Nat → Int64) (hI : IX iv fa) (a : Int32) (b : Int32) (h_a : 0 ≤ a.toInt ∧ a.toInt ≤ 2) (h_b : 0 ≤ b.toInt ∧ b.toInt ≤ 2) : Met l yX12_isLess (wc yX12_isLess cX12_isLess 3 (some .boolean)) ({ frames := 0, cells := 0, slots := 0, locals := 0 } : Room) (pR (dC, dI) classes (WM h g ca iv lv fa la) (TM ca) [.ref h, .int a, .int b]) (vp_Si (fun r => 0 ≤ r.toInt ∧ r.toInt ≤ 1)) 0 0 (fun _ => False) := by
  refine Met.ofW (cc := cX12_isLess) (maxL := 3) (ret := (some .boolean)) (by decide) rfl ?_
  intro p e s m args below meth c s₁ B hml hv
  obtain ⟨rfl, hP, hK⟩ := hv
  have hx := B.exec
  have hb := B.bytes
  have hr := B.returns
  have ht := tb_tl (atoms_spec (ws := wc yX12_isLess cX12_isLess 3 (some .boolean)) B.pre)
  have hown : s.vm.findClass RX12 = some m.cls := findClass_of_methodNamed B.named
  have hlocks := B.notSynchronized
  have hl := lv_entry [.ref h, .int a, .int b] (n := 3) (Nat.le_of_ble_eq_true rfl)
  rw [lg_entry_eq]
  generalize (lg_sl [.ref h, .int a, .int b] ++ List.replicate (3 - (lg_sl [.ref h, .int a, .int b]).length) Slot.unset).toArray = ls at hl ⊢
  have hl : lv_has ls 3 [(0, .ref h), (1, .int a), (2, .int b)] := hl
  refine lv_aload_n hx hb dX12_isLess_0 rfl (lv_at hl 0 rfl) ?_
  refine gM_12_42 hx hb ht hown hK hP m_1181 dX12_isLess_1 ?_
  refine lv_iload_n hx hb dX12_isLess_4 rfl (lv_at hl 1 rfl) ?_
  refine lM_12_42 hx hb hK hP (f := (la 12 42)) rfl (vp_in_iff.mpr ⟨by omega, by omega⟩) dX12_isLess_5 ?_
  refine lv_topl (fun w1 ew1 => ?_)
  refine lv_aload_n hx hb dX12_isLess_6 rfl (lv_at hl 0 rfl) ?_
  refine gM_12_43 hx hb ht hown hK hP m_1182 dX12_isLess_7 ?_
  refine lv_iload_n hx hb dX12_isLess_10 rfl (lv_at hl 2 rfl) ?_
  refine lM_12_43 hx hb hK hP (f := (la 12 43)) rfl (vp_in_iff.mpr ⟨by omega, by omega⟩) dX12_isLess_11 ?_
  refine lv_topl (fun w2 ew2 => ?_)
  refine lv_lmul hx hb dX12_isLess_12 ?_
  refine lv_topl (fun w3 ew3 => ?_)
  refine lv_aload_n hx hb dX12_isLess_13 rfl (lv_at hl 0 rfl) ?_
  refine gM_12_42 hx hb ht hown hK hP m_1181 dX12_isLess_14 ?_
  refine lv_iload_n hx hb dX12_isLess_17 rfl (lv_at hl 2 rfl) ?_
  refine lM_12_42 hx hb hK hP (f := (la 12 42)) rfl (vp_in_iff.mpr ⟨by omega, by omega⟩) dX12_isLess_18 ?_
  refine lv_topl (fun w4 ew4 => ?_)
  refine lv_aload_n hx hb dX12_isLess_19 rfl (lv_at hl 0 rfl) ?_
  refine gM_12_43 hx hb ht hown hK hP m_1182 dX12_isLess_20 ?_
  refine lv_iload_n hx hb dX12_isLess_23 rfl (lv_at hl 1 rfl) ?_
  refine lM_12_43 hx hb hK hP (f := (la 12 43)) rfl (vp_in_iff.mpr ⟨by omega, by omega⟩) dX12_isLess_24 ?_
  refine lv_topl (fun w5 ew5 => ?_)
  refine lv_lmul hx hb dX12_isLess_25 ?_
  refine lv_topl (fun w6 ew6 => ?_)
  refine W.lcmp hx hb dX12_isLess_26 ?_
  refine lv_topi (fun v7 ev7 => ?_)
  refine lv_if_ge (tgt := 34) hx hb dX12_isLess_27 (by decide) (fun c8 => ?_) (fun c8 => ?_)
  · have fc8 := zc_nlt ev7 (rfl : (w3).toInt = _) (rfl : (w6).toInt = _) (Int32.not_lt.mpr c8)
    refine lv_iconst (v := 0) hx hb dX12_isLess_34 (by decide) ?_
    exact W.zret (v := 0) hx hb hr rfl (fun t ht9 hW => ⟨0, rfl, ⟨by decide, by decide⟩, ht9⟩) (fun q hq => by cases hq) dX12_isLess_35
  · have fc8 := zc_lt ev7 (rfl : (w3).toInt = _) (rfl : (w6).toInt = _) (Int32.not_le.mp c8)
    refine lv_iconst (v := 1) hx hb dX12_isLess_30 (by decide) ?_
    refine lv_goto (tgt := 35) hx hb dX12_isLess_31 (by decide) ?_
    exact W.zret (v := 1) hx hb hr rfl (fun t ht9 hW => ⟨1, rfl, ⟨by decide, by decide⟩, ht9⟩) (fun q hq => by cases hq) dX12_isLess_35
set_option maxHeartbeats 4000000 in
set_option maxRecDepth 100000 in
/-- X12_settleThree -/
theorem c_X12_settleThree (l : Launch) (dC : Nat → ClassId) (dI : Nat → Nat → Nat) (sz : Nat) (h : Nat) (g : Nat → Nat → Nat) (ca : Nat → Nat → ClassId) (iv : Nat → Nat → Int32) (lv : Nat → Nat → Int64) (fa : Nat → Nat → Nat → Int32) (la : Nat → Nat → Nat → Int64) (hI : IX iv fa) (a : Int32) : Met l yX12_settleThree (wc yX12_settleThree cX12_settleThree 14 none) ({ frames := 1, cells := 0, slots := 0, locals := 22 } : Room) (pW (dC, dI) classes (WM h g ca iv lv fa la) (TM ca) sz [.ref h, .int a]) (va_Qv (fun (u : SS) => ∃ (nl_12_44 : Int64) (nl_12_45 : Int64), u = (iv, (u2 (u2 lv 12 44 nl_12_44) 12 45 nl_12_45), fa, la)) (bM (dC, dI) h g ca (va_A (WM h g ca iv lv fa la) sz)) (va_A (WM h g ca iv lv fa la) sz)) 0 0 (va_A (WM h g ca iv lv fa la) sz) := by
  refine Met.ofW (cc := cX12_settleThree) (maxL := 14) (ret := none) (by decide) rfl ?_
  intro p e s m args below meth c s₁ B hml hv
  obtain ⟨rfl, hsz, hP, hK, hD0⟩ := hv
  have hx := B.exec
  have hb := B.bytes
  have hr := B.returns
  have ht := tb_tl (atoms_spec (ws := wc yX12_settleThree cX12_settleThree 14 none) B.pre)
  have hown : s.vm.findClass RX12 = some m.cls := findClass_of_methodNamed B.named
  have hlocks := B.notSynchronized
  subst hsz
  have hD := hD0.self (sz := s.heap.size)
  generalize hAe : va_A (WM h g ca iv lv fa la) s.heap.size = A at hD ⊢
  have hA : ∀ q : Nat, s.heap.size ≤ q → A q := fun q h => by rw [← hAe]; exact Or.inr h
  have hS : va_S A s.heap s.heap [] := va_S.rf
  have hl := lv_entry [.ref h, .int a] (n := 14) (Nat.le_of_ble_eq_true rfl)
  rw [lg_entry_eq]
  generalize (lg_sl [.ref h, .int a] ++ List.replicate (14 - (lg_sl [.ref h, .int a]).length) Slot.unset).toArray = ls at hl ⊢
  have hl : lv_has ls 14 [(0, .ref h), (1, .int a)] := hl
  refine lv_aload_n hx hb dX12_settleThree_0 rfl (lv_at hl 0 rfl) ?_
  refine gM_12_42 hx hb ht hown hK hP m_1181 dX12_settleThree_1 ?_
  refine lv_iconst (v := 0) hx hb dX12_settleThree_4 (by decide) ?_
  refine lM_12_42 hx hb hK hP (f := (la 12 42)) rfl (vp_in_iff.mpr (by decide)) dX12_settleThree_5 ?_
  refine lv_topl (fun w1 ew1 => ?_)
  refine lv_aload_n hx hb dX12_settleThree_6 rfl (lv_at hl 0 rfl) ?_
  refine gM_12_43 hx hb ht hown hK hP m_1182 dX12_settleThree_7 ?_
  refine lv_iconst (v := 1) hx hb dX12_settleThree_10 (by decide) ?_
  refine lM_12_43 hx hb hK hP (f := (la 12 43)) rfl (vp_in_iff.mpr (by decide)) dX12_settleThree_11 ?_
  refine lv_topl (fun w2 ew2 => ?_)
  refine lv_lmul hx hb dX12_settleThree_12 ?_
  refine lv_topl (fun w3 ew3 => ?_)
  refine lv_aload_n hx hb dX12_settleThree_13 rfl (lv_at hl 0 rfl) ?_
  refine gM_12_43 hx hb ht hown hK hP m_1182 dX12_settleThree_14 ?_
  refine lv_iconst (v := 2) hx hb dX12_settleThree_17 (by decide) ?_
  refine lM_12_43 hx hb hK hP (f := (la 12 43)) rfl (vp_in_iff.mpr (by decide)) dX12_settleThree_18 ?_
  refine lv_topl (fun w4 ew4 => ?_)
  refine lv_lmul hx hb dX12_settleThree_19 ?_
  refine lv_topl (fun w5 ew5 => ?_)
  refine lv_lstore_n (lv' := [(2, .long w5), (0, .ref h), (1, .int a)]) hx hb dX12_settleThree_20 rfl hl (by decide) rfl (fun ls hl => ?_)
  refine lv_aload_n hx hb dX12_settleThree_21 rfl (lv_at hl 1 rfl) ?_
  refine gM_12_42 hx hb ht hown hK hP m_1181 dX12_settleThree_22 ?_
  refine lv_iconst (v := 1) hx hb dX12_settleThree_25 (by decide) ?_
  refine lM_12_42 hx hb hK hP (f := (la 12 42)) rfl (vp_in_iff.mpr (by decide)) dX12_settleThree_26 ?_
  refine lv_topl (fun w6 ew6 => ?_)
  refine lv_aload_n hx hb dX12_settleThree_27 rfl (lv_at hl 1 rfl) ?_
  refine gM_12_43 hx hb ht hown hK hP m_1182 dX12_settleThree_28 ?_
  refine lv_iconst (v := 0) hx hb dX12_settleThree_31 (by decide) ?_
  refine lM_12_43 hx hb hK hP (f := (la 12 43)) rfl (vp_in_iff.mpr (by decide)) dX12_settleThree_32 ?_
  refine lv_topl (fun w7 ew7 => ?_)
  refine lv_lmul hx hb dX12_settleThree_33 ?_
  refine lv_topl (fun w8 ew8 => ?_)
  refine lv_aload_n hx hb dX12_settleThree_34 rfl (lv_at hl 1 rfl) ?_
  refine gM_12_43 hx hb ht hown hK hP m_1182 dX12_settleThree_35 ?_
  refine lv_iconst (v := 2) hx hb dX12_settleThree_38 (by decide) ?_
  refine lM_12_43 hx hb hK hP (f := (la 12 43)) rfl (vp_in_iff.mpr (by decide)) dX12_settleThree_39 ?_
  refine lv_topl (fun w9 ew9 => ?_)
  refine lv_lmul hx hb dX12_settleThree_40 ?_
  refine lv_topl (fun w10 ew10 => ?_)
  refine lv_lstore (lv' := [(4, .long w10), (2, .long w5), (0, .ref h), (1, .int a)]) hx hb dX12_settleThree_41 hl (by decide) rfl (fun ls hl => ?_)
  refine lv_aload_n hx hb dX12_settleThree_43 rfl (lv_at hl 2 rfl) ?_
  refine gM_12_42 hx hb ht hown hK hP m_1181 dX12_settleThree_44 ?_
  refine lv_iconst (v := 2) hx hb dX12_settleThree_47 (by decide) ?_
  refine lM_12_42 hx hb hK hP (f := (la 12 42)) rfl (vp_in_iff.mpr (by decide)) dX12_settleThree_48 ?_
  refine lv_topl (fun w11 ew11 => ?_)
  refine lv_aload_n hx hb dX12_settleThree_49 rfl (lv_at hl 2 rfl) ?_
  refine gM_12_43 hx hb ht hown hK hP m_1182 dX12_settleThree_50 ?_
  refine lv_iconst (v := 0) hx hb dX12_settleThree_53 (by decide) ?_
  refine lM_12_43 hx hb hK hP (f := (la 12 43)) rfl (vp_in_iff.mpr (by decide)) dX12_settleThree_54 ?_
  refine lv_topl (fun w12 ew12 => ?_)
  refine lv_lmul hx hb dX12_settleThree_55 ?_
  refine lv_topl (fun w13 ew13 => ?_)
  refine lv_aload_n hx hb dX12_settleThree_56 rfl (lv_at hl 2 rfl) ?_
  refine gM_12_43 hx hb ht hown hK hP m_1182 dX12_settleThree_57 ?_
  refine lv_iconst (v := 1) hx hb dX12_settleThree_60 (by decide) ?_
  refine lM_12_43 hx hb hK hP (f := (la 12 43)) rfl (vp_in_iff.mpr (by decide)) dX12_settleThree_61 ?_
  refine lv_topl (fun w14 ew14 => ?_)
  refine lv_lmul hx hb dX12_settleThree_62 ?_
  refine lv_topl (fun w15 ew15 => ?_)
  refine lv_lstore (lv' := [(6, .long w15), (4, .long w10), (2, .long w5), (0, .ref h), (1, .int a)]) hx hb dX12_settleThree_63 hl (by decide) rfl (fun ls hl => ?_)
  refine lv_iload_n hx hb dX12_settleThree_65 rfl (lv_at hl 4 rfl) ?_
  refine lv_if_ne (tgt := 148) hx hb dX12_settleThree_66 (by decide) (fun c16 => ?_) (fun c16 => ?_)
  · have fc16 := z_ne (rfl : (a).toInt = _) (by decide : (0 : Int32).toInt = 0) c16
    refine lv_iload_n hx hb dX12_settleThree_148 rfl (lv_at hl 4 rfl) ?_
    refine lv_iconst (v := 1) hx hb dX12_settleThree_149 (by decide) ?_
    refine lv_icmp_ne (tgt := 191) hx hb dX12_settleThree_150 (by decide) (fun c17 => ?_) (fun c17 => ?_)
    · have fc17 := z_ne (rfl : (a).toInt = _) (by decide : (1 : Int32).toInt = 1) c17
      refine lv_aload_n hx hb dX12_settleThree_191 rfl (lv_at hl 3 rfl) ?_
      refine lv_lload_n hx hb dX12_settleThree_192 rfl (lv_at hl 2 rfl) ?_
      refine lv_lload hx hb dX12_settleThree_193 (lv_at hl 1 rfl) ?_
      refine W.lcmp hx hb dX12_settleThree_195 ?_
      refine lv_topi (fun v18 ev18 => ?_)
      refine lv_if_gt (tgt := 203) hx hb dX12_settleThree_196 (by decide) (fun c19 => ?_) (fun c19 => ?_)
      · have fc19 := zc_gt ev18 (rfl : (w5).toInt = _) (rfl : (w10).toInt = _) c19
        refine lv_iconst (v := 0) hx hb dX12_settleThree_203 (by decide) ?_
        refine lv_lload hx hb dX12_settleThree_204 (lv_at hl 1 rfl) ?_
        refine lv_lload hx hb dX12_settleThree_206 (lv_at hl 0 rfl) ?_
        refine W.lcmp hx hb dX12_settleThree_208 ?_
        refine lv_topi (fun v20 ev20 => ?_)
        refine lv_if_gt (tgt := 216) hx hb dX12_settleThree_209 (by decide) (fun c21 => ?_) (fun c21 => ?_)
        · have fc21 := zc_gt ev20 (rfl : (w10).toInt = _) (rfl : (w15).toInt = _) c21
          refine lv_iconst (v := 0) hx hb dX12_settleThree_216 (by decide) ?_
          refine lv_icmp_ne (tgt := 224) hx hb dX12_settleThree_217 (by decide) (fun c22 => ?_) (fun c22 => ?_)
          · exact absurd rfl c22
          · skip
            refine lv_iconst (v := 1) hx hb dX12_settleThree_220 (by decide) ?_
            refine lv_goto (tgt := 256) hx hb dX12_settleThree_221 (by decide) ?_
            have hFc := free_all hD hS hA
            refine va_callv (va_runV (As := [.int 1]) (rest := []) ⟨hx, hb, hml, hown, ht⟩ (c_X12_only l dC dI s.heap.size h g ca iv lv fa la hI 1 ⟨by decide, by decide⟩) (kV 1 ht m_1536 m_1538 m_59 m_89 m_1539 rfl rfl hd_X12_only_v ⟨Nat.le_of_ble_eq_true rfl, Nat.le_of_ble_eq_true rfl⟩) (vW hP hK hD (rM_12 hK hP)) rfl rfl hl.1 rfl (lv_room (Nat.le_of_ble_eq_true rfl)) dX12_settleThree_256 ⟨Nat.le_of_ble_eq_true rfl, Nat.le_of_ble_eq_true rfl⟩) hS (fun q _ h => hFc q h) hFc (fun u t H1 locs ht9 hvm hr23 hB hz1 hk1 hS => ?_)
            obtain ⟨n24, n25, rfl⟩ := hr23
            obtain ⟨hP, hD⟩ := hB
            rw [ht9] at hP
            generalize H1 = H at hP hS ⊢
            have hP : va_P (dC, dI) classes (WM h g ca iv (u2 (u2 lv 12 44 n24) 12 45 n25) fa la) H := hP
            have hD : va_D A (WM h g ca iv (u2 (u2 lv 12 44 n24) 12 45 n25) fa la) := (show va_D _ (WM h g ca iv (u2 (u2 lv 12 44 n24) 12 45 n25) fa la) from hD).weaken (fun _ _ _ h => hFc _ h)
            have hP9 : va_P (dC, dI) classes (WM h g ca iv (u2 (u2 lv 12 44 n24) 12 45 n25) fa la) H := hP
            have hD9 : va_D A (WM h g ca iv (u2 (u2 lv 12 44 n24) 12 45 n25) fa la) := hD
            exact W.vret hx hb hr (fun t ht9 hW => ⟨⟨(iv, (u2 (u2 lv 12 44 n24) 12 45 n25), fa, la), rfl, ⟨n24, n25, rfl⟩, by rw [ht9]; exact hP9, hD9⟩, hS.F ht9⟩) hS.2.2 dX12_settleThree_259
        · have fc21 := zc_ngt ev20 (rfl : (w10).toInt = _) (rfl : (w15).toInt = _) c21
          refine lv_iconst (v := 1) hx hb dX12_settleThree_212 (by decide) ?_
          refine lv_goto (tgt := 217) hx hb dX12_settleThree_213 (by decide) ?_
          refine lv_icmp_ne (tgt := 224) hx hb dX12_settleThree_217 (by decide) (fun c26 => ?_) (fun c26 => ?_)
          · skip
            refine lv_lload hx hb dX12_settleThree_224 (lv_at hl 1 rfl) ?_
            refine lv_lload_n hx hb dX12_settleThree_226 rfl (lv_at hl 2 rfl) ?_
            refine W.lcmp hx hb dX12_settleThree_227 ?_
            refine lv_topi (fun v27 ev27 => ?_)
            refine lv_if_gt (tgt := 235) hx hb dX12_settleThree_228 (by decide) (fun c28 => ?_) (fun c28 => ?_)
            · have fc28 := zc_gt ev27 (rfl : (w10).toInt = _) (rfl : (w5).toInt = _) c28
              refine lv_iconst (v := 0) hx hb dX12_settleThree_235 (by decide) ?_
              refine lv_lload_n hx hb dX12_settleThree_236 rfl (lv_at hl 2 rfl) ?_
              refine lv_lload hx hb dX12_settleThree_237 (lv_at hl 0 rfl) ?_
              refine W.lcmp hx hb dX12_settleThree_239 ?_
              refine lv_topi (fun v29 ev29 => ?_)
              refine lv_if_gt (tgt := 247) hx hb dX12_settleThree_240 (by decide) (fun c30 => ?_) (fun c30 => ?_)
              · have fc30 := zc_gt ev29 (rfl : (w5).toInt = _) (rfl : (w15).toInt = _) c30
                refine lv_iconst (v := 0) hx hb dX12_settleThree_247 (by decide) ?_
                refine lv_icmp_ne (tgt := 255) hx hb dX12_settleThree_248 (by decide) (fun c31 => ?_) (fun c31 => ?_)
                · exact absurd rfl c31
                · skip
                  refine lv_iconst (v := 0) hx hb dX12_settleThree_251 (by decide) ?_
                  refine lv_goto (tgt := 256) hx hb dX12_settleThree_252 (by decide) ?_
                  have hFc := free_all hD hS hA
                  refine va_callv (va_runV (As := [.int 0]) (rest := []) ⟨hx, hb, hml, hown, ht⟩ (c_X12_only l dC dI s.heap.size h g ca iv lv fa la hI 0 ⟨by decide, by decide⟩) (kV 1 ht m_1536 m_1538 m_59 m_89 m_1539 rfl rfl hd_X12_only_v ⟨Nat.le_of_ble_eq_true rfl, Nat.le_of_ble_eq_true rfl⟩) (vW hP hK hD (rM_12 hK hP)) rfl rfl hl.1 rfl (lv_room (Nat.le_of_ble_eq_true rfl)) dX12_settleThree_256 ⟨Nat.le_of_ble_eq_true rfl, Nat.le_of_ble_eq_true rfl⟩) hS (fun q _ h => hFc q h) hFc (fun u t H1 locs ht9 hvm hr32 hB hz1 hk1 hS => ?_)
                  obtain ⟨n33, n34, rfl⟩ := hr32
                  obtain ⟨hP, hD⟩ := hB
                  rw [ht9] at hP
                  generalize H1 = H at hP hS ⊢
                  have hP : va_P (dC, dI) classes (WM h g ca iv (u2 (u2 lv 12 44 n33) 12 45 n34) fa la) H := hP
                  have hD : va_D A (WM h g ca iv (u2 (u2 lv 12 44 n33) 12 45 n34) fa la) := (show va_D _ (WM h g ca iv (u2 (u2 lv 12 44 n33) 12 45 n34) fa la) from hD).weaken (fun _ _ _ h => hFc _ h)
                  have hP9 : va_P (dC, dI) classes (WM h g ca iv (u2 (u2 lv 12 44 n33) 12 45 n34) fa la) H := hP
                  have hD9 : va_D A (WM h g ca iv (u2 (u2 lv 12 44 n33) 12 45 n34) fa la) := hD
                  exact W.vret hx hb hr (fun t ht9 hW => ⟨⟨(iv, (u2 (u2 lv 12 44 n33) 12 45 n34), fa, la), rfl, ⟨n33, n34, rfl⟩, by rw [ht9]; exact hP9, hD9⟩, hS.F ht9⟩) hS.2.2 dX12_settleThree_259
              · have fc30 := zc_ngt ev29 (rfl : (w5).toInt = _) (rfl : (w15).toInt = _) c30
                refine lv_iconst (v := 1) hx hb dX12_settleThree_243 (by decide) ?_
                refine lv_goto (tgt := 248) hx hb dX12_settleThree_244 (by decide) ?_
                refine lv_icmp_ne (tgt := 255) hx hb dX12_settleThree_248 (by decide) (fun c35 => ?_) (fun c35 => ?_)
                · skip
                  refine lv_iconst (v := 2) hx hb dX12_settleThree_255 (by decide) ?_
                  have hFc := free_all hD hS hA
                  refine va_callv (va_runV (As := [.int 2]) (rest := []) ⟨hx, hb, hml, hown, ht⟩ (c_X12_only l dC dI s.heap.size h g ca iv lv fa la hI 2 ⟨by decide, by decide⟩) (kV 1 ht m_1536 m_1538 m_59 m_89 m_1539 rfl rfl hd_X12_only_v ⟨Nat.le_of_ble_eq_true rfl, Nat.le_of_ble_eq_true rfl⟩) (vW hP hK hD (rM_12 hK hP)) rfl rfl hl.1 rfl (lv_room (Nat.le_of_ble_eq_true rfl)) dX12_settleThree_256 ⟨Nat.le_of_ble_eq_true rfl, Nat.le_of_ble_eq_true rfl⟩) hS (fun q _ h => hFc q h) hFc (fun u t H1 locs ht9 hvm hr36 hB hz1 hk1 hS => ?_)
                  obtain ⟨n37, n38, rfl⟩ := hr36
                  obtain ⟨hP, hD⟩ := hB
                  rw [ht9] at hP
                  generalize H1 = H at hP hS ⊢
                  have hP : va_P (dC, dI) classes (WM h g ca iv (u2 (u2 lv 12 44 n37) 12 45 n38) fa la) H := hP
                  have hD : va_D A (WM h g ca iv (u2 (u2 lv 12 44 n37) 12 45 n38) fa la) := (show va_D _ (WM h g ca iv (u2 (u2 lv 12 44 n37) 12 45 n38) fa la) from hD).weaken (fun _ _ _ h => hFc _ h)
                  have hP9 : va_P (dC, dI) classes (WM h g ca iv (u2 (u2 lv 12 44 n37) 12 45 n38) fa la) H := hP
                  have hD9 : va_D A (WM h g ca iv (u2 (u2 lv 12 44 n37) 12 45 n38) fa la) := hD
                  exact W.vret hx hb hr (fun t ht9 hW => ⟨⟨(iv, (u2 (u2 lv 12 44 n37) 12 45 n38), fa, la), rfl, ⟨n37, n38, rfl⟩, by rw [ht9]; exact hP9, hD9⟩, hS.F ht9⟩) hS.2.2 dX12_settleThree_259
                · exact absurd c35 (by decide)
            · have fc28 := zc_ngt ev27 (rfl : (w10).toInt = _) (rfl : (w5).toInt = _) c28
              refine lv_iconst (v := 1) hx hb dX12_settleThree_231 (by decide) ?_
              refine lv_goto (tgt := 236) hx hb dX12_settleThree_232 (by decide) ?_
              refine lv_lload_n hx hb dX12_settleThree_236 rfl (lv_at hl 2 rfl) ?_
              refine lv_lload hx hb dX12_settleThree_237 (lv_at hl 0 rfl) ?_
              refine W.lcmp hx hb dX12_settleThree_239 ?_
              refine lv_topi (fun v39 ev39 => ?_)
              refine lv_if_gt (tgt := 247) hx hb dX12_settleThree_240 (by decide) (fun c40 => ?_) (fun c40 => ?_)
              · have fc40 := zc_gt ev39 (rfl : (w5).toInt = _) (rfl : (w15).toInt = _) c40
                refine lv_iconst (v := 0) hx hb dX12_settleThree_247 (by decide) ?_
                refine lv_icmp_ne (tgt := 255) hx hb dX12_settleThree_248 (by decide) (fun c41 => ?_) (fun c41 => ?_)
                · skip
                  refine lv_iconst (v := 2) hx hb dX12_settleThree_255 (by decide) ?_
                  have hFc := free_all hD hS hA
                  refine va_callv (va_runV (As := [.int 2]) (rest := []) ⟨hx, hb, hml, hown, ht⟩ (c_X12_only l dC dI s.heap.size h g ca iv lv fa la hI 2 ⟨by decide, by decide⟩) (kV 1 ht m_1536 m_1538 m_59 m_89 m_1539 rfl rfl hd_X12_only_v ⟨Nat.le_of_ble_eq_true rfl, Nat.le_of_ble_eq_true rfl⟩) (vW hP hK hD (rM_12 hK hP)) rfl rfl hl.1 rfl (lv_room (Nat.le_of_ble_eq_true rfl)) dX12_settleThree_256 ⟨Nat.le_of_ble_eq_true rfl, Nat.le_of_ble_eq_true rfl⟩) hS (fun q _ h => hFc q h) hFc (fun u t H1 locs ht9 hvm hr42 hB hz1 hk1 hS => ?_)
                  obtain ⟨n43, n44, rfl⟩ := hr42
                  obtain ⟨hP, hD⟩ := hB
                  rw [ht9] at hP
                  generalize H1 = H at hP hS ⊢
                  have hP : va_P (dC, dI) classes (WM h g ca iv (u2 (u2 lv 12 44 n43) 12 45 n44) fa la) H := hP
                  have hD : va_D A (WM h g ca iv (u2 (u2 lv 12 44 n43) 12 45 n44) fa la) := (show va_D _ (WM h g ca iv (u2 (u2 lv 12 44 n43) 12 45 n44) fa la) from hD).weaken (fun _ _ _ h => hFc _ h)
                  have hP9 : va_P (dC, dI) classes (WM h g ca iv (u2 (u2 lv 12 44 n43) 12 45 n44) fa la) H := hP
                  have hD9 : va_D A (WM h g ca iv (u2 (u2 lv 12 44 n43) 12 45 n44) fa la) := hD
                  exact W.vret hx hb hr (fun t ht9 hW => ⟨⟨(iv, (u2 (u2 lv 12 44 n43) 12 45 n44), fa, la), rfl, ⟨n43, n44, rfl⟩, by rw [ht9]; exact hP9, hD9⟩, hS.F ht9⟩) hS.2.2 dX12_settleThree_259
                · exact absurd c41 (by decide)
              · have fc40 := zc_ngt ev39 (rfl : (w5).toInt = _) (rfl : (w15).toInt = _) c40
                refine lv_iconst (v := 1) hx hb dX12_settleThree_243 (by decide) ?_
                refine lv_goto (tgt := 248) hx hb dX12_settleThree_244 (by decide) ?_
                refine lv_icmp_ne (tgt := 255) hx hb dX12_settleThree_248 (by decide) (fun c45 => ?_) (fun c45 => ?_)
                · exact absurd rfl c45
                · skip
                  refine lv_iconst (v := 0) hx hb dX12_settleThree_251 (by decide) ?_
                  refine lv_goto (tgt := 256) hx hb dX12_settleThree_252 (by decide) ?_
                  have hFc := free_all hD hS hA
                  refine va_callv (va_runV (As := [.int 0]) (rest := []) ⟨hx, hb, hml, hown, ht⟩ (c_X12_only l dC dI s.heap.size h g ca iv lv fa la hI 0 ⟨by decide, by decide⟩) (kV 1 ht m_1536 m_1538 m_59 m_89 m_1539 rfl rfl hd_X12_only_v ⟨Nat.le_of_ble_eq_true rfl, Nat.le_of_ble_eq_true rfl⟩) (vW hP hK hD (rM_12 hK hP)) rfl rfl hl.1 rfl (lv_room (Nat.le_of_ble_eq_true rfl)) dX12_settleThree_256 ⟨Nat.le_of_ble_eq_true rfl, Nat.le_of_ble_eq_true rfl⟩) hS (fun q _ h => hFc q h) hFc (fun u t H1 locs ht9 hvm hr46 hB hz1 hk1 hS => ?_)
                  obtain ⟨n47, n48, rfl⟩ := hr46
                  obtain ⟨hP, hD⟩ := hB
                  rw [ht9] at hP
                  generalize H1 = H at hP hS ⊢
                  have hP : va_P (dC, dI) classes (WM h g ca iv (u2 (u2 lv 12 44 n47) 12 45 n48) fa la) H := hP
                  have hD : va_D A (WM h g ca iv (u2 (u2 lv 12 44 n47) 12 45 n48) fa la) := (show va_D _ (WM h g ca iv (u2 (u2 lv 12 44 n47) 12 45 n48) fa la) from hD).weaken (fun _ _ _ h => hFc _ h)
                  have hP9 : va_P (dC, dI) classes (WM h g ca iv (u2 (u2 lv 12 44 n47) 12 45 n48) fa la) H := hP
                  have hD9 : va_D A (WM h g ca iv (u2 (u2 lv 12 44 n47) 12 45 n48) fa la) := hD
                  exact W.vret hx hb hr (fun t ht9 hW => ⟨⟨(iv, (u2 (u2 lv 12 44 n47) 12 45 n48), fa, la), rfl, ⟨n47, n48, rfl⟩, by rw [ht9]; exact hP9, hD9⟩, hS.F ht9⟩) hS.2.2 dX12_settleThree_259
          · exact absurd c26 (by decide)
      · have fc19 := zc_ngt ev18 (rfl : (w5).toInt = _) (rfl : (w10).toInt = _) c19
        refine lv_iconst (v := 1) hx hb dX12_settleThree_199 (by decide) ?_
        refine lv_goto (tgt := 204) hx hb dX12_settleThree_200 (by decide) ?_
        refine lv_lload hx hb dX12_settleThree_204 (lv_at hl 1 rfl) ?_
        refine lv_lload hx hb dX12_settleThree_206 (lv_at hl 0 rfl) ?_
        refine W.lcmp hx hb dX12_settleThree_208 ?_
        refine lv_topi (fun v49 ev49 => ?_)
        refine lv_if_gt (tgt := 216) hx hb dX12_settleThree_209 (by decide) (fun c50 => ?_) (fun c50 => ?_)
        · have fc50 := zc_gt ev49 (rfl : (w10).toInt = _) (rfl : (w15).toInt = _) c50
          refine lv_iconst (v := 0) hx hb dX12_settleThree_216 (by decide) ?_
          refine lv_icmp_ne (tgt := 224) hx hb dX12_settleThree_217 (by decide) (fun c51 => ?_) (fun c51 => ?_)
          · skip
            refine lv_lload hx hb dX12_settleThree_224 (lv_at hl 1 rfl) ?_
            refine lv_lload_n hx hb dX12_settleThree_226 rfl (lv_at hl 2 rfl) ?_
            refine W.lcmp hx hb dX12_settleThree_227 ?_
            refine lv_topi (fun v52 ev52 => ?_)
            refine lv_if_gt (tgt := 235) hx hb dX12_settleThree_228 (by decide) (fun c53 => ?_) (fun c53 => ?_)
            · have fc53 := zc_gt ev52 (rfl : (w10).toInt = _) (rfl : (w5).toInt = _) c53
              refine lv_iconst (v := 0) hx hb dX12_settleThree_235 (by decide) ?_
              refine lv_lload_n hx hb dX12_settleThree_236 rfl (lv_at hl 2 rfl) ?_
              refine lv_lload hx hb dX12_settleThree_237 (lv_at hl 0 rfl) ?_
              refine W.lcmp hx hb dX12_settleThree_239 ?_
              refine lv_topi (fun v54 ev54 => ?_)
              refine lv_if_gt (tgt := 247) hx hb dX12_settleThree_240 (by decide) (fun c55 => ?_) (fun c55 => ?_)
              · have fc55 := zc_gt ev54 (rfl : (w5).toInt = _) (rfl : (w15).toInt = _) c55
                refine lv_iconst (v := 0) hx hb dX12_settleThree_247 (by decide) ?_
                refine lv_icmp_ne (tgt := 255) hx hb dX12_settleThree_248 (by decide) (fun c56 => ?_) (fun c56 => ?_)
                · exact absurd rfl c56
                · skip
                  refine lv_iconst (v := 0) hx hb dX12_settleThree_251 (by decide) ?_
                  refine lv_goto (tgt := 256) hx hb dX12_settleThree_252 (by decide) ?_
                  have hFc := free_all hD hS hA
                  refine va_callv (va_runV (As := [.int 0]) (rest := []) ⟨hx, hb, hml, hown, ht⟩ (c_X12_only l dC dI s.heap.size h g ca iv lv fa la hI 0 ⟨by decide, by decide⟩) (kV 1 ht m_1536 m_1538 m_59 m_89 m_1539 rfl rfl hd_X12_only_v ⟨Nat.le_of_ble_eq_true rfl, Nat.le_of_ble_eq_true rfl⟩) (vW hP hK hD (rM_12 hK hP)) rfl rfl hl.1 rfl (lv_room (Nat.le_of_ble_eq_true rfl)) dX12_settleThree_256 ⟨Nat.le_of_ble_eq_true rfl, Nat.le_of_ble_eq_true rfl⟩) hS (fun q _ h => hFc q h) hFc (fun u t H1 locs ht9 hvm hr57 hB hz1 hk1 hS => ?_)
                  obtain ⟨n58, n59, rfl⟩ := hr57
                  obtain ⟨hP, hD⟩ := hB
                  rw [ht9] at hP
                  generalize H1 = H at hP hS ⊢
                  have hP : va_P (dC, dI) classes (WM h g ca iv (u2 (u2 lv 12 44 n58) 12 45 n59) fa la) H := hP
                  have hD : va_D A (WM h g ca iv (u2 (u2 lv 12 44 n58) 12 45 n59) fa la) := (show va_D _ (WM h g ca iv (u2 (u2 lv 12 44 n58) 12 45 n59) fa la) from hD).weaken (fun _ _ _ h => hFc _ h)
                  have hP9 : va_P (dC, dI) classes (WM h g ca iv (u2 (u2 lv 12 44 n58) 12 45 n59) fa la) H := hP
                  have hD9 : va_D A (WM h g ca iv (u2 (u2 lv 12 44 n58) 12 45 n59) fa la) := hD
                  exact W.vret hx hb hr (fun t ht9 hW => ⟨⟨(iv, (u2 (u2 lv 12 44 n58) 12 45 n59), fa, la), rfl, ⟨n58, n59, rfl⟩, by rw [ht9]; exact hP9, hD9⟩, hS.F ht9⟩) hS.2.2 dX12_settleThree_259
              · have fc55 := zc_ngt ev54 (rfl : (w5).toInt = _) (rfl : (w15).toInt = _) c55
                refine lv_iconst (v := 1) hx hb dX12_settleThree_243 (by decide) ?_
                refine lv_goto (tgt := 248) hx hb dX12_settleThree_244 (by decide) ?_
                refine lv_icmp_ne (tgt := 255) hx hb dX12_settleThree_248 (by decide) (fun c60 => ?_) (fun c60 => ?_)
                · skip
                  refine lv_iconst (v := 2) hx hb dX12_settleThree_255 (by decide) ?_
                  have hFc := free_all hD hS hA
                  refine va_callv (va_runV (As := [.int 2]) (rest := []) ⟨hx, hb, hml, hown, ht⟩ (c_X12_only l dC dI s.heap.size h g ca iv lv fa la hI 2 ⟨by decide, by decide⟩) (kV 1 ht m_1536 m_1538 m_59 m_89 m_1539 rfl rfl hd_X12_only_v ⟨Nat.le_of_ble_eq_true rfl, Nat.le_of_ble_eq_true rfl⟩) (vW hP hK hD (rM_12 hK hP)) rfl rfl hl.1 rfl (lv_room (Nat.le_of_ble_eq_true rfl)) dX12_settleThree_256 ⟨Nat.le_of_ble_eq_true rfl, Nat.le_of_ble_eq_true rfl⟩) hS (fun q _ h => hFc q h) hFc (fun u t H1 locs ht9 hvm hr61 hB hz1 hk1 hS => ?_)
                  obtain ⟨n62, n63, rfl⟩ := hr61
                  obtain ⟨hP, hD⟩ := hB
                  rw [ht9] at hP
                  generalize H1 = H at hP hS ⊢
                  have hP : va_P (dC, dI) classes (WM h g ca iv (u2 (u2 lv 12 44 n62) 12 45 n63) fa la) H := hP
                  have hD : va_D A (WM h g ca iv (u2 (u2 lv 12 44 n62) 12 45 n63) fa la) := (show va_D _ (WM h g ca iv (u2 (u2 lv 12 44 n62) 12 45 n63) fa la) from hD).weaken (fun _ _ _ h => hFc _ h)
                  have hP9 : va_P (dC, dI) classes (WM h g ca iv (u2 (u2 lv 12 44 n62) 12 45 n63) fa la) H := hP
                  have hD9 : va_D A (WM h g ca iv (u2 (u2 lv 12 44 n62) 12 45 n63) fa la) := hD
                  exact W.vret hx hb hr (fun t ht9 hW => ⟨⟨(iv, (u2 (u2 lv 12 44 n62) 12 45 n63), fa, la), rfl, ⟨n62, n63, rfl⟩, by rw [ht9]; exact hP9, hD9⟩, hS.F ht9⟩) hS.2.2 dX12_settleThree_259
                · exact absurd c60 (by decide)
            · have fc53 := zc_ngt ev52 (rfl : (w10).toInt = _) (rfl : (w5).toInt = _) c53
              refine lv_iconst (v := 1) hx hb dX12_settleThree_231 (by decide) ?_
              refine lv_goto (tgt := 236) hx hb dX12_settleThree_232 (by decide) ?_
              refine lv_lload_n hx hb dX12_settleThree_236 rfl (lv_at hl 2 rfl) ?_
              refine lv_lload hx hb dX12_settleThree_237 (lv_at hl 0 rfl) ?_
              refine W.lcmp hx hb dX12_settleThree_239 ?_
              refine lv_topi (fun v64 ev64 => ?_)
              refine lv_if_gt (tgt := 247) hx hb dX12_settleThree_240 (by decide) (fun c65 => ?_) (fun c65 => ?_)
              · have fc65 := zc_gt ev64 (rfl : (w5).toInt = _) (rfl : (w15).toInt = _) c65
                refine lv_iconst (v := 0) hx hb dX12_settleThree_247 (by decide) ?_
                refine lv_icmp_ne (tgt := 255) hx hb dX12_settleThree_248 (by decide) (fun c66 => ?_) (fun c66 => ?_)
                · skip
                  refine lv_iconst (v := 2) hx hb dX12_settleThree_255 (by decide) ?_
                  have hFc := free_all hD hS hA
                  refine va_callv (va_runV (As := [.int 2]) (rest := []) ⟨hx, hb, hml, hown, ht⟩ (c_X12_only l dC dI s.heap.size h g ca iv lv fa la hI 2 ⟨by decide, by decide⟩) (kV 1 ht m_1536 m_1538 m_59 m_89 m_1539 rfl rfl hd_X12_only_v ⟨Nat.le_of_ble_eq_true rfl, Nat.le_of_ble_eq_true rfl⟩) (vW hP hK hD (rM_12 hK hP)) rfl rfl hl.1 rfl (lv_room (Nat.le_of_ble_eq_true rfl)) dX12_settleThree_256 ⟨Nat.le_of_ble_eq_true rfl, Nat.le_of_ble_eq_true rfl⟩) hS (fun q _ h => hFc q h) hFc (fun u t H1 locs ht9 hvm hr67 hB hz1 hk1 hS => ?_)
                  obtain ⟨n68, n69, rfl⟩ := hr67
                  obtain ⟨hP, hD⟩ := hB
                  rw [ht9] at hP
                  generalize H1 = H at hP hS ⊢
                  have hP : va_P (dC, dI) classes (WM h g ca iv (u2 (u2 lv 12 44 n68) 12 45 n69) fa la) H := hP
                  have hD : va_D A (WM h g ca iv (u2 (u2 lv 12 44 n68) 12 45 n69) fa la) := (show va_D _ (WM h g ca iv (u2 (u2 lv 12 44 n68) 12 45 n69) fa la) from hD).weaken (fun _ _ _ h => hFc _ h)
                  have hP9 : va_P (dC, dI) classes (WM h g ca iv (u2 (u2 lv 12 44 n68) 12 45 n69) fa la) H := hP
                  have hD9 : va_D A (WM h g ca iv (u2 (u2 lv 12 44 n68) 12 45 n69) fa la) := hD
                  exact W.vret hx hb hr (fun t ht9 hW => ⟨⟨(iv, (u2 (u2 lv 12 44 n68) 12 45 n69), fa, la), rfl, ⟨n68, n69, rfl⟩, by rw [ht9]; exact hP9, hD9⟩, hS.F ht9⟩) hS.2.2 dX12_settleThree_259
                · exact absurd c66 (by decide)
              · have fc65 := zc_ngt ev64 (rfl : (w5).toInt = _) (rfl : (w15).toInt = _) c65
                refine lv_iconst (v := 1) hx hb dX12_settleThree_243 (by decide) ?_
                refine lv_goto (tgt := 248) hx hb dX12_settleThree_244 (by decide) ?_
                refine lv_icmp_ne (tgt := 255) hx hb dX12_settleThree_248 (by decide) (fun c70 => ?_) (fun c70 => ?_)
                · exact absurd rfl c70
                · skip
                  refine lv_iconst (v := 0) hx hb dX12_settleThree_251 (by decide) ?_
                  refine lv_goto (tgt := 256) hx hb dX12_settleThree_252 (by decide) ?_
                  have hFc := free_all hD hS hA
                  refine va_callv (va_runV (As := [.int 0]) (rest := []) ⟨hx, hb, hml, hown, ht⟩ (c_X12_only l dC dI s.heap.size h g ca iv lv fa la hI 0 ⟨by decide, by decide⟩) (kV 1 ht m_1536 m_1538 m_59 m_89 m_1539 rfl rfl hd_X12_only_v ⟨Nat.le_of_ble_eq_true rfl, Nat.le_of_ble_eq_true rfl⟩) (vW hP hK hD (rM_12 hK hP)) rfl rfl hl.1 rfl (lv_room (Nat.le_of_ble_eq_true rfl)) dX12_settleThree_256 ⟨Nat.le_of_ble_eq_true rfl, Nat.le_of_ble_eq_true rfl⟩) hS (fun q _ h => hFc q h) hFc (fun u t H1 locs ht9 hvm hr71 hB hz1 hk1 hS => ?_)
                  obtain ⟨n72, n73, rfl⟩ := hr71
                  obtain ⟨hP, hD⟩ := hB
                  rw [ht9] at hP
                  generalize H1 = H at hP hS ⊢
                  have hP : va_P (dC, dI) classes (WM h g ca iv (u2 (u2 lv 12 44 n72) 12 45 n73) fa la) H := hP
                  have hD : va_D A (WM h g ca iv (u2 (u2 lv 12 44 n72) 12 45 n73) fa la) := (show va_D _ (WM h g ca iv (u2 (u2 lv 12 44 n72) 12 45 n73) fa la) from hD).weaken (fun _ _ _ h => hFc _ h)
                  have hP9 : va_P (dC, dI) classes (WM h g ca iv (u2 (u2 lv 12 44 n72) 12 45 n73) fa la) H := hP
                  have hD9 : va_D A (WM h g ca iv (u2 (u2 lv 12 44 n72) 12 45 n73) fa la) := hD
                  exact W.vret hx hb hr (fun t ht9 hW => ⟨⟨(iv, (u2 (u2 lv 12 44 n72) 12 45 n73), fa, la), rfl, ⟨n72, n73, rfl⟩, by rw [ht9]; exact hP9, hD9⟩, hS.F ht9⟩) hS.2.2 dX12_settleThree_259
          · exact absurd c51 (by decide)
        · have fc50 := zc_ngt ev49 (rfl : (w10).toInt = _) (rfl : (w15).toInt = _) c50
          refine lv_iconst (v := 1) hx hb dX12_settleThree_212 (by decide) ?_
          refine lv_goto (tgt := 217) hx hb dX12_settleThree_213 (by decide) ?_
          refine lv_icmp_ne (tgt := 224) hx hb dX12_settleThree_217 (by decide) (fun c74 => ?_) (fun c74 => ?_)
          · exact absurd rfl c74
          · skip
            refine lv_iconst (v := 1) hx hb dX12_settleThree_220 (by decide) ?_
            refine lv_goto (tgt := 256) hx hb dX12_settleThree_221 (by decide) ?_
            have hFc := free_all hD hS hA
            refine va_callv (va_runV (As := [.int 1]) (rest := []) ⟨hx, hb, hml, hown, ht⟩ (c_X12_only l dC dI s.heap.size h g ca iv lv fa la hI 1 ⟨by decide, by decide⟩) (kV 1 ht m_1536 m_1538 m_59 m_89 m_1539 rfl rfl hd_X12_only_v ⟨Nat.le_of_ble_eq_true rfl, Nat.le_of_ble_eq_true rfl⟩) (vW hP hK hD (rM_12 hK hP)) rfl rfl hl.1 rfl (lv_room (Nat.le_of_ble_eq_true rfl)) dX12_settleThree_256 ⟨Nat.le_of_ble_eq_true rfl, Nat.le_of_ble_eq_true rfl⟩) hS (fun q _ h => hFc q h) hFc (fun u t H1 locs ht9 hvm hr75 hB hz1 hk1 hS => ?_)
            obtain ⟨n76, n77, rfl⟩ := hr75
            obtain ⟨hP, hD⟩ := hB
            rw [ht9] at hP
            generalize H1 = H at hP hS ⊢
            have hP : va_P (dC, dI) classes (WM h g ca iv (u2 (u2 lv 12 44 n76) 12 45 n77) fa la) H := hP
            have hD : va_D A (WM h g ca iv (u2 (u2 lv 12 44 n76) 12 45 n77) fa la) := (show va_D _ (WM h g ca iv (u2 (u2 lv 12 44 n76) 12 45 n77) fa la) from hD).weaken (fun _ _ _ h => hFc _ h)
            have hP9 : va_P (dC, dI) classes (WM h g ca iv (u2 (u2 lv 12 44 n76) 12 45 n77) fa la) H := hP
            have hD9 : va_D A (WM h g ca iv (u2 (u2 lv 12 44 n76) 12 45 n77) fa la) := hD
            exact W.vret hx hb hr (fun t ht9 hW => ⟨⟨(iv, (u2 (u2 lv 12 44 n76) 12 45 n77), fa, la), rfl, ⟨n76, n77, rfl⟩, by rw [ht9]; exact hP9, hD9⟩, hS.F ht9⟩) hS.2.2 dX12_settleThree_259
    · have fc17 := z_eq (rfl : (a).toInt = _) (by decide : (1 : Int32).toInt = 1) c17
      refine lv_aload_n hx hb dX12_settleThree_153 rfl (lv_at hl 3 rfl) ?_
      refine lv_lload_n hx hb dX12_settleThree_154 rfl (lv_at hl 2 rfl) ?_
      refine lv_lload hx hb dX12_settleThree_155 (lv_at hl 1 rfl) ?_
      refine W.lcmp hx hb dX12_settleThree_157 ?_
      refine lv_topi (fun v78 ev78 => ?_)
      refine lv_if_gt (tgt := 172) hx hb dX12_settleThree_158 (by decide) (fun c79 => ?_) (fun c79 => ?_)
      · have fc79 := zc_gt ev78 (rfl : (w5).toInt = _) (rfl : (w10).toInt = _) c79
        refine lv_lload hx hb dX12_settleThree_172 (lv_at hl 1 rfl) ?_
        refine lv_lload hx hb dX12_settleThree_174 (lv_at hl 0 rfl) ?_
        refine W.lcmp hx hb dX12_settleThree_176 ?_
        refine lv_topi (fun v80 ev80 => ?_)
        refine lv_if_gt (tgt := 184) hx hb dX12_settleThree_177 (by decide) (fun c81 => ?_) (fun c81 => ?_)
        · have fc81 := zc_gt ev80 (rfl : (w10).toInt = _) (rfl : (w15).toInt = _) c81
          refine lv_iconst (v := 2) hx hb dX12_settleThree_184 (by decide) ?_
          have hFc := free_all hD hS hA
          refine va_callv (va_runV (As := [.int 2]) (rest := []) ⟨hx, hb, hml, hown, ht⟩ (c_X12_only l dC dI s.heap.size h g ca iv lv fa la hI 2 ⟨by decide, by decide⟩) (kV 1 ht m_1536 m_1538 m_59 m_89 m_1539 rfl rfl hd_X12_only_v ⟨Nat.le_of_ble_eq_true rfl, Nat.le_of_ble_eq_true rfl⟩) (vW hP hK hD (rM_12 hK hP)) rfl rfl hl.1 rfl (lv_room (Nat.le_of_ble_eq_true rfl)) dX12_settleThree_185 ⟨Nat.le_of_ble_eq_true rfl, Nat.le_of_ble_eq_true rfl⟩) hS (fun q _ h => hFc q h) hFc (fun u t H1 locs ht9 hvm hr82 hB hz1 hk1 hS => ?_)
          obtain ⟨n83, n84, rfl⟩ := hr82
          obtain ⟨hP, hD⟩ := hB
          rw [ht9] at hP
          generalize H1 = H at hP hS ⊢
          have hP : va_P (dC, dI) classes (WM h g ca iv (u2 (u2 lv 12 44 n83) 12 45 n84) fa la) H := hP
          have hD : va_D A (WM h g ca iv (u2 (u2 lv 12 44 n83) 12 45 n84) fa la) := (show va_D _ (WM h g ca iv (u2 (u2 lv 12 44 n83) 12 45 n84) fa la) from hD).weaken (fun _ _ _ h => hFc _ h)
          refine lv_goto (tgt := 259) hx hb dX12_settleThree_188 (by decide) ?_
          have hP9 : va_P (dC, dI) classes (WM h g ca iv (u2 (u2 lv 12 44 n83) 12 45 n84) fa la) H := hP
          have hD9 : va_D A (WM h g ca iv (u2 (u2 lv 12 44 n83) 12 45 n84) fa la) := hD
          exact W.vret hx hb hr (fun t ht9 hW => ⟨⟨(iv, (u2 (u2 lv 12 44 n83) 12 45 n84), fa, la), rfl, ⟨n83, n84, rfl⟩, by rw [ht9]; exact hP9, hD9⟩, hS.F ht9⟩) hS.2.2 dX12_settleThree_259
        · have fc81 := zc_ngt ev80 (rfl : (w10).toInt = _) (rfl : (w15).toInt = _) c81
          refine lv_iconst (v := 1) hx hb dX12_settleThree_180 (by decide) ?_
          refine lv_goto (tgt := 185) hx hb dX12_settleThree_181 (by decide) ?_
          have hFc := free_all hD hS hA
          refine va_callv (va_runV (As := [.int 1]) (rest := []) ⟨hx, hb, hml, hown, ht⟩ (c_X12_only l dC dI s.heap.size h g ca iv lv fa la hI 1 ⟨by decide, by decide⟩) (kV 1 ht m_1536 m_1538 m_59 m_89 m_1539 rfl rfl hd_X12_only_v ⟨Nat.le_of_ble_eq_true rfl, Nat.le_of_ble_eq_true rfl⟩) (vW hP hK hD (rM_12 hK hP)) rfl rfl hl.1 rfl (lv_room (Nat.le_of_ble_eq_true rfl)) dX12_settleThree_185 ⟨Nat.le_of_ble_eq_true rfl, Nat.le_of_ble_eq_true rfl⟩) hS (fun q _ h => hFc q h) hFc (fun u t H1 locs ht9 hvm hr85 hB hz1 hk1 hS => ?_)
          obtain ⟨n86, n87, rfl⟩ := hr85
          obtain ⟨hP, hD⟩ := hB
          rw [ht9] at hP
          generalize H1 = H at hP hS ⊢
          have hP : va_P (dC, dI) classes (WM h g ca iv (u2 (u2 lv 12 44 n86) 12 45 n87) fa la) H := hP
          have hD : va_D A (WM h g ca iv (u2 (u2 lv 12 44 n86) 12 45 n87) fa la) := (show va_D _ (WM h g ca iv (u2 (u2 lv 12 44 n86) 12 45 n87) fa la) from hD).weaken (fun _ _ _ h => hFc _ h)
          refine lv_goto (tgt := 259) hx hb dX12_settleThree_188 (by decide) ?_
          have hP9 : va_P (dC, dI) classes (WM h g ca iv (u2 (u2 lv 12 44 n86) 12 45 n87) fa la) H := hP
          have hD9 : va_D A (WM h g ca iv (u2 (u2 lv 12 44 n86) 12 45 n87) fa la) := hD
          exact W.vret hx hb hr (fun t ht9 hW => ⟨⟨(iv, (u2 (u2 lv 12 44 n86) 12 45 n87), fa, la), rfl, ⟨n86, n87, rfl⟩, by rw [ht9]; exact hP9, hD9⟩, hS.F ht9⟩) hS.2.2 dX12_settleThree_259
      · have fc79 := zc_ngt ev78 (rfl : (w5).toInt = _) (rfl : (w10).toInt = _) c79
        refine lv_lload_n hx hb dX12_settleThree_161 rfl (lv_at hl 2 rfl) ?_
        refine lv_lload hx hb dX12_settleThree_162 (lv_at hl 0 rfl) ?_
        refine W.lcmp hx hb dX12_settleThree_164 ?_
        refine lv_topi (fun v88 ev88 => ?_)
        refine lv_if_gt (tgt := 172) hx hb dX12_settleThree_165 (by decide) (fun c89 => ?_) (fun c89 => ?_)
        · have fc89 := zc_gt ev88 (rfl : (w5).toInt = _) (rfl : (w15).toInt = _) c89
          refine lv_lload hx hb dX12_settleThree_172 (lv_at hl 1 rfl) ?_
          refine lv_lload hx hb dX12_settleThree_174 (lv_at hl 0 rfl) ?_
          refine W.lcmp hx hb dX12_settleThree_176 ?_
          refine lv_topi (fun v90 ev90 => ?_)
          refine lv_if_gt (tgt := 184) hx hb dX12_settleThree_177 (by decide) (fun c91 => ?_) (fun c91 => ?_)
          · have fc91 := zc_gt ev90 (rfl : (w10).toInt = _) (rfl : (w15).toInt = _) c91
            refine lv_iconst (v := 2) hx hb dX12_settleThree_184 (by decide) ?_
            have hFc := free_all hD hS hA
            refine va_callv (va_runV (As := [.int 2]) (rest := []) ⟨hx, hb, hml, hown, ht⟩ (c_X12_only l dC dI s.heap.size h g ca iv lv fa la hI 2 ⟨by decide, by decide⟩) (kV 1 ht m_1536 m_1538 m_59 m_89 m_1539 rfl rfl hd_X12_only_v ⟨Nat.le_of_ble_eq_true rfl, Nat.le_of_ble_eq_true rfl⟩) (vW hP hK hD (rM_12 hK hP)) rfl rfl hl.1 rfl (lv_room (Nat.le_of_ble_eq_true rfl)) dX12_settleThree_185 ⟨Nat.le_of_ble_eq_true rfl, Nat.le_of_ble_eq_true rfl⟩) hS (fun q _ h => hFc q h) hFc (fun u t H1 locs ht9 hvm hr92 hB hz1 hk1 hS => ?_)
            obtain ⟨n93, n94, rfl⟩ := hr92
            obtain ⟨hP, hD⟩ := hB
            rw [ht9] at hP
            generalize H1 = H at hP hS ⊢
            have hP : va_P (dC, dI) classes (WM h g ca iv (u2 (u2 lv 12 44 n93) 12 45 n94) fa la) H := hP
            have hD : va_D A (WM h g ca iv (u2 (u2 lv 12 44 n93) 12 45 n94) fa la) := (show va_D _ (WM h g ca iv (u2 (u2 lv 12 44 n93) 12 45 n94) fa la) from hD).weaken (fun _ _ _ h => hFc _ h)
            refine lv_goto (tgt := 259) hx hb dX12_settleThree_188 (by decide) ?_
            have hP9 : va_P (dC, dI) classes (WM h g ca iv (u2 (u2 lv 12 44 n93) 12 45 n94) fa la) H := hP
            have hD9 : va_D A (WM h g ca iv (u2 (u2 lv 12 44 n93) 12 45 n94) fa la) := hD
            exact W.vret hx hb hr (fun t ht9 hW => ⟨⟨(iv, (u2 (u2 lv 12 44 n93) 12 45 n94), fa, la), rfl, ⟨n93, n94, rfl⟩, by rw [ht9]; exact hP9, hD9⟩, hS.F ht9⟩) hS.2.2 dX12_settleThree_259
          · have fc91 := zc_ngt ev90 (rfl : (w10).toInt = _) (rfl : (w15).toInt = _) c91
            refine lv_iconst (v := 1) hx hb dX12_settleThree_180 (by decide) ?_
            refine lv_goto (tgt := 185) hx hb dX12_settleThree_181 (by decide) ?_
            have hFc := free_all hD hS hA
            refine va_callv (va_runV (As := [.int 1]) (rest := []) ⟨hx, hb, hml, hown, ht⟩ (c_X12_only l dC dI s.heap.size h g ca iv lv fa la hI 1 ⟨by decide, by decide⟩) (kV 1 ht m_1536 m_1538 m_59 m_89 m_1539 rfl rfl hd_X12_only_v ⟨Nat.le_of_ble_eq_true rfl, Nat.le_of_ble_eq_true rfl⟩) (vW hP hK hD (rM_12 hK hP)) rfl rfl hl.1 rfl (lv_room (Nat.le_of_ble_eq_true rfl)) dX12_settleThree_185 ⟨Nat.le_of_ble_eq_true rfl, Nat.le_of_ble_eq_true rfl⟩) hS (fun q _ h => hFc q h) hFc (fun u t H1 locs ht9 hvm hr95 hB hz1 hk1 hS => ?_)
            obtain ⟨n96, n97, rfl⟩ := hr95
            obtain ⟨hP, hD⟩ := hB
            rw [ht9] at hP
            generalize H1 = H at hP hS ⊢
            have hP : va_P (dC, dI) classes (WM h g ca iv (u2 (u2 lv 12 44 n96) 12 45 n97) fa la) H := hP
            have hD : va_D A (WM h g ca iv (u2 (u2 lv 12 44 n96) 12 45 n97) fa la) := (show va_D _ (WM h g ca iv (u2 (u2 lv 12 44 n96) 12 45 n97) fa la) from hD).weaken (fun _ _ _ h => hFc _ h)
            refine lv_goto (tgt := 259) hx hb dX12_settleThree_188 (by decide) ?_
            have hP9 : va_P (dC, dI) classes (WM h g ca iv (u2 (u2 lv 12 44 n96) 12 45 n97) fa la) H := hP
            have hD9 : va_D A (WM h g ca iv (u2 (u2 lv 12 44 n96) 12 45 n97) fa la) := hD
            exact W.vret hx hb hr (fun t ht9 hW => ⟨⟨(iv, (u2 (u2 lv 12 44 n96) 12 45 n97), fa, la), rfl, ⟨n96, n97, rfl⟩, by rw [ht9]; exact hP9, hD9⟩, hS.F ht9⟩) hS.2.2 dX12_settleThree_259
        · have fc89 := zc_ngt ev88 (rfl : (w5).toInt = _) (rfl : (w15).toInt = _) c89
          refine lv_iconst (v := 0) hx hb dX12_settleThree_168 (by decide) ?_
          refine lv_goto (tgt := 185) hx hb dX12_settleThree_169 (by decide) ?_
          have hFc := free_all hD hS hA
          refine va_callv (va_runV (As := [.int 0]) (rest := []) ⟨hx, hb, hml, hown, ht⟩ (c_X12_only l dC dI s.heap.size h g ca iv lv fa la hI 0 ⟨by decide, by decide⟩) (kV 1 ht m_1536 m_1538 m_59 m_89 m_1539 rfl rfl hd_X12_only_v ⟨Nat.le_of_ble_eq_true rfl, Nat.le_of_ble_eq_true rfl⟩) (vW hP hK hD (rM_12 hK hP)) rfl rfl hl.1 rfl (lv_room (Nat.le_of_ble_eq_true rfl)) dX12_settleThree_185 ⟨Nat.le_of_ble_eq_true rfl, Nat.le_of_ble_eq_true rfl⟩) hS (fun q _ h => hFc q h) hFc (fun u t H1 locs ht9 hvm hr98 hB hz1 hk1 hS => ?_)
          obtain ⟨n99, n100, rfl⟩ := hr98
          obtain ⟨hP, hD⟩ := hB
          rw [ht9] at hP
          generalize H1 = H at hP hS ⊢
          have hP : va_P (dC, dI) classes (WM h g ca iv (u2 (u2 lv 12 44 n99) 12 45 n100) fa la) H := hP
          have hD : va_D A (WM h g ca iv (u2 (u2 lv 12 44 n99) 12 45 n100) fa la) := (show va_D _ (WM h g ca iv (u2 (u2 lv 12 44 n99) 12 45 n100) fa la) from hD).weaken (fun _ _ _ h => hFc _ h)
          refine lv_goto (tgt := 259) hx hb dX12_settleThree_188 (by decide) ?_
          have hP9 : va_P (dC, dI) classes (WM h g ca iv (u2 (u2 lv 12 44 n99) 12 45 n100) fa la) H := hP
          have hD9 : va_D A (WM h g ca iv (u2 (u2 lv 12 44 n99) 12 45 n100) fa la) := hD
          exact W.vret hx hb hr (fun t ht9 hW => ⟨⟨(iv, (u2 (u2 lv 12 44 n99) 12 45 n100), fa, la), rfl, ⟨n99, n100, rfl⟩, by rw [ht9]; exact hP9, hD9⟩, hS.F ht9⟩) hS.2.2 dX12_settleThree_259
  · have fc16 := z_eq (rfl : (a).toInt = _) (by decide : (0 : Int32).toInt = 0) c16
    refine lv_lload_n hx hb dX12_settleThree_69 rfl (lv_at hl 2 rfl) ?_
    refine lv_lload hx hb dX12_settleThree_70 (lv_at hl 1 rfl) ?_
    refine lv_lsub hx hb dX12_settleThree_72 ?_
    refine lv_topl (fun w101 ew101 => ?_)
    refine vp_callSl (W.runS (As := [.long w101]) (rest := []) ⟨hx, hb, hml, hown, ht⟩ (c_X12_plain l dC dI w101) (kS 1 ht m_1445 m_1446 m_89 m_1447 rfl rfl hd_X12_plain_v ⟨Nat.le_of_ble_eq_true rfl, Nat.le_of_ble_eq_true rfl⟩) (sR noP (hK.sub (tys' := []) [] rfl)) rfl rfl hl.1 rfl (lv_room (Nat.le_of_ble_eq_true rfl)) dX12_settleThree_73 ⟨Nat.le_of_ble_eq_true rfl, Nat.le_of_ble_eq_true rfl⟩) (fun r102 hr102 => ?_)
    refine lv_lstore (lv' := [(8, .long r102), (6, .long w15), (4, .long w10), (2, .long w5), (0, .ref h), (1, .int a)]) hx hb dX12_settleThree_76 hl (by decide) rfl (fun ls hl => ?_)
    refine lv_lload_n hx hb dX12_settleThree_78 rfl (lv_at hl 3 rfl) ?_
    refine lv_lload hx hb dX12_settleThree_79 (lv_at hl 1 rfl) ?_
    refine lv_lsub hx hb dX12_settleThree_81 ?_
    refine lv_topl (fun w103 ew103 => ?_)
    refine vp_callSl (W.runS (As := [.long w103]) (rest := []) ⟨hx, hb, hml, hown, ht⟩ (c_X12_plain l dC dI w103) (kS 1 ht m_1445 m_1446 m_89 m_1447 rfl rfl hd_X12_plain_v ⟨Nat.le_of_ble_eq_true rfl, Nat.le_of_ble_eq_true rfl⟩) (sR noP (hK.sub (tys' := []) [] rfl)) rfl rfl hl.1 rfl (lv_room (Nat.le_of_ble_eq_true rfl)) dX12_settleThree_82 ⟨Nat.le_of_ble_eq_true rfl, Nat.le_of_ble_eq_true rfl⟩) (fun r104 hr104 => ?_)
    refine lv_lstore (lv' := [(10, .long r104), (8, .long r102), (6, .long w15), (4, .long w10), (2, .long w5), (0, .ref h), (1, .int a)]) hx hb dX12_settleThree_85 hl (by decide) rfl (fun ls hl => ?_)
    refine lv_lload hx hb dX12_settleThree_87 (lv_at hl 3 rfl) ?_
    refine lv_lload hx hb dX12_settleThree_89 (lv_at hl 2 rfl) ?_
    refine lv_lsub hx hb dX12_settleThree_91 ?_
    refine lv_topl (fun w105 ew105 => ?_)
    refine vp_callSl (W.runS (As := [.long w105]) (rest := []) ⟨hx, hb, hml, hown, ht⟩ (c_X12_plain l dC dI w105) (kS 1 ht m_1445 m_1446 m_89 m_1447 rfl rfl hd_X12_plain_v ⟨Nat.le_of_ble_eq_true rfl, Nat.le_of_ble_eq_true rfl⟩) (sR noP (hK.sub (tys' := []) [] rfl)) rfl rfl hl.1 rfl (lv_room (Nat.le_of_ble_eq_true rfl)) dX12_settleThree_92 ⟨Nat.le_of_ble_eq_true rfl, Nat.le_of_ble_eq_true rfl⟩) (fun r106 hr106 => ?_)
    refine lv_lstore (lv' := [(12, .long r106), (10, .long r104), (8, .long r102), (6, .long w15), (4, .long w10), (2, .long w5), (0, .ref h), (1, .int a)]) hx hb dX12_settleThree_95 hl (by decide) rfl (fun ls hl => ?_)
    refine lv_lload hx hb dX12_settleThree_97 (lv_at hl 2 rfl) ?_
    refine lv_lload hx hb dX12_settleThree_99 (lv_at hl 1 rfl) ?_
    refine W.lcmp hx hb dX12_settleThree_101 ?_
    refine lv_topi (fun v107 ev107 => ?_)
    refine lv_if_gt (tgt := 122) hx hb dX12_settleThree_102 (by decide) (fun c108 => ?_) (fun c108 => ?_)
    · have fc108 := zc_gt ev107 (rfl : (r102).toInt = _) (rfl : (r104).toInt = _) c108
      refine lv_lload hx hb dX12_settleThree_122 (lv_at hl 1 rfl) ?_
      refine lv_lload hx hb dX12_settleThree_124 (lv_at hl 0 rfl) ?_
      refine W.lcmp hx hb dX12_settleThree_126 ?_
      refine lv_topi (fun v109 ev109 => ?_)
      refine lv_if_gt (tgt := 139) hx hb dX12_settleThree_127 (by decide) (fun c110 => ?_) (fun c110 => ?_)
      · have fc110 := zc_gt ev109 (rfl : (r104).toInt = _) (rfl : (r106).toInt = _) c110
        refine lv_aload_n hx hb dX12_settleThree_139 rfl (lv_at hl 6 rfl) ?_
        refine lv_iconst (v := 1) hx hb dX12_settleThree_140 (by decide) ?_
        refine lv_iconst (v := 2) hx hb dX12_settleThree_141 (by decide) ?_
        have hFc := free_all hD hS hA
        refine va_callv (va_runV (As := [.int 1, .int 2]) (rest := []) ⟨hx, hb, hml, hown, ht⟩ (c_X12_half l dC dI s.heap.size h g ca iv lv fa la hI 1 2 ⟨by decide, by decide⟩ ⟨by decide, by decide⟩) (kV 2 ht m_1548 m_1550 m_61 m_89 m_1551 rfl rfl hd_X12_half_v ⟨Nat.le_of_ble_eq_true rfl, Nat.le_of_ble_eq_true rfl⟩) (vW hP hK hD (rM_12 hK hP)) rfl rfl hl.1 rfl (lv_room (Nat.le_of_ble_eq_true rfl)) dX12_settleThree_142 ⟨Nat.le_of_ble_eq_true rfl, Nat.le_of_ble_eq_true rfl⟩) hS (fun q _ h => hFc q h) hFc (fun u t H1 locs ht9 hvm hr111 hB hz1 hk1 hS => ?_)
        obtain ⟨n112, n113, rfl⟩ := hr111
        obtain ⟨hP, hD⟩ := hB
        rw [ht9] at hP
        generalize H1 = H at hP hS ⊢
        have hP : va_P (dC, dI) classes (WM h g ca iv (u2 (u2 lv 12 44 n112) 12 45 n113) fa la) H := hP
        have hD : va_D A (WM h g ca iv (u2 (u2 lv 12 44 n112) 12 45 n113) fa la) := (show va_D _ (WM h g ca iv (u2 (u2 lv 12 44 n112) 12 45 n113) fa la) from hD).weaken (fun _ _ _ h => hFc _ h)
        refine lv_goto (tgt := 259) hx hb dX12_settleThree_145 (by decide) ?_
        have hP9 : va_P (dC, dI) classes (WM h g ca iv (u2 (u2 lv 12 44 n112) 12 45 n113) fa la) H := hP
        have hD9 : va_D A (WM h g ca iv (u2 (u2 lv 12 44 n112) 12 45 n113) fa la) := hD
        exact W.vret hx hb hr (fun t ht9 hW => ⟨⟨(iv, (u2 (u2 lv 12 44 n112) 12 45 n113), fa, la), rfl, ⟨n112, n113, rfl⟩, by rw [ht9]; exact hP9, hD9⟩, hS.F ht9⟩) hS.2.2 dX12_settleThree_259
      · have fc110 := zc_ngt ev109 (rfl : (r104).toInt = _) (rfl : (r106).toInt = _) c110
        refine lv_aload_n hx hb dX12_settleThree_130 rfl (lv_at hl 6 rfl) ?_
        refine lv_iconst (v := 0) hx hb dX12_settleThree_131 (by decide) ?_
        refine lv_iconst (v := 2) hx hb dX12_settleThree_132 (by decide) ?_
        have hFc := free_all hD hS hA
        refine va_callv (va_runV (As := [.int 0, .int 2]) (rest := []) ⟨hx, hb, hml, hown, ht⟩ (c_X12_half l dC dI s.heap.size h g ca iv lv fa la hI 0 2 ⟨by decide, by decide⟩ ⟨by decide, by decide⟩) (kV 2 ht m_1548 m_1550 m_61 m_89 m_1551 rfl rfl hd_X12_half_v ⟨Nat.le_of_ble_eq_true rfl, Nat.le_of_ble_eq_true rfl⟩) (vW hP hK hD (rM_12 hK hP)) rfl rfl hl.1 rfl (lv_room (Nat.le_of_ble_eq_true rfl)) dX12_settleThree_133 ⟨Nat.le_of_ble_eq_true rfl, Nat.le_of_ble_eq_true rfl⟩) hS (fun q _ h => hFc q h) hFc (fun u t H1 locs ht9 hvm hr114 hB hz1 hk1 hS => ?_)
        obtain ⟨n115, n116, rfl⟩ := hr114
        obtain ⟨hP, hD⟩ := hB
        rw [ht9] at hP
        generalize H1 = H at hP hS ⊢
        have hP : va_P (dC, dI) classes (WM h g ca iv (u2 (u2 lv 12 44 n115) 12 45 n116) fa la) H := hP
        have hD : va_D A (WM h g ca iv (u2 (u2 lv 12 44 n115) 12 45 n116) fa la) := (show va_D _ (WM h g ca iv (u2 (u2 lv 12 44 n115) 12 45 n116) fa la) from hD).weaken (fun _ _ _ h => hFc _ h)
        refine lv_goto (tgt := 145) hx hb dX12_settleThree_136 (by decide) ?_
        refine lv_goto (tgt := 259) hx hb dX12_settleThree_145 (by decide) ?_
        have hP9 : va_P (dC, dI) classes (WM h g ca iv (u2 (u2 lv 12 44 n115) 12 45 n116) fa la) H := hP
        have hD9 : va_D A (WM h g ca iv (u2 (u2 lv 12 44 n115) 12 45 n116) fa la) := hD
        exact W.vret hx hb hr (fun t ht9 hW => ⟨⟨(iv, (u2 (u2 lv 12 44 n115) 12 45 n116), fa, la), rfl, ⟨n115, n116, rfl⟩, by rw [ht9]; exact hP9, hD9⟩, hS.F ht9⟩) hS.2.2 dX12_settleThree_259
    · have fc108 := zc_ngt ev107 (rfl : (r102).toInt = _) (rfl : (r104).toInt = _) c108
      refine lv_lload hx hb dX12_settleThree_105 (lv_at hl 2 rfl) ?_
      refine lv_lload hx hb dX12_settleThree_107 (lv_at hl 0 rfl) ?_
      refine W.lcmp hx hb dX12_settleThree_109 ?_
      refine lv_topi (fun v117 ev117 => ?_)
      refine lv_if_gt (tgt := 122) hx hb dX12_settleThree_110 (by decide) (fun c118 => ?_) (fun c118 => ?_)
      · have fc118 := zc_gt ev117 (rfl : (r102).toInt = _) (rfl : (r106).toInt = _) c118
        refine lv_lload hx hb dX12_settleThree_122 (lv_at hl 1 rfl) ?_
        refine lv_lload hx hb dX12_settleThree_124 (lv_at hl 0 rfl) ?_
        refine W.lcmp hx hb dX12_settleThree_126 ?_
        refine lv_topi (fun v119 ev119 => ?_)
        refine lv_if_gt (tgt := 139) hx hb dX12_settleThree_127 (by decide) (fun c120 => ?_) (fun c120 => ?_)
        · have fc120 := zc_gt ev119 (rfl : (r104).toInt = _) (rfl : (r106).toInt = _) c120
          refine lv_aload_n hx hb dX12_settleThree_139 rfl (lv_at hl 6 rfl) ?_
          refine lv_iconst (v := 1) hx hb dX12_settleThree_140 (by decide) ?_
          refine lv_iconst (v := 2) hx hb dX12_settleThree_141 (by decide) ?_
          have hFc := free_all hD hS hA
          refine va_callv (va_runV (As := [.int 1, .int 2]) (rest := []) ⟨hx, hb, hml, hown, ht⟩ (c_X12_half l dC dI s.heap.size h g ca iv lv fa la hI 1 2 ⟨by decide, by decide⟩ ⟨by decide, by decide⟩) (kV 2 ht m_1548 m_1550 m_61 m_89 m_1551 rfl rfl hd_X12_half_v ⟨Nat.le_of_ble_eq_true rfl, Nat.le_of_ble_eq_true rfl⟩) (vW hP hK hD (rM_12 hK hP)) rfl rfl hl.1 rfl (lv_room (Nat.le_of_ble_eq_true rfl)) dX12_settleThree_142 ⟨Nat.le_of_ble_eq_true rfl, Nat.le_of_ble_eq_true rfl⟩) hS (fun q _ h => hFc q h) hFc (fun u t H1 locs ht9 hvm hr121 hB hz1 hk1 hS => ?_)
          obtain ⟨n122, n123, rfl⟩ := hr121
          obtain ⟨hP, hD⟩ := hB
          rw [ht9] at hP
          generalize H1 = H at hP hS ⊢
          have hP : va_P (dC, dI) classes (WM h g ca iv (u2 (u2 lv 12 44 n122) 12 45 n123) fa la) H := hP
          have hD : va_D A (WM h g ca iv (u2 (u2 lv 12 44 n122) 12 45 n123) fa la) := (show va_D _ (WM h g ca iv (u2 (u2 lv 12 44 n122) 12 45 n123) fa la) from hD).weaken (fun _ _ _ h => hFc _ h)
          refine lv_goto (tgt := 259) hx hb dX12_settleThree_145 (by decide) ?_
          have hP9 : va_P (dC, dI) classes (WM h g ca iv (u2 (u2 lv 12 44 n122) 12 45 n123) fa la) H := hP
          have hD9 : va_D A (WM h g ca iv (u2 (u2 lv 12 44 n122) 12 45 n123) fa la) := hD
          exact W.vret hx hb hr (fun t ht9 hW => ⟨⟨(iv, (u2 (u2 lv 12 44 n122) 12 45 n123), fa, la), rfl, ⟨n122, n123, rfl⟩, by rw [ht9]; exact hP9, hD9⟩, hS.F ht9⟩) hS.2.2 dX12_settleThree_259
        · have fc120 := zc_ngt ev119 (rfl : (r104).toInt = _) (rfl : (r106).toInt = _) c120
          refine lv_aload_n hx hb dX12_settleThree_130 rfl (lv_at hl 6 rfl) ?_
          refine lv_iconst (v := 0) hx hb dX12_settleThree_131 (by decide) ?_
          refine lv_iconst (v := 2) hx hb dX12_settleThree_132 (by decide) ?_
          have hFc := free_all hD hS hA
          refine va_callv (va_runV (As := [.int 0, .int 2]) (rest := []) ⟨hx, hb, hml, hown, ht⟩ (c_X12_half l dC dI s.heap.size h g ca iv lv fa la hI 0 2 ⟨by decide, by decide⟩ ⟨by decide, by decide⟩) (kV 2 ht m_1548 m_1550 m_61 m_89 m_1551 rfl rfl hd_X12_half_v ⟨Nat.le_of_ble_eq_true rfl, Nat.le_of_ble_eq_true rfl⟩) (vW hP hK hD (rM_12 hK hP)) rfl rfl hl.1 rfl (lv_room (Nat.le_of_ble_eq_true rfl)) dX12_settleThree_133 ⟨Nat.le_of_ble_eq_true rfl, Nat.le_of_ble_eq_true rfl⟩) hS (fun q _ h => hFc q h) hFc (fun u t H1 locs ht9 hvm hr124 hB hz1 hk1 hS => ?_)
          obtain ⟨n125, n126, rfl⟩ := hr124
          obtain ⟨hP, hD⟩ := hB
          rw [ht9] at hP
          generalize H1 = H at hP hS ⊢
          have hP : va_P (dC, dI) classes (WM h g ca iv (u2 (u2 lv 12 44 n125) 12 45 n126) fa la) H := hP
          have hD : va_D A (WM h g ca iv (u2 (u2 lv 12 44 n125) 12 45 n126) fa la) := (show va_D _ (WM h g ca iv (u2 (u2 lv 12 44 n125) 12 45 n126) fa la) from hD).weaken (fun _ _ _ h => hFc _ h)
          refine lv_goto (tgt := 145) hx hb dX12_settleThree_136 (by decide) ?_
          refine lv_goto (tgt := 259) hx hb dX12_settleThree_145 (by decide) ?_
          have hP9 : va_P (dC, dI) classes (WM h g ca iv (u2 (u2 lv 12 44 n125) 12 45 n126) fa la) H := hP
          have hD9 : va_D A (WM h g ca iv (u2 (u2 lv 12 44 n125) 12 45 n126) fa la) := hD
          exact W.vret hx hb hr (fun t ht9 hW => ⟨⟨(iv, (u2 (u2 lv 12 44 n125) 12 45 n126), fa, la), rfl, ⟨n125, n126, rfl⟩, by rw [ht9]; exact hP9, hD9⟩, hS.F ht9⟩) hS.2.2 dX12_settleThree_259
      · have fc118 := zc_ngt ev117 (rfl : (r102).toInt = _) (rfl : (r106).toInt = _) c118
        refine lv_aload_n hx hb dX12_settleThree_113 rfl (lv_at hl 6 rfl) ?_
        refine lv_iconst (v := 0) hx hb dX12_settleThree_114 (by decide) ?_
        refine lv_iconst (v := 1) hx hb dX12_settleThree_115 (by decide) ?_
        have hFc := free_all hD hS hA
        refine va_callv (va_runV (As := [.int 0, .int 1]) (rest := []) ⟨hx, hb, hml, hown, ht⟩ (c_X12_half l dC dI s.heap.size h g ca iv lv fa la hI 0 1 ⟨by decide, by decide⟩ ⟨by decide, by decide⟩) (kV 2 ht m_1548 m_1550 m_61 m_89 m_1551 rfl rfl hd_X12_half_v ⟨Nat.le_of_ble_eq_true rfl, Nat.le_of_ble_eq_true rfl⟩) (vW hP hK hD (rM_12 hK hP)) rfl rfl hl.1 rfl (lv_room (Nat.le_of_ble_eq_true rfl)) dX12_settleThree_116 ⟨Nat.le_of_ble_eq_true rfl, Nat.le_of_ble_eq_true rfl⟩) hS (fun q _ h => hFc q h) hFc (fun u t H1 locs ht9 hvm hr127 hB hz1 hk1 hS => ?_)
        obtain ⟨n128, n129, rfl⟩ := hr127
        obtain ⟨hP, hD⟩ := hB
        rw [ht9] at hP
        generalize H1 = H at hP hS ⊢
        have hP : va_P (dC, dI) classes (WM h g ca iv (u2 (u2 lv 12 44 n128) 12 45 n129) fa la) H := hP
        have hD : va_D A (WM h g ca iv (u2 (u2 lv 12 44 n128) 12 45 n129) fa la) := (show va_D _ (WM h g ca iv (u2 (u2 lv 12 44 n128) 12 45 n129) fa la) from hD).weaken (fun _ _ _ h => hFc _ h)
        refine lv_goto (tgt := 145) hx hb dX12_settleThree_119 (by decide) ?_
        refine lv_goto (tgt := 259) hx hb dX12_settleThree_145 (by decide) ?_
        have hP9 : va_P (dC, dI) classes (WM h g ca iv (u2 (u2 lv 12 44 n128) 12 45 n129) fa la) H := hP
        have hD9 : va_D A (WM h g ca iv (u2 (u2 lv 12 44 n128) 12 45 n129) fa la) := hD
        exact W.vret hx hb hr (fun t ht9 hW => ⟨⟨(iv, (u2 (u2 lv 12 44 n128) 12 45 n129), fa, la), rfl, ⟨n128, n129, rfl⟩, by rw [ht9]; exact hP9, hD9⟩, hS.F ht9⟩) hS.2.2 dX12_settleThree_259
/-! ===== m5 ===== -/
theorem m_1191 : Cond.fieldLink RX12 112 "SilkHouseModel" "thread" "[I" ∈ tb := mb_5_6 _ (List.mem_of_getElem? (i := 8) rfl)
theorem m_1193 : Cond.fieldLink RX12 118 "SilkHouseModel" "turn" "[I" ∈ tb := mb_5_6 _ (List.mem_of_getElem? (i := 10) rfl)
theorem m_1194 : Cond.fieldLink RX12 121 "SilkHouseModel" "gumLow" "[I" ∈ tb := mb_5_6 _ (List.mem_of_getElem? (i := 11) rfl)
theorem m_1195 : Cond.fieldLink RX12 124 "SilkHouseModel" "ashLow" "[I" ∈ tb := mb_5_6 _ (List.mem_of_getElem? (i := 12) rfl)
theorem m_1196 : Cond.fieldLink RX12 399 "SilkHouseModel" "loads" "I" ∈ tb := mb_5_6 _ (List.mem_of_getElem? (i := 13) rfl)
theorem m_1197 : Cond.fieldLink RX12 127 "SilkHouseModel" "minutes" "[I" ∈ tb := mb_5_6 _ (List.mem_of_getElem? (i := 14) rfl)
set_option maxRecDepth 100000 in
theorem dvX12_burnt_0 : ([(0, .aload_n 0, 1), (1, .iload_n 1, 1), (2, .invokevirtual 183, 3), (5, .ifCond .eq 6, 3), (8, .ldc 187, 2), (10, .ireturn, 1), (11, .iload_n 2, 1), (12, .i2l, 1), (13, .lconst 0, 1), (14, .lconst 1, 1), (15, .invokestatic 167, 3), (18, .ifCond .eq 23, 3), (21, .iload_n 3, 1), (22, .i2l, 1), (23, .lconst 0, 1), (24, .iload 4, 2), (26, .i2l, 1), (27, .invokestatic 167, 3), (30, .ifCond .eq 11, 3), (33, .iload 4, 2), (35, .sipush 999, 3), (38, .if_icmp .le 6, 3), (41, .ldc 178, 2), (43, .ireturn, 1)] : List (Nat × Instr × Nat)).all (fun q => decide (decode cX12_burnt q.1 = .ok (q.2.1, q.2.2))) = true := by decide +kernel
theorem dX12_burnt_0 : decode cX12_burnt 0 = .ok (.aload_n 0, 1) := all_at dvX12_burnt_0 0 rfl
theorem dX12_burnt_1 : decode cX12_burnt 1 = .ok (.iload_n 1, 1) := all_at dvX12_burnt_0 1 rfl
theorem dX12_burnt_2 : decode cX12_burnt 2 = .ok (.invokevirtual 183, 3) := all_at dvX12_burnt_0 2 rfl
theorem dX12_burnt_5 : decode cX12_burnt 5 = .ok (.ifCond .eq 6, 3) := all_at dvX12_burnt_0 3 rfl
theorem dX12_burnt_8 : decode cX12_burnt 8 = .ok (.ldc 187, 2) := all_at dvX12_burnt_0 4 rfl
theorem dX12_burnt_10 : decode cX12_burnt 10 = .ok (.ireturn, 1) := all_at dvX12_burnt_0 5 rfl
theorem dX12_burnt_11 : decode cX12_burnt 11 = .ok (.iload_n 2, 1) := all_at dvX12_burnt_0 6 rfl
theorem dX12_burnt_12 : decode cX12_burnt 12 = .ok (.i2l, 1) := all_at dvX12_burnt_0 7 rfl
theorem dX12_burnt_13 : decode cX12_burnt 13 = .ok (.lconst 0, 1) := all_at dvX12_burnt_0 8 rfl
theorem dX12_burnt_14 : decode cX12_burnt 14 = .ok (.lconst 1, 1) := all_at dvX12_burnt_0 9 rfl
theorem dX12_burnt_15 : decode cX12_burnt 15 = .ok (.invokestatic 167, 3) := all_at dvX12_burnt_0 10 rfl
theorem dX12_burnt_18 : decode cX12_burnt 18 = .ok (.ifCond .eq 23, 3) := all_at dvX12_burnt_0 11 rfl
theorem dX12_burnt_21 : decode cX12_burnt 21 = .ok (.iload_n 3, 1) := all_at dvX12_burnt_0 12 rfl
theorem dX12_burnt_22 : decode cX12_burnt 22 = .ok (.i2l, 1) := all_at dvX12_burnt_0 13 rfl
theorem dX12_burnt_23 : decode cX12_burnt 23 = .ok (.lconst 0, 1) := all_at dvX12_burnt_0 14 rfl
theorem dX12_burnt_24 : decode cX12_burnt 24 = .ok (.iload 4, 2) := all_at dvX12_burnt_0 15 rfl
theorem dX12_burnt_26 : decode cX12_burnt 26 = .ok (.i2l, 1) := all_at dvX12_burnt_0 16 rfl
theorem dX12_burnt_27 : decode cX12_burnt 27 = .ok (.invokestatic 167, 3) := all_at dvX12_burnt_0 17 rfl
theorem dX12_burnt_30 : decode cX12_burnt 30 = .ok (.ifCond .eq 11, 3) := all_at dvX12_burnt_0 18 rfl
theorem dX12_burnt_33 : decode cX12_burnt 33 = .ok (.iload 4, 2) := all_at dvX12_burnt_0 19 rfl
theorem dX12_burnt_35 : decode cX12_burnt 35 = .ok (.sipush 999, 3) := all_at dvX12_burnt_0 20 rfl
theorem dX12_burnt_38 : decode cX12_burnt 38 = .ok (.if_icmp .le 6, 3) := all_at dvX12_burnt_0 21 rfl
theorem dX12_burnt_41 : decode cX12_burnt 41 = .ok (.ldc 178, 2) := all_at dvX12_burnt_0 22 rfl
theorem dX12_burnt_43 : decode cX12_burnt 43 = .ok (.ireturn, 1) := all_at dvX12_burnt_0 23 rfl
set_option maxRecDepth 100000 in
theorem dvX12_burnt_44 : ([(44, .iload_n 2, 1), (45, .ifCond .ne 13, 3), (48, .aload_n 0, 1), (49, .getfield 121, 3), (52, .iload_n 1, 1), (53, .iload_n 3, 1), (54, .iastore, 1), (55, .goto 10, 3), (58, .aload_n 0, 1), (59, .getfield 124, 3), (62, .iload_n 1, 1), (63, .iload_n 3, 1), (64, .iastore, 1), (65, .iconst 1, 1), (66, .ireturn, 1)] : List (Nat × Instr × Nat)).all (fun q => decide (decode cX12_burnt q.1 = .ok (q.2.1, q.2.2))) = true := by decide +kernel
theorem dX12_burnt_44 : decode cX12_burnt 44 = .ok (.iload_n 2, 1) := all_at dvX12_burnt_44 0 rfl
theorem dX12_burnt_45 : decode cX12_burnt 45 = .ok (.ifCond .ne 13, 3) := all_at dvX12_burnt_44 1 rfl
theorem dX12_burnt_48 : decode cX12_burnt 48 = .ok (.aload_n 0, 1) := all_at dvX12_burnt_44 2 rfl
theorem dX12_burnt_49 : decode cX12_burnt 49 = .ok (.getfield 121, 3) := all_at dvX12_burnt_44 3 rfl
theorem dX12_burnt_52 : decode cX12_burnt 52 = .ok (.iload_n 1, 1) := all_at dvX12_burnt_44 4 rfl
theorem dX12_burnt_53 : decode cX12_burnt 53 = .ok (.iload_n 3, 1) := all_at dvX12_burnt_44 5 rfl
theorem dX12_burnt_54 : decode cX12_burnt 54 = .ok (.iastore, 1) := all_at dvX12_burnt_44 6 rfl
theorem dX12_burnt_55 : decode cX12_burnt 55 = .ok (.goto 10, 3) := all_at dvX12_burnt_44 7 rfl
theorem dX12_burnt_58 : decode cX12_burnt 58 = .ok (.aload_n 0, 1) := all_at dvX12_burnt_44 8 rfl
theorem dX12_burnt_59 : decode cX12_burnt 59 = .ok (.getfield 124, 3) := all_at dvX12_burnt_44 9 rfl
theorem dX12_burnt_62 : decode cX12_burnt 62 = .ok (.iload_n 1, 1) := all_at dvX12_burnt_44 10 rfl
theorem dX12_burnt_63 : decode cX12_burnt 63 = .ok (.iload_n 3, 1) := all_at dvX12_burnt_44 11 rfl
theorem dX12_burnt_64 : decode cX12_burnt 64 = .ok (.iastore, 1) := all_at dvX12_burnt_44 12 rfl
theorem dX12_burnt_65 : decode cX12_burnt 65 = .ok (.iconst 1, 1) := all_at dvX12_burnt_44 13 rfl
theorem dX12_burnt_66 : decode cX12_burnt 66 = .ok (.ireturn, 1) := all_at dvX12_burnt_44 14 rfl
set_option maxRecDepth 100000 in
theorem dvX12_empty_0 : ([(0, .aload_n 0, 1), (1, .getfield 399, 3), (4, .istore_n 1, 1), (5, .aload_n 0, 1), (6, .iconst 0, 1), (7, .putfield 399, 3), (10, .iload_n 1, 1), (11, .ireturn, 1)] : List (Nat × Instr × Nat)).all (fun q => decide (decode cX12_empty q.1 = .ok (q.2.1, q.2.2))) = true := by decide +kernel
theorem dX12_empty_0 : decode cX12_empty 0 = .ok (.aload_n 0, 1) := all_at dvX12_empty_0 0 rfl
theorem dX12_empty_1 : decode cX12_empty 1 = .ok (.getfield 399, 3) := all_at dvX12_empty_0 1 rfl
theorem dX12_empty_4 : decode cX12_empty 4 = .ok (.istore_n 1, 1) := all_at dvX12_empty_0 2 rfl
theorem dX12_empty_5 : decode cX12_empty 5 = .ok (.aload_n 0, 1) := all_at dvX12_empty_0 3 rfl
theorem dX12_empty_6 : decode cX12_empty 6 = .ok (.iconst 0, 1) := all_at dvX12_empty_0 4 rfl
theorem dX12_empty_7 : decode cX12_empty 7 = .ok (.putfield 399, 3) := all_at dvX12_empty_0 5 rfl
theorem dX12_empty_10 : decode cX12_empty 10 = .ok (.iload_n 1, 1) := all_at dvX12_empty_0 6 rfl
theorem dX12_empty_11 : decode cX12_empty 11 = .ok (.ireturn, 1) := all_at dvX12_empty_0 7 rfl
set_option maxRecDepth 100000 in
theorem dvX12_load_0 : ([(0, .iload_n 1, 1), (1, .i2l, 1), (2, .lconst 1, 1), (3, .ldc2_w 176, 3), (6, .invokestatic 167, 3), (9, .ifCond .ne 6, 3), (12, .ldc 178, 2), (14, .ireturn, 1), (15, .aload_n 0, 1), (16, .getfield 399, 3), (19, .bipush 8, 2), (21, .if_icmp .ne 6, 3), (24, .ldc 182, 2), (26, .ireturn, 1), (27, .aload_n 0, 1), (28, .getfield 127, 3), (31, .aload_n 0, 1), (32, .getfield 399, 3), (35, .iload_n 1, 1), (36, .iastore, 1), (37, .aload_n 0, 1), (38, .dup, 1), (39, .getfield 399, 3), (42, .iconst 1, 1)] : List (Nat × Instr × Nat)).all (fun q => decide (decode cX12_load q.1 = .ok (q.2.1, q.2.2))) = true := by decide +kernel
theorem dX12_load_0 : decode cX12_load 0 = .ok (.iload_n 1, 1) := all_at dvX12_load_0 0 rfl
theorem dX12_load_1 : decode cX12_load 1 = .ok (.i2l, 1) := all_at dvX12_load_0 1 rfl
theorem dX12_load_2 : decode cX12_load 2 = .ok (.lconst 1, 1) := all_at dvX12_load_0 2 rfl
theorem dX12_load_3 : decode cX12_load 3 = .ok (.ldc2_w 176, 3) := all_at dvX12_load_0 3 rfl
theorem dX12_load_6 : decode cX12_load 6 = .ok (.invokestatic 167, 3) := all_at dvX12_load_0 4 rfl
theorem dX12_load_9 : decode cX12_load 9 = .ok (.ifCond .ne 6, 3) := all_at dvX12_load_0 5 rfl
theorem dX12_load_12 : decode cX12_load 12 = .ok (.ldc 178, 2) := all_at dvX12_load_0 6 rfl
theorem dX12_load_14 : decode cX12_load 14 = .ok (.ireturn, 1) := all_at dvX12_load_0 7 rfl
theorem dX12_load_15 : decode cX12_load 15 = .ok (.aload_n 0, 1) := all_at dvX12_load_0 8 rfl
theorem dX12_load_16 : decode cX12_load 16 = .ok (.getfield 399, 3) := all_at dvX12_load_0 9 rfl
theorem dX12_load_19 : decode cX12_load 19 = .ok (.bipush 8, 2) := all_at dvX12_load_0 10 rfl
theorem dX12_load_21 : decode cX12_load 21 = .ok (.if_icmp .ne 6, 3) := all_at dvX12_load_0 11 rfl
theorem dX12_load_24 : decode cX12_load 24 = .ok (.ldc 182, 2) := all_at dvX12_load_0 12 rfl
theorem dX12_load_26 : decode cX12_load 26 = .ok (.ireturn, 1) := all_at dvX12_load_0 13 rfl
theorem dX12_load_27 : decode cX12_load 27 = .ok (.aload_n 0, 1) := all_at dvX12_load_0 14 rfl
theorem dX12_load_28 : decode cX12_load 28 = .ok (.getfield 127, 3) := all_at dvX12_load_0 15 rfl
theorem dX12_load_31 : decode cX12_load 31 = .ok (.aload_n 0, 1) := all_at dvX12_load_0 16 rfl
theorem dX12_load_32 : decode cX12_load 32 = .ok (.getfield 399, 3) := all_at dvX12_load_0 17 rfl
theorem dX12_load_35 : decode cX12_load 35 = .ok (.iload_n 1, 1) := all_at dvX12_load_0 18 rfl
theorem dX12_load_36 : decode cX12_load 36 = .ok (.iastore, 1) := all_at dvX12_load_0 19 rfl
theorem dX12_load_37 : decode cX12_load 37 = .ok (.aload_n 0, 1) := all_at dvX12_load_0 20 rfl
theorem dX12_load_38 : decode cX12_load 38 = .ok (.dup, 1) := all_at dvX12_load_0 21 rfl
theorem dX12_load_39 : decode cX12_load 39 = .ok (.getfield 399, 3) := all_at dvX12_load_0 22 rfl
theorem dX12_load_42 : decode cX12_load 42 = .ok (.iconst 1, 1) := all_at dvX12_load_0 23 rfl
set_option maxRecDepth 100000 in
theorem dvX12_load_43 : ([(43, .iadd, 1), (44, .putfield 399, 3), (47, .aload_n 0, 1), (48, .getfield 399, 3), (51, .ireturn, 1)] : List (Nat × Instr × Nat)).all (fun q => decide (decode cX12_load q.1 = .ok (q.2.1, q.2.2))) = true := by decide +kernel
theorem dX12_load_43 : decode cX12_load 43 = .ok (.iadd, 1) := all_at dvX12_load_43 0 rfl
theorem dX12_load_44 : decode cX12_load 44 = .ok (.putfield 399, 3) := all_at dvX12_load_43 1 rfl
theorem dX12_load_47 : decode cX12_load 47 = .ok (.aload_n 0, 1) := all_at dvX12_load_43 2 rfl
theorem dX12_load_48 : decode cX12_load 48 = .ok (.getfield 399, 3) := all_at dvX12_load_43 3 rfl
theorem dX12_load_51 : decode cX12_load 51 = .ok (.ireturn, 1) := all_at dvX12_load_43 4 rfl
set_option maxRecDepth 100000 in
theorem dvX12_thread_0 : ([(0, .aload_n 0, 1), (1, .iload_n 1, 1), (2, .invokevirtual 183, 3), (5, .ifCond .eq 6, 3), (8, .ldc 187, 2), (10, .ireturn, 1), (11, .iload_n 2, 1), (12, .i2l, 1), (13, .lconst 1, 1), (14, .ldc2_w 176, 3), (17, .invokestatic 167, 3), (20, .ifCond .ne 6, 3), (23, .ldc 178, 2), (25, .ireturn, 1), (26, .aload_n 0, 1), (27, .getfield 109, 3), (30, .iload_n 1, 1), (31, .iaload, 1), (32, .bipush 12, 2), (34, .if_icmp .ne 6, 3), (37, .ldc 182, 2), (39, .ireturn, 1), (40, .aload_n 0, 1), (41, .getfield 112, 3)] : List (Nat × Instr × Nat)).all (fun q => decide (decode cX12_thread q.1 = .ok (q.2.1, q.2.2))) = true := by decide +kernel
theorem dX12_thread_0 : decode cX12_thread 0 = .ok (.aload_n 0, 1) := all_at dvX12_thread_0 0 rfl
theorem dX12_thread_1 : decode cX12_thread 1 = .ok (.iload_n 1, 1) := all_at dvX12_thread_0 1 rfl
theorem dX12_thread_2 : decode cX12_thread 2 = .ok (.invokevirtual 183, 3) := all_at dvX12_thread_0 2 rfl
theorem dX12_thread_5 : decode cX12_thread 5 = .ok (.ifCond .eq 6, 3) := all_at dvX12_thread_0 3 rfl
theorem dX12_thread_8 : decode cX12_thread 8 = .ok (.ldc 187, 2) := all_at dvX12_thread_0 4 rfl
theorem dX12_thread_10 : decode cX12_thread 10 = .ok (.ireturn, 1) := all_at dvX12_thread_0 5 rfl
theorem dX12_thread_11 : decode cX12_thread 11 = .ok (.iload_n 2, 1) := all_at dvX12_thread_0 6 rfl
theorem dX12_thread_12 : decode cX12_thread 12 = .ok (.i2l, 1) := all_at dvX12_thread_0 7 rfl
theorem dX12_thread_13 : decode cX12_thread 13 = .ok (.lconst 1, 1) := all_at dvX12_thread_0 8 rfl
theorem dX12_thread_14 : decode cX12_thread 14 = .ok (.ldc2_w 176, 3) := all_at dvX12_thread_0 9 rfl
theorem dX12_thread_17 : decode cX12_thread 17 = .ok (.invokestatic 167, 3) := all_at dvX12_thread_0 10 rfl
theorem dX12_thread_20 : decode cX12_thread 20 = .ok (.ifCond .ne 6, 3) := all_at dvX12_thread_0 11 rfl
theorem dX12_thread_23 : decode cX12_thread 23 = .ok (.ldc 178, 2) := all_at dvX12_thread_0 12 rfl
theorem dX12_thread_25 : decode cX12_thread 25 = .ok (.ireturn, 1) := all_at dvX12_thread_0 13 rfl
theorem dX12_thread_26 : decode cX12_thread 26 = .ok (.aload_n 0, 1) := all_at dvX12_thread_0 14 rfl
theorem dX12_thread_27 : decode cX12_thread 27 = .ok (.getfield 109, 3) := all_at dvX12_thread_0 15 rfl
theorem dX12_thread_30 : decode cX12_thread 30 = .ok (.iload_n 1, 1) := all_at dvX12_thread_0 16 rfl
theorem dX12_thread_31 : decode cX12_thread 31 = .ok (.iaload, 1) := all_at dvX12_thread_0 17 rfl
theorem dX12_thread_32 : decode cX12_thread 32 = .ok (.bipush 12, 2) := all_at dvX12_thread_0 18 rfl
theorem dX12_thread_34 : decode cX12_thread 34 = .ok (.if_icmp .ne 6, 3) := all_at dvX12_thread_0 19 rfl
theorem dX12_thread_37 : decode cX12_thread 37 = .ok (.ldc 182, 2) := all_at dvX12_thread_0 20 rfl
theorem dX12_thread_39 : decode cX12_thread 39 = .ok (.ireturn, 1) := all_at dvX12_thread_0 21 rfl
theorem dX12_thread_40 : decode cX12_thread 40 = .ok (.aload_n 0, 1) := all_at dvX12_thread_0 22 rfl
theorem dX12_thread_41 : decode cX12_thread 41 = .ok (.getfield 112, 3) := all_at dvX12_thread_0 23 rfl
set_option maxRecDepth 100000 in
theorem dvX12_thread_44 : ([(44, .bipush 12, 2), (46, .iload_n 1, 1), (47, .imul, 1), (48, .aload_n 0, 1), (49, .getfield 109, 3), (52, .iload_n 1, 1), (53, .iaload, 1), (54, .iadd, 1), (55, .iload_n 2, 1), (56, .iastore, 1), (57, .aload_n 0, 1), (58, .getfield 109, 3), (61, .iload_n 1, 1), (62, .dup2, 1), (63, .iaload, 1), (64, .iconst 1, 1), (65, .iadd, 1), (66, .iastore, 1), (67, .aload_n 0, 1), (68, .getfield 109, 3), (71, .iload_n 1, 1), (72, .iaload, 1), (73, .ireturn, 1)] : List (Nat × Instr × Nat)).all (fun q => decide (decode cX12_thread q.1 = .ok (q.2.1, q.2.2))) = true := by decide +kernel
theorem dX12_thread_44 : decode cX12_thread 44 = .ok (.bipush 12, 2) := all_at dvX12_thread_44 0 rfl
theorem dX12_thread_46 : decode cX12_thread 46 = .ok (.iload_n 1, 1) := all_at dvX12_thread_44 1 rfl
theorem dX12_thread_47 : decode cX12_thread 47 = .ok (.imul, 1) := all_at dvX12_thread_44 2 rfl
theorem dX12_thread_48 : decode cX12_thread 48 = .ok (.aload_n 0, 1) := all_at dvX12_thread_44 3 rfl
theorem dX12_thread_49 : decode cX12_thread 49 = .ok (.getfield 109, 3) := all_at dvX12_thread_44 4 rfl
theorem dX12_thread_52 : decode cX12_thread 52 = .ok (.iload_n 1, 1) := all_at dvX12_thread_44 5 rfl
theorem dX12_thread_53 : decode cX12_thread 53 = .ok (.iaload, 1) := all_at dvX12_thread_44 6 rfl
theorem dX12_thread_54 : decode cX12_thread 54 = .ok (.iadd, 1) := all_at dvX12_thread_44 7 rfl
theorem dX12_thread_55 : decode cX12_thread 55 = .ok (.iload_n 2, 1) := all_at dvX12_thread_44 8 rfl
theorem dX12_thread_56 : decode cX12_thread 56 = .ok (.iastore, 1) := all_at dvX12_thread_44 9 rfl
theorem dX12_thread_57 : decode cX12_thread 57 = .ok (.aload_n 0, 1) := all_at dvX12_thread_44 10 rfl
theorem dX12_thread_58 : decode cX12_thread 58 = .ok (.getfield 109, 3) := all_at dvX12_thread_44 11 rfl
theorem dX12_thread_61 : decode cX12_thread 61 = .ok (.iload_n 1, 1) := all_at dvX12_thread_44 12 rfl
theorem dX12_thread_62 : decode cX12_thread 62 = .ok (.dup2, 1) := all_at dvX12_thread_44 13 rfl
theorem dX12_thread_63 : decode cX12_thread 63 = .ok (.iaload, 1) := all_at dvX12_thread_44 14 rfl
theorem dX12_thread_64 : decode cX12_thread 64 = .ok (.iconst 1, 1) := all_at dvX12_thread_44 15 rfl
theorem dX12_thread_65 : decode cX12_thread 65 = .ok (.iadd, 1) := all_at dvX12_thread_44 16 rfl
theorem dX12_thread_66 : decode cX12_thread 66 = .ok (.iastore, 1) := all_at dvX12_thread_44 17 rfl
theorem dX12_thread_67 : decode cX12_thread 67 = .ok (.aload_n 0, 1) := all_at dvX12_thread_44 18 rfl
theorem dX12_thread_68 : decode cX12_thread 68 = .ok (.getfield 109, 3) := all_at dvX12_thread_44 19 rfl
theorem dX12_thread_71 : decode cX12_thread 71 = .ok (.iload_n 1, 1) := all_at dvX12_thread_44 20 rfl
theorem dX12_thread_72 : decode cX12_thread 72 = .ok (.iaload, 1) := all_at dvX12_thread_44 21 rfl
theorem dX12_thread_73 : decode cX12_thread 73 = .ok (.ireturn, 1) := all_at dvX12_thread_44 22 rfl
set_option maxRecDepth 100000 in
theorem dvX12_turns_0 : ([(0, .aload_n 0, 1), (1, .iload_n 1, 1), (2, .invokevirtual 183, 3), (5, .ifCond .eq 6, 3), (8, .ldc 187, 2), (10, .ireturn, 1), (11, .iload_n 2, 1), (12, .i2l, 1), (13, .lconst 0, 1), (14, .ldc2_w 176, 3), (17, .invokestatic 167, 3), (20, .ifCond .ne 6, 3), (23, .ldc 178, 2), (25, .ireturn, 1), (26, .aload_n 0, 1), (27, .getfield 115, 3), (30, .iload_n 1, 1), (31, .iaload, 1), (32, .bipush 8, 2), (34, .if_icmp .ne 6, 3), (37, .ldc 182, 2), (39, .ireturn, 1), (40, .aload_n 0, 1), (41, .getfield 118, 3)] : List (Nat × Instr × Nat)).all (fun q => decide (decode cX12_turns q.1 = .ok (q.2.1, q.2.2))) = true := by decide +kernel
theorem dX12_turns_0 : decode cX12_turns 0 = .ok (.aload_n 0, 1) := all_at dvX12_turns_0 0 rfl
theorem dX12_turns_1 : decode cX12_turns 1 = .ok (.iload_n 1, 1) := all_at dvX12_turns_0 1 rfl
theorem dX12_turns_2 : decode cX12_turns 2 = .ok (.invokevirtual 183, 3) := all_at dvX12_turns_0 2 rfl
theorem dX12_turns_5 : decode cX12_turns 5 = .ok (.ifCond .eq 6, 3) := all_at dvX12_turns_0 3 rfl
theorem dX12_turns_8 : decode cX12_turns 8 = .ok (.ldc 187, 2) := all_at dvX12_turns_0 4 rfl
theorem dX12_turns_10 : decode cX12_turns 10 = .ok (.ireturn, 1) := all_at dvX12_turns_0 5 rfl
theorem dX12_turns_11 : decode cX12_turns 11 = .ok (.iload_n 2, 1) := all_at dvX12_turns_0 6 rfl
theorem dX12_turns_12 : decode cX12_turns 12 = .ok (.i2l, 1) := all_at dvX12_turns_0 7 rfl
theorem dX12_turns_13 : decode cX12_turns 13 = .ok (.lconst 0, 1) := all_at dvX12_turns_0 8 rfl
theorem dX12_turns_14 : decode cX12_turns 14 = .ok (.ldc2_w 176, 3) := all_at dvX12_turns_0 9 rfl
theorem dX12_turns_17 : decode cX12_turns 17 = .ok (.invokestatic 167, 3) := all_at dvX12_turns_0 10 rfl
theorem dX12_turns_20 : decode cX12_turns 20 = .ok (.ifCond .ne 6, 3) := all_at dvX12_turns_0 11 rfl
theorem dX12_turns_23 : decode cX12_turns 23 = .ok (.ldc 178, 2) := all_at dvX12_turns_0 12 rfl
theorem dX12_turns_25 : decode cX12_turns 25 = .ok (.ireturn, 1) := all_at dvX12_turns_0 13 rfl
theorem dX12_turns_26 : decode cX12_turns 26 = .ok (.aload_n 0, 1) := all_at dvX12_turns_0 14 rfl
theorem dX12_turns_27 : decode cX12_turns 27 = .ok (.getfield 115, 3) := all_at dvX12_turns_0 15 rfl
theorem dX12_turns_30 : decode cX12_turns 30 = .ok (.iload_n 1, 1) := all_at dvX12_turns_0 16 rfl
theorem dX12_turns_31 : decode cX12_turns 31 = .ok (.iaload, 1) := all_at dvX12_turns_0 17 rfl
theorem dX12_turns_32 : decode cX12_turns 32 = .ok (.bipush 8, 2) := all_at dvX12_turns_0 18 rfl
theorem dX12_turns_34 : decode cX12_turns 34 = .ok (.if_icmp .ne 6, 3) := all_at dvX12_turns_0 19 rfl
theorem dX12_turns_37 : decode cX12_turns 37 = .ok (.ldc 182, 2) := all_at dvX12_turns_0 20 rfl
theorem dX12_turns_39 : decode cX12_turns 39 = .ok (.ireturn, 1) := all_at dvX12_turns_0 21 rfl
theorem dX12_turns_40 : decode cX12_turns 40 = .ok (.aload_n 0, 1) := all_at dvX12_turns_0 22 rfl
theorem dX12_turns_41 : decode cX12_turns 41 = .ok (.getfield 118, 3) := all_at dvX12_turns_0 23 rfl
set_option maxRecDepth 100000 in
theorem dvX12_turns_44 : ([(44, .bipush 8, 2), (46, .iload_n 1, 1), (47, .imul, 1), (48, .aload_n 0, 1), (49, .getfield 115, 3), (52, .iload_n 1, 1), (53, .iaload, 1), (54, .iadd, 1), (55, .iload_n 2, 1), (56, .iastore, 1), (57, .aload_n 0, 1), (58, .getfield 115, 3), (61, .iload_n 1, 1), (62, .dup2, 1), (63, .iaload, 1), (64, .iconst 1, 1), (65, .iadd, 1), (66, .iastore, 1), (67, .aload_n 0, 1), (68, .getfield 115, 3), (71, .iload_n 1, 1), (72, .iaload, 1), (73, .ireturn, 1)] : List (Nat × Instr × Nat)).all (fun q => decide (decode cX12_turns q.1 = .ok (q.2.1, q.2.2))) = true := by decide +kernel
theorem dX12_turns_44 : decode cX12_turns 44 = .ok (.bipush 8, 2) := all_at dvX12_turns_44 0 rfl
theorem dX12_turns_46 : decode cX12_turns 46 = .ok (.iload_n 1, 1) := all_at dvX12_turns_44 1 rfl
theorem dX12_turns_47 : decode cX12_turns 47 = .ok (.imul, 1) := all_at dvX12_turns_44 2 rfl
theorem dX12_turns_48 : decode cX12_turns 48 = .ok (.aload_n 0, 1) := all_at dvX12_turns_44 3 rfl
theorem dX12_turns_49 : decode cX12_turns 49 = .ok (.getfield 115, 3) := all_at dvX12_turns_44 4 rfl
theorem dX12_turns_52 : decode cX12_turns 52 = .ok (.iload_n 1, 1) := all_at dvX12_turns_44 5 rfl
theorem dX12_turns_53 : decode cX12_turns 53 = .ok (.iaload, 1) := all_at dvX12_turns_44 6 rfl
theorem dX12_turns_54 : decode cX12_turns 54 = .ok (.iadd, 1) := all_at dvX12_turns_44 7 rfl
theorem dX12_turns_55 : decode cX12_turns 55 = .ok (.iload_n 2, 1) := all_at dvX12_turns_44 8 rfl
theorem dX12_turns_56 : decode cX12_turns 56 = .ok (.iastore, 1) := all_at dvX12_turns_44 9 rfl
theorem dX12_turns_57 : decode cX12_turns 57 = .ok (.aload_n 0, 1) := all_at dvX12_turns_44 10 rfl
theorem dX12_turns_58 : decode cX12_turns 58 = .ok (.getfield 115, 3) := all_at dvX12_turns_44 11 rfl
theorem dX12_turns_61 : decode cX12_turns 61 = .ok (.iload_n 1, 1) := all_at dvX12_turns_44 12 rfl
theorem dX12_turns_62 : decode cX12_turns 62 = .ok (.dup2, 1) := all_at dvX12_turns_44 13 rfl
theorem dX12_turns_63 : decode cX12_turns 63 = .ok (.iaload, 1) := all_at dvX12_turns_44 14 rfl
theorem dX12_turns_64 : decode cX12_turns 64 = .ok (.iconst 1, 1) := all_at dvX12_turns_44 15 rfl
theorem dX12_turns_65 : decode cX12_turns 65 = .ok (.iadd, 1) := all_at dvX12_turns_44 16 rfl
theorem dX12_turns_66 : decode cX12_turns 66 = .ok (.iastore, 1) := all_at dvX12_turns_44 17 rfl
theorem dX12_turns_67 : decode cX12_turns 67 = .ok (.aload_n 0, 1) := all_at dvX12_turns_44 18 rfl
theorem dX12_turns_68 : decode cX12_turns 68 = .ok (.getfield 115, 3) := all_at dvX12_turns_44 19 rfl
theorem dX12_turns_71 : decode cX12_turns 71 = .ok (.iload_n 1, 1) := all_at dvX12_turns_44 20 rfl
theorem dX12_turns_72 : decode cX12_turns 72 = .ok (.iaload, 1) := all_at dvX12_turns_44 21 rfl
theorem dX12_turns_73 : decode cX12_turns 73 = .ok (.ireturn, 1) := all_at dvX12_turns_44 22 rfl
set_option maxRecDepth 100000 in
theorem dvX12_twist_0 : ([(0, .aload_n 0, 1), (1, .iload_n 1, 1), (2, .invokevirtual 183, 3), (5, .ifCond .eq 6, 3), (8, .ldc 187, 2), (10, .ireturn, 1), (11, .aload_n 0, 1), (12, .getfield 115, 3), (15, .iload_n 1, 1), (16, .iaload, 1), (17, .istore_n 2, 1), (18, .iconst 0, 1), (19, .istore_n 3, 1), (20, .iload_n 3, 1), (21, .iload_n 2, 1), (22, .if_icmp .ge 100, 3), (25, .aload_n 0, 1), (26, .getfield 118, 3), (29, .bipush 8, 2), (31, .iload_n 1, 1), (32, .imul, 1), (33, .iload_n 3, 1), (34, .iadd, 1), (35, .iaload, 1)] : List (Nat × Instr × Nat)).all (fun q => decide (decode cX12_twist q.1 = .ok (q.2.1, q.2.2))) = true := by decide +kernel
theorem dX12_twist_0 : decode cX12_twist 0 = .ok (.aload_n 0, 1) := all_at dvX12_twist_0 0 rfl
theorem dX12_twist_1 : decode cX12_twist 1 = .ok (.iload_n 1, 1) := all_at dvX12_twist_0 1 rfl
theorem dX12_twist_2 : decode cX12_twist 2 = .ok (.invokevirtual 183, 3) := all_at dvX12_twist_0 2 rfl
theorem dX12_twist_5 : decode cX12_twist 5 = .ok (.ifCond .eq 6, 3) := all_at dvX12_twist_0 3 rfl
theorem dX12_twist_8 : decode cX12_twist 8 = .ok (.ldc 187, 2) := all_at dvX12_twist_0 4 rfl
theorem dX12_twist_10 : decode cX12_twist 10 = .ok (.ireturn, 1) := all_at dvX12_twist_0 5 rfl
theorem dX12_twist_11 : decode cX12_twist 11 = .ok (.aload_n 0, 1) := all_at dvX12_twist_0 6 rfl
theorem dX12_twist_12 : decode cX12_twist 12 = .ok (.getfield 115, 3) := all_at dvX12_twist_0 7 rfl
theorem dX12_twist_15 : decode cX12_twist 15 = .ok (.iload_n 1, 1) := all_at dvX12_twist_0 8 rfl
theorem dX12_twist_16 : decode cX12_twist 16 = .ok (.iaload, 1) := all_at dvX12_twist_0 9 rfl
theorem dX12_twist_17 : decode cX12_twist 17 = .ok (.istore_n 2, 1) := all_at dvX12_twist_0 10 rfl
theorem dX12_twist_18 : decode cX12_twist 18 = .ok (.iconst 0, 1) := all_at dvX12_twist_0 11 rfl
theorem dX12_twist_19 : decode cX12_twist 19 = .ok (.istore_n 3, 1) := all_at dvX12_twist_0 12 rfl
theorem dX12_twist_20 : decode cX12_twist 20 = .ok (.iload_n 3, 1) := all_at dvX12_twist_0 13 rfl
theorem dX12_twist_21 : decode cX12_twist 21 = .ok (.iload_n 2, 1) := all_at dvX12_twist_0 14 rfl
theorem dX12_twist_22 : decode cX12_twist 22 = .ok (.if_icmp .ge 100, 3) := all_at dvX12_twist_0 15 rfl
theorem dX12_twist_25 : decode cX12_twist 25 = .ok (.aload_n 0, 1) := all_at dvX12_twist_0 16 rfl
theorem dX12_twist_26 : decode cX12_twist 26 = .ok (.getfield 118, 3) := all_at dvX12_twist_0 17 rfl
theorem dX12_twist_29 : decode cX12_twist 29 = .ok (.bipush 8, 2) := all_at dvX12_twist_0 18 rfl
theorem dX12_twist_31 : decode cX12_twist 31 = .ok (.iload_n 1, 1) := all_at dvX12_twist_0 19 rfl
theorem dX12_twist_32 : decode cX12_twist 32 = .ok (.imul, 1) := all_at dvX12_twist_0 20 rfl
theorem dX12_twist_33 : decode cX12_twist 33 = .ok (.iload_n 3, 1) := all_at dvX12_twist_0 21 rfl
theorem dX12_twist_34 : decode cX12_twist 34 = .ok (.iadd, 1) := all_at dvX12_twist_0 22 rfl
theorem dX12_twist_35 : decode cX12_twist 35 = .ok (.iaload, 1) := all_at dvX12_twist_0 23 rfl
set_option maxRecDepth 100000 in
theorem dvX12_twist_36 : ([(36, .istore 4, 2), (38, .iconst 0, 1), (39, .istore 5, 2), (41, .iconst 0, 1), (42, .istore 6, 2), (44, .iload 6, 2), (46, .iload_n 2, 1), (47, .if_icmp .ge 56, 3), (50, .aload_n 0, 1), (51, .getfield 118, 3), (54, .bipush 8, 2), (56, .iload_n 1, 1), (57, .imul, 1), (58, .iload 6, 2), (60, .iadd, 1), (61, .iaload, 1), (62, .istore 7, 2), (64, .iload 5, 2), (66, .iload 7, 2), (68, .iload 4, 2), (70, .if_icmp .lt 16, 3), (73, .iload 7, 2), (75, .iload 4, 2), (77, .if_icmp .ne 13, 3)] : List (Nat × Instr × Nat)).all (fun q => decide (decode cX12_twist q.1 = .ok (q.2.1, q.2.2))) = true := by decide +kernel
theorem dX12_twist_36 : decode cX12_twist 36 = .ok (.istore 4, 2) := all_at dvX12_twist_36 0 rfl
theorem dX12_twist_38 : decode cX12_twist 38 = .ok (.iconst 0, 1) := all_at dvX12_twist_36 1 rfl
theorem dX12_twist_39 : decode cX12_twist 39 = .ok (.istore 5, 2) := all_at dvX12_twist_36 2 rfl
theorem dX12_twist_41 : decode cX12_twist 41 = .ok (.iconst 0, 1) := all_at dvX12_twist_36 3 rfl
theorem dX12_twist_42 : decode cX12_twist 42 = .ok (.istore 6, 2) := all_at dvX12_twist_36 4 rfl
theorem dX12_twist_44 : decode cX12_twist 44 = .ok (.iload 6, 2) := all_at dvX12_twist_36 5 rfl
theorem dX12_twist_46 : decode cX12_twist 46 = .ok (.iload_n 2, 1) := all_at dvX12_twist_36 6 rfl
theorem dX12_twist_47 : decode cX12_twist 47 = .ok (.if_icmp .ge 56, 3) := all_at dvX12_twist_36 7 rfl
theorem dX12_twist_50 : decode cX12_twist 50 = .ok (.aload_n 0, 1) := all_at dvX12_twist_36 8 rfl
theorem dX12_twist_51 : decode cX12_twist 51 = .ok (.getfield 118, 3) := all_at dvX12_twist_36 9 rfl
theorem dX12_twist_54 : decode cX12_twist 54 = .ok (.bipush 8, 2) := all_at dvX12_twist_36 10 rfl
theorem dX12_twist_56 : decode cX12_twist 56 = .ok (.iload_n 1, 1) := all_at dvX12_twist_36 11 rfl
theorem dX12_twist_57 : decode cX12_twist 57 = .ok (.imul, 1) := all_at dvX12_twist_36 12 rfl
theorem dX12_twist_58 : decode cX12_twist 58 = .ok (.iload 6, 2) := all_at dvX12_twist_36 13 rfl
theorem dX12_twist_60 : decode cX12_twist 60 = .ok (.iadd, 1) := all_at dvX12_twist_36 14 rfl
theorem dX12_twist_61 : decode cX12_twist 61 = .ok (.iaload, 1) := all_at dvX12_twist_36 15 rfl
theorem dX12_twist_62 : decode cX12_twist 62 = .ok (.istore 7, 2) := all_at dvX12_twist_36 16 rfl
theorem dX12_twist_64 : decode cX12_twist 64 = .ok (.iload 5, 2) := all_at dvX12_twist_36 17 rfl
theorem dX12_twist_66 : decode cX12_twist 66 = .ok (.iload 7, 2) := all_at dvX12_twist_36 18 rfl
theorem dX12_twist_68 : decode cX12_twist 68 = .ok (.iload 4, 2) := all_at dvX12_twist_36 19 rfl
theorem dX12_twist_70 : decode cX12_twist 70 = .ok (.if_icmp .lt 16, 3) := all_at dvX12_twist_36 20 rfl
theorem dX12_twist_73 : decode cX12_twist 73 = .ok (.iload 7, 2) := all_at dvX12_twist_36 21 rfl
theorem dX12_twist_75 : decode cX12_twist 75 = .ok (.iload 4, 2) := all_at dvX12_twist_36 22 rfl
theorem dX12_twist_77 : decode cX12_twist 77 = .ok (.if_icmp .ne 13, 3) := all_at dvX12_twist_36 23 rfl
set_option maxRecDepth 100000 in
theorem dvX12_twist_80 : ([(80, .iload 6, 2), (82, .iload_n 3, 1), (83, .if_icmp .ge 7, 3), (86, .iconst 1, 1), (87, .goto 4, 3), (90, .iconst 0, 1), (91, .invokestatic 203, 3), (94, .iadd, 1), (95, .istore 5, 2), (97, .iinc 6 1, 3), (100, .goto (-56), 3), (103, .iload 5, 2), (105, .iload_n 2, 1), (106, .iconst 1, 1), (107, .isub, 1), (108, .iconst 2, 1), (109, .idiv, 1), (110, .if_icmp .ne 6, 3), (113, .iload 4, 2), (115, .ireturn, 1), (116, .iinc 3 1, 3), (119, .goto (-99), 3), (122, .iconst (-1), 1), (123, .ireturn, 1)] : List (Nat × Instr × Nat)).all (fun q => decide (decode cX12_twist q.1 = .ok (q.2.1, q.2.2))) = true := by decide +kernel
theorem dX12_twist_80 : decode cX12_twist 80 = .ok (.iload 6, 2) := all_at dvX12_twist_80 0 rfl
theorem dX12_twist_82 : decode cX12_twist 82 = .ok (.iload_n 3, 1) := all_at dvX12_twist_80 1 rfl
theorem dX12_twist_83 : decode cX12_twist 83 = .ok (.if_icmp .ge 7, 3) := all_at dvX12_twist_80 2 rfl
theorem dX12_twist_86 : decode cX12_twist 86 = .ok (.iconst 1, 1) := all_at dvX12_twist_80 3 rfl
theorem dX12_twist_87 : decode cX12_twist 87 = .ok (.goto 4, 3) := all_at dvX12_twist_80 4 rfl
theorem dX12_twist_90 : decode cX12_twist 90 = .ok (.iconst 0, 1) := all_at dvX12_twist_80 5 rfl
theorem dX12_twist_91 : decode cX12_twist 91 = .ok (.invokestatic 203, 3) := all_at dvX12_twist_80 6 rfl
theorem dX12_twist_94 : decode cX12_twist 94 = .ok (.iadd, 1) := all_at dvX12_twist_80 7 rfl
theorem dX12_twist_95 : decode cX12_twist 95 = .ok (.istore 5, 2) := all_at dvX12_twist_80 8 rfl
theorem dX12_twist_97 : decode cX12_twist 97 = .ok (.iinc 6 1, 3) := all_at dvX12_twist_80 9 rfl
theorem dX12_twist_100 : decode cX12_twist 100 = .ok (.goto (-56), 3) := all_at dvX12_twist_80 10 rfl
theorem dX12_twist_103 : decode cX12_twist 103 = .ok (.iload 5, 2) := all_at dvX12_twist_80 11 rfl
theorem dX12_twist_105 : decode cX12_twist 105 = .ok (.iload_n 2, 1) := all_at dvX12_twist_80 12 rfl
theorem dX12_twist_106 : decode cX12_twist 106 = .ok (.iconst 1, 1) := all_at dvX12_twist_80 13 rfl
theorem dX12_twist_107 : decode cX12_twist 107 = .ok (.isub, 1) := all_at dvX12_twist_80 14 rfl
theorem dX12_twist_108 : decode cX12_twist 108 = .ok (.iconst 2, 1) := all_at dvX12_twist_80 15 rfl
theorem dX12_twist_109 : decode cX12_twist 109 = .ok (.idiv, 1) := all_at dvX12_twist_80 16 rfl
theorem dX12_twist_110 : decode cX12_twist 110 = .ok (.if_icmp .ne 6, 3) := all_at dvX12_twist_80 17 rfl
theorem dX12_twist_113 : decode cX12_twist 113 = .ok (.iload 4, 2) := all_at dvX12_twist_80 18 rfl
theorem dX12_twist_115 : decode cX12_twist 115 = .ok (.ireturn, 1) := all_at dvX12_twist_80 19 rfl
theorem dX12_twist_116 : decode cX12_twist 116 = .ok (.iinc 3 1, 3) := all_at dvX12_twist_80 20 rfl
theorem dX12_twist_119 : decode cX12_twist 119 = .ok (.goto (-99), 3) := all_at dvX12_twist_80 21 rfl
theorem dX12_twist_122 : decode cX12_twist 122 = .ok (.iconst (-1), 1) := all_at dvX12_twist_80 22 rfl
theorem dX12_twist_123 : decode cX12_twist 123 = .ok (.ireturn, 1) := all_at dvX12_twist_80 23 rfl
set_option maxHeartbeats 4000000 in
set_option maxRecDepth 100000 in
/-- X12_thread -/
theorem c_X12_thread (l : Launch) (dC : Nat → ClassId) (dI : Nat → Nat → Nat) (sz : Nat) (h : Nat) (g : Nat → Nat → Nat) (ca : Nat → Nat → ClassId) (iv : Nat → Nat → Int32) (lv : Nat → Nat → Int64) (fa : Nat → Nat → Nat → Int32) (la : Nat → Nat → Nat → Int64) (hI : IX iv fa) (a : Int32) (b : Int32) : Met l yX12_thread (wc yX12_thread cX12_thread 3 (some .int)) ({ frames := 2, cells := 0, slots := 0, locals := 46 } : Room) (pW (dC, dI) classes (WM h g ca iv lv fa la) (TM ca) sz [.ref h, .int a, .int b]) (va_Qi (fun r (u : SS) => ∃ (na_12_51 : Nat → Int32) (na_12_52 : Nat → Int32), (∀ j, inb (bA 12 51 j) (na_12_51 j)) ∧ ((-100004) ≤ r.toInt ∧ r.toInt ≤ 12) ∧ u = (iv, lv, (u2 (u2 fa 12 51 na_12_51) 12 52 na_12_52), la)) (bM (dC, dI) h g ca (va_A (WM h g ca iv lv fa la) sz)) (va_A (WM h g ca iv lv fa la) sz)) 0 0 (va_A (WM h g ca iv lv fa la) sz) := by
  refine Met.ofW (cc := cX12_thread) (maxL := 3) (ret := (some .int)) (by decide) rfl ?_
  intro p e s m args below meth c s₁ B hml hv
  obtain ⟨rfl, hsz, hP, hK, hD0⟩ := hv
  have hx := B.exec
  have hb := B.bytes
  have hr := B.returns
  have ht := tb_tl (atoms_spec (ws := wc yX12_thread cX12_thread 3 (some .int)) B.pre)
  have hown : s.vm.findClass RX12 = some m.cls := findClass_of_methodNamed B.named
  have hlocks := B.notSynchronized
  subst hsz
  have hD := hD0.self (sz := s.heap.size)
  generalize hAe : va_A (WM h g ca iv lv fa la) s.heap.size = A at hD ⊢
  have hA : ∀ q : Nat, s.heap.size ≤ q → A q := fun q h => by rw [← hAe]; exact Or.inr h
  have hS : va_S A s.heap s.heap [] := va_S.rf
  have hl := lv_entry [.ref h, .int a, .int b] (n := 3) (Nat.le_of_ble_eq_true rfl)
  rw [lg_entry_eq]
  generalize (lg_sl [.ref h, .int a, .int b] ++ List.replicate (3 - (lg_sl [.ref h, .int a, .int b]).length) Slot.unset).toArray = ls at hl ⊢
  have hl : lv_has ls 3 [(0, .ref h), (1, .int a), (2, .int b)] := hl
  refine lv_aload_n hx hb dX12_thread_0 rfl (lv_at hl 0 rfl) ?_
  refine lv_iload_n hx hb dX12_thread_1 rfl (lv_at hl 1 rfl) ?_
  refine vp_callSi (W.runV (As := [.int a]) (rest := []) ⟨hx, hb, hml, hown, ht⟩ (c_X12_noBale l dC dI h g ca iv lv fa la hI a) (kV 1 ht m_1385 m_1387 m_42 m_89 m_1388 rfl rfl hd_X12_noBale_v ⟨Nat.le_of_ble_eq_true rfl, Nat.le_of_ble_eq_true rfl⟩) (vR hP hK (rM_12 hK hP)) rfl rfl hl.1 rfl (lv_room (Nat.le_of_ble_eq_true rfl)) dX12_thread_2 ⟨Nat.le_of_ble_eq_true rfl, Nat.le_of_ble_eq_true rfl⟩) (fun r1 hr1 => ?_)
  rcases hr1 with ⟨rfl, fr1⟩ | ⟨rfl, fr1⟩
  · skip
    have i_12_1 : 0 ≤ (iv 12 1).toInt ∧ (iv 12 1).toInt ≤ 10 := hI.1 12 1
    have fr1 : ¬ (0 ≤ (a : Int32).toInt ∧ (a : Int32).toInt < ((iv 12 1) : Int32).toInt) := fr1
    refine lv_if_eq (tgt := 11) hx hb dX12_thread_5 (by decide) (fun c2 => ?_) (fun c2 => ?_)
    · exact absurd c2 (by decide)
    · skip
      refine lv_ldc hx hb hown (ht _ m_1389) dX12_thread_8 ?_
      have hP9 : va_P (dC, dI) classes (WM h g ca iv lv (u2 (u2 fa 12 51 (fa 12 51)) 12 52 (fa 12 52)) la) s.heap := hP
      have hD9 : va_D A (WM h g ca iv lv (u2 (u2 fa 12 51 (fa 12 51)) 12 52 (fa 12 52)) la) := hD
      exact W.iret (v := (-100001)) hx hb hr (fun t ht9 hW => ⟨⟨(-100001), (iv, lv, (u2 (u2 fa 12 51 (fa 12 51)) 12 52 (fa 12 52)), la), rfl, ⟨(fa 12 51), (fa 12 52), (hI.2 12 51), ⟨by decide, by decide⟩, rfl⟩, by rw [ht9]; exact hP9, hD9⟩, hS.F ht9⟩) hS.2.2 dX12_thread_10
  · skip
    have i_12_1 : 0 ≤ (iv 12 1).toInt ∧ (iv 12 1).toInt ≤ 10 := hI.1 12 1
    have fr1 : (0 ≤ (a : Int32).toInt ∧ (a : Int32).toInt < ((iv 12 1) : Int32).toInt) := Decidable.not_not.mp fr1
    refine lv_if_eq (tgt := 11) hx hb dX12_thread_5 (by decide) (fun c3 => ?_) (fun c3 => ?_)
    · skip
      refine lv_iload_n hx hb dX12_thread_11 rfl (lv_at hl 2 rfl) ?_
      refine lv_i2l (v := (b.toInt64)) hx hb dX12_thread_12 rfl ?_
      refine lv_lconst (v := 1) hx hb dX12_thread_13 (by decide) ?_
      refine lv_ldc2 hx hb hown (ht _ m_1369) dX12_thread_14 ?_
      refine vp_callSi (W.runS (As := [.long (b.toInt64), .long 1, .long 999]) (rest := []) ⟨hx, hb, hml, hown, ht⟩ (c_X12_in l dC dI (b.toInt64) 1 999 (b.toInt) (1) (999) ((Int32.toInt_toInt64 b).trans rfl) (by decide : (1 : Int64).toInt = 1) (by decide : (999 : Int64).toInt = 999)) (kS 3 ht m_1370 m_1371 m_89 m_1372 rfl rfl hd_X12_in_v ⟨Nat.le_of_ble_eq_true rfl, Nat.le_of_ble_eq_true rfl⟩) (sR noP (hK.sub (tys' := []) [] rfl)) rfl rfl hl.1 rfl (lv_room (Nat.le_of_ble_eq_true rfl)) dX12_thread_17 ⟨Nat.le_of_ble_eq_true rfl, Nat.le_of_ble_eq_true rfl⟩) (fun r4 hr4 => ?_)
      rcases hr4 with ⟨rfl, fr4⟩ | ⟨rfl, fr4⟩
      · skip
        refine lv_if_ne (tgt := 26) hx hb dX12_thread_20 (by decide) (fun c5 => ?_) (fun c5 => ?_)
        · skip
          refine lv_aload_n hx hb dX12_thread_26 rfl (lv_at hl 0 rfl) ?_
          refine gM_12_51 hx hb ht hown hK hP m_1190 dX12_thread_27 ?_
          refine lv_iload_n hx hb dX12_thread_30 rfl (lv_at hl 1 rfl) ?_
          refine lM_12_51 hx hb hK hP (f := (fa 12 51)) rfl (vp_in_iff.mpr ⟨by omega, by omega⟩) dX12_thread_31 ?_
          refine lv_topi (fun v6 ev6 => ?_)
          have tv6 : 0 ≤ v6.toInt ∧ v6.toInt ≤ 12 := by rw [ev6]; exact hI.2 12 51 _
          refine lv_bipush (v := 12) hx hb dX12_thread_32 (by decide) ?_
          refine lv_icmp_ne (tgt := 40) hx hb dX12_thread_34 (by decide) (fun c7 => ?_) (fun c7 => ?_)
          · have fc7 := z_ne (rfl : (v6).toInt = _) (by decide : (12 : Int32).toInt = 12) c7
            refine lv_aload_n hx hb dX12_thread_40 rfl (lv_at hl 0 rfl) ?_
            refine gM_12_52 hx hb ht hown hK hP m_1191 dX12_thread_41 ?_
            refine lv_bipush (v := 12) hx hb dX12_thread_44 (by decide) ?_
            refine lv_iload_n hx hb dX12_thread_46 rfl (lv_at hl 1 rfl) ?_
            refine lv_imul hx hb dX12_thread_47 ?_
            refine lv_topi (fun v8 ev8 => ?_)
            have tv8 := z_mul ev8 (by decide : (12 : Int32).toInt = 12) (rfl : (a).toInt = _) (by omega) (by omega)
            refine lv_aload_n hx hb dX12_thread_48 rfl (lv_at hl 0 rfl) ?_
            refine gM_12_51 hx hb ht hown hK hP m_1190 dX12_thread_49 ?_
            refine lv_iload_n hx hb dX12_thread_52 rfl (lv_at hl 1 rfl) ?_
            refine lM_12_51 hx hb hK hP (f := (fa 12 51)) rfl (vp_in_iff.mpr ⟨by omega, by omega⟩) dX12_thread_53 ?_
            refine lv_topi (fun v9 ev9 => ?_)
            obtain rfl : v6 = v9 := ev6.trans ev9.symm
            refine lv_iadd hx hb dX12_thread_54 ?_
            refine lv_topi (fun v10 ev10 => ?_)
            have tv10 := z_add ev10 (rfl : (v8).toInt = _) (rfl : (v6).toInt = _) (by omega) (by omega)
            refine lv_iload_n hx hb dX12_thread_55 rfl (lv_at hl 2 rfl) ?_
            refine tM_12_52 hx hb hK hP hD hS (f0 := (fa 12 52)) rfl (i := v10) (x := b) (vp_in_iff.mpr ⟨by omega, by omega⟩) dX12_thread_56 (fun f11 ef11 H locs hP hD hS => ?_)
            have hf11 : ∀ j, inb (bA 12 52 j) (f11 j) := fun j => full_i _
            refine lv_aload_n hx hb dX12_thread_57 rfl (lv_at hl 0 rfl) ?_
            refine gM_12_51 hx hb ht hown hK hP m_1190 dX12_thread_58 ?_
            refine lv_iload_n hx hb dX12_thread_61 rfl (lv_at hl 1 rfl) ?_
            refine lv_dup2_11 hx hb dX12_thread_62 rfl rfl ?_
            refine lM_12_51 hx hb hK hP (f := (fa 12 51)) rfl (vp_in_iff.mpr ⟨by omega, by omega⟩) dX12_thread_63 ?_
            refine lv_topi (fun v12 ev12 => ?_)
            obtain rfl : v6 = v12 := ev6.trans ev12.symm
            refine lv_iconst (v := 1) hx hb dX12_thread_64 (by decide) ?_
            refine lv_iadd hx hb dX12_thread_65 ?_
            refine lv_topi (fun v13 ev13 => ?_)
            have tv13 := z_add ev13 (rfl : (v6).toInt = _) (by decide : (1 : Int32).toInt = 1) (by omega) (by omega)
            refine tM_12_51 hx hb hK hP hD hS (f0 := (fa 12 51)) rfl (i := a) (x := v13) (vp_in_iff.mpr ⟨by omega, by omega⟩) dX12_thread_66 (fun f14 ef14 H locs hP hD hS => ?_)
            have hf14 : ∀ j, inb (bA 12 51 j) (f14 j) := by rw [ef14]; exact upd_b (b := bA 12 51) (hI.2 12 51) (show inb (0, 12) v13 from ⟨by omega, by omega⟩)
            refine lv_aload_n hx hb dX12_thread_67 rfl (lv_at hl 0 rfl) ?_
            refine gM_12_51 hx hb ht hown hK hP m_1190 dX12_thread_68 ?_
            refine lv_iload_n hx hb dX12_thread_71 rfl (lv_at hl 1 rfl) ?_
            refine lM_12_51 hx hb hK hP (f := f14) rfl (vp_in_iff.mpr ⟨by omega, by omega⟩) dX12_thread_72 ?_
            refine lv_topi (fun v15 ev15 => ?_)
            have tv15 : 0 ≤ v15.toInt ∧ v15.toInt ≤ 12 := by rw [ev15]; exact hf14 _
            have hP9 : va_P (dC, dI) classes (WM h g ca iv lv (u2 (u2 fa 12 51 f14) 12 52 f11) la) H := hP
            have hD9 : va_D A (WM h g ca iv lv (u2 (u2 fa 12 51 f14) 12 52 f11) la) := hD
            exact W.iret (v := v15) hx hb hr (fun t ht9 hW => ⟨⟨v15, (iv, lv, (u2 (u2 fa 12 51 f14) 12 52 f11), la), rfl, ⟨f14, f11, hf14, ⟨by omega, by omega⟩, rfl⟩, by rw [ht9]; exact hP9, hD9⟩, hS.F ht9⟩) hS.2.2 dX12_thread_73
          · have fc7 := z_eq (rfl : (v6).toInt = _) (by decide : (12 : Int32).toInt = 12) c7
            refine lv_ldc hx hb hown (ht _ m_1380) dX12_thread_37 ?_
            have hP9 : va_P (dC, dI) classes (WM h g ca iv lv (u2 (u2 fa 12 51 (fa 12 51)) 12 52 (fa 12 52)) la) s.heap := hP
            have hD9 : va_D A (WM h g ca iv lv (u2 (u2 fa 12 51 (fa 12 51)) 12 52 (fa 12 52)) la) := hD
            exact W.iret (v := (-100004)) hx hb hr (fun t ht9 hW => ⟨⟨(-100004), (iv, lv, (u2 (u2 fa 12 51 (fa 12 51)) 12 52 (fa 12 52)), la), rfl, ⟨(fa 12 51), (fa 12 52), (hI.2 12 51), ⟨by decide, by decide⟩, rfl⟩, by rw [ht9]; exact hP9, hD9⟩, hS.F ht9⟩) hS.2.2 dX12_thread_39
        · exact absurd c5 (by decide)
      · skip
        refine lv_if_ne (tgt := 26) hx hb dX12_thread_20 (by decide) (fun c16 => ?_) (fun c16 => ?_)
        · exact absurd rfl c16
        · skip
          refine lv_ldc hx hb hown (ht _ m_1373) dX12_thread_23 ?_
          have hP9 : va_P (dC, dI) classes (WM h g ca iv lv (u2 (u2 fa 12 51 (fa 12 51)) 12 52 (fa 12 52)) la) s.heap := hP
          have hD9 : va_D A (WM h g ca iv lv (u2 (u2 fa 12 51 (fa 12 51)) 12 52 (fa 12 52)) la) := hD
          exact W.iret (v := (-100002)) hx hb hr (fun t ht9 hW => ⟨⟨(-100002), (iv, lv, (u2 (u2 fa 12 51 (fa 12 51)) 12 52 (fa 12 52)), la), rfl, ⟨(fa 12 51), (fa 12 52), (hI.2 12 51), ⟨by decide, by decide⟩, rfl⟩, by rw [ht9]; exact hP9, hD9⟩, hS.F ht9⟩) hS.2.2 dX12_thread_25
    · exact absurd rfl c3
set_option maxHeartbeats 4000000 in
set_option maxRecDepth 100000 in
/-- X12_turns -/
theorem c_X12_turns (l : Launch) (dC : Nat → ClassId) (dI : Nat → Nat → Nat) (sz : Nat) (h : Nat) (g : Nat → Nat → Nat) (ca : Nat → Nat → ClassId) (iv : Nat → Nat → Int32) (lv : Nat → Nat → Int64) (fa : Nat → Nat → Nat → Int32) (la : Nat → Nat → Nat → Int64) (hI : IX iv fa) (a : Int32) (b : Int32) : Met l yX12_turns (wc yX12_turns cX12_turns 3 (some .int)) ({ frames := 2, cells := 0, slots := 0, locals := 46 } : Room) (pW (dC, dI) classes (WM h g ca iv lv fa la) (TM ca) sz [.ref h, .int a, .int b]) (va_Qi (fun r (u : SS) => ∃ (na_12_53 : Nat → Int32) (na_12_54 : Nat → Int32), (∀ j, inb (bA 12 53 j) (na_12_53 j)) ∧ ((-100004) ≤ r.toInt ∧ r.toInt ≤ 8) ∧ u = (iv, lv, (u2 (u2 fa 12 53 na_12_53) 12 54 na_12_54), la)) (bM (dC, dI) h g ca (va_A (WM h g ca iv lv fa la) sz)) (va_A (WM h g ca iv lv fa la) sz)) 0 0 (va_A (WM h g ca iv lv fa la) sz) := by
  refine Met.ofW (cc := cX12_turns) (maxL := 3) (ret := (some .int)) (by decide) rfl ?_
  intro p e s m args below meth c s₁ B hml hv
  obtain ⟨rfl, hsz, hP, hK, hD0⟩ := hv
  have hx := B.exec
  have hb := B.bytes
  have hr := B.returns
  have ht := tb_tl (atoms_spec (ws := wc yX12_turns cX12_turns 3 (some .int)) B.pre)
  have hown : s.vm.findClass RX12 = some m.cls := findClass_of_methodNamed B.named
  have hlocks := B.notSynchronized
  subst hsz
  have hD := hD0.self (sz := s.heap.size)
  generalize hAe : va_A (WM h g ca iv lv fa la) s.heap.size = A at hD ⊢
  have hA : ∀ q : Nat, s.heap.size ≤ q → A q := fun q h => by rw [← hAe]; exact Or.inr h
  have hS : va_S A s.heap s.heap [] := va_S.rf
  have hl := lv_entry [.ref h, .int a, .int b] (n := 3) (Nat.le_of_ble_eq_true rfl)
  rw [lg_entry_eq]
  generalize (lg_sl [.ref h, .int a, .int b] ++ List.replicate (3 - (lg_sl [.ref h, .int a, .int b]).length) Slot.unset).toArray = ls at hl ⊢
  have hl : lv_has ls 3 [(0, .ref h), (1, .int a), (2, .int b)] := hl
  refine lv_aload_n hx hb dX12_turns_0 rfl (lv_at hl 0 rfl) ?_
  refine lv_iload_n hx hb dX12_turns_1 rfl (lv_at hl 1 rfl) ?_
  refine vp_callSi (W.runV (As := [.int a]) (rest := []) ⟨hx, hb, hml, hown, ht⟩ (c_X12_noBale l dC dI h g ca iv lv fa la hI a) (kV 1 ht m_1385 m_1387 m_42 m_89 m_1388 rfl rfl hd_X12_noBale_v ⟨Nat.le_of_ble_eq_true rfl, Nat.le_of_ble_eq_true rfl⟩) (vR hP hK (rM_12 hK hP)) rfl rfl hl.1 rfl (lv_room (Nat.le_of_ble_eq_true rfl)) dX12_turns_2 ⟨Nat.le_of_ble_eq_true rfl, Nat.le_of_ble_eq_true rfl⟩) (fun r1 hr1 => ?_)
  rcases hr1 with ⟨rfl, fr1⟩ | ⟨rfl, fr1⟩
  · skip
    have i_12_1 : 0 ≤ (iv 12 1).toInt ∧ (iv 12 1).toInt ≤ 10 := hI.1 12 1
    have fr1 : ¬ (0 ≤ (a : Int32).toInt ∧ (a : Int32).toInt < ((iv 12 1) : Int32).toInt) := fr1
    refine lv_if_eq (tgt := 11) hx hb dX12_turns_5 (by decide) (fun c2 => ?_) (fun c2 => ?_)
    · exact absurd c2 (by decide)
    · skip
      refine lv_ldc hx hb hown (ht _ m_1389) dX12_turns_8 ?_
      have hP9 : va_P (dC, dI) classes (WM h g ca iv lv (u2 (u2 fa 12 53 (fa 12 53)) 12 54 (fa 12 54)) la) s.heap := hP
      have hD9 : va_D A (WM h g ca iv lv (u2 (u2 fa 12 53 (fa 12 53)) 12 54 (fa 12 54)) la) := hD
      exact W.iret (v := (-100001)) hx hb hr (fun t ht9 hW => ⟨⟨(-100001), (iv, lv, (u2 (u2 fa 12 53 (fa 12 53)) 12 54 (fa 12 54)), la), rfl, ⟨(fa 12 53), (fa 12 54), (hI.2 12 53), ⟨by decide, by decide⟩, rfl⟩, by rw [ht9]; exact hP9, hD9⟩, hS.F ht9⟩) hS.2.2 dX12_turns_10
  · skip
    have i_12_1 : 0 ≤ (iv 12 1).toInt ∧ (iv 12 1).toInt ≤ 10 := hI.1 12 1
    have fr1 : (0 ≤ (a : Int32).toInt ∧ (a : Int32).toInt < ((iv 12 1) : Int32).toInt) := Decidable.not_not.mp fr1
    refine lv_if_eq (tgt := 11) hx hb dX12_turns_5 (by decide) (fun c3 => ?_) (fun c3 => ?_)
    · skip
      refine lv_iload_n hx hb dX12_turns_11 rfl (lv_at hl 2 rfl) ?_
      refine lv_i2l (v := (b.toInt64)) hx hb dX12_turns_12 rfl ?_
      refine lv_lconst (v := 0) hx hb dX12_turns_13 (by decide) ?_
      refine lv_ldc2 hx hb hown (ht _ m_1369) dX12_turns_14 ?_
      refine vp_callSi (W.runS (As := [.long (b.toInt64), .long 0, .long 999]) (rest := []) ⟨hx, hb, hml, hown, ht⟩ (c_X12_in l dC dI (b.toInt64) 0 999 (b.toInt) (0) (999) ((Int32.toInt_toInt64 b).trans rfl) (by decide : (0 : Int64).toInt = 0) (by decide : (999 : Int64).toInt = 999)) (kS 3 ht m_1370 m_1371 m_89 m_1372 rfl rfl hd_X12_in_v ⟨Nat.le_of_ble_eq_true rfl, Nat.le_of_ble_eq_true rfl⟩) (sR noP (hK.sub (tys' := []) [] rfl)) rfl rfl hl.1 rfl (lv_room (Nat.le_of_ble_eq_true rfl)) dX12_turns_17 ⟨Nat.le_of_ble_eq_true rfl, Nat.le_of_ble_eq_true rfl⟩) (fun r4 hr4 => ?_)
      rcases hr4 with ⟨rfl, fr4⟩ | ⟨rfl, fr4⟩
      · skip
        refine lv_if_ne (tgt := 26) hx hb dX12_turns_20 (by decide) (fun c5 => ?_) (fun c5 => ?_)
        · skip
          refine lv_aload_n hx hb dX12_turns_26 rfl (lv_at hl 0 rfl) ?_
          refine gM_12_53 hx hb ht hown hK hP m_1192 dX12_turns_27 ?_
          refine lv_iload_n hx hb dX12_turns_30 rfl (lv_at hl 1 rfl) ?_
          refine lM_12_53 hx hb hK hP (f := (fa 12 53)) rfl (vp_in_iff.mpr ⟨by omega, by omega⟩) dX12_turns_31 ?_
          refine lv_topi (fun v6 ev6 => ?_)
          have tv6 : 0 ≤ v6.toInt ∧ v6.toInt ≤ 8 := by rw [ev6]; exact hI.2 12 53 _
          refine lv_bipush (v := 8) hx hb dX12_turns_32 (by decide) ?_
          refine lv_icmp_ne (tgt := 40) hx hb dX12_turns_34 (by decide) (fun c7 => ?_) (fun c7 => ?_)
          · have fc7 := z_ne (rfl : (v6).toInt = _) (by decide : (8 : Int32).toInt = 8) c7
            refine lv_aload_n hx hb dX12_turns_40 rfl (lv_at hl 0 rfl) ?_
            refine gM_12_54 hx hb ht hown hK hP m_1193 dX12_turns_41 ?_
            refine lv_bipush (v := 8) hx hb dX12_turns_44 (by decide) ?_
            refine lv_iload_n hx hb dX12_turns_46 rfl (lv_at hl 1 rfl) ?_
            refine lv_imul hx hb dX12_turns_47 ?_
            refine lv_topi (fun v8 ev8 => ?_)
            have tv8 := z_mul ev8 (by decide : (8 : Int32).toInt = 8) (rfl : (a).toInt = _) (by omega) (by omega)
            refine lv_aload_n hx hb dX12_turns_48 rfl (lv_at hl 0 rfl) ?_
            refine gM_12_53 hx hb ht hown hK hP m_1192 dX12_turns_49 ?_
            refine lv_iload_n hx hb dX12_turns_52 rfl (lv_at hl 1 rfl) ?_
            refine lM_12_53 hx hb hK hP (f := (fa 12 53)) rfl (vp_in_iff.mpr ⟨by omega, by omega⟩) dX12_turns_53 ?_
            refine lv_topi (fun v9 ev9 => ?_)
            obtain rfl : v6 = v9 := ev6.trans ev9.symm
            refine lv_iadd hx hb dX12_turns_54 ?_
            refine lv_topi (fun v10 ev10 => ?_)
            have tv10 := z_add ev10 (rfl : (v8).toInt = _) (rfl : (v6).toInt = _) (by omega) (by omega)
            refine lv_iload_n hx hb dX12_turns_55 rfl (lv_at hl 2 rfl) ?_
            refine tM_12_54 hx hb hK hP hD hS (f0 := (fa 12 54)) rfl (i := v10) (x := b) (vp_in_iff.mpr ⟨by omega, by omega⟩) dX12_turns_56 (fun f11 ef11 H locs hP hD hS => ?_)
            have hf11 : ∀ j, inb (bA 12 54 j) (f11 j) := fun j => full_i _
            refine lv_aload_n hx hb dX12_turns_57 rfl (lv_at hl 0 rfl) ?_
            refine gM_12_53 hx hb ht hown hK hP m_1192 dX12_turns_58 ?_
            refine lv_iload_n hx hb dX12_turns_61 rfl (lv_at hl 1 rfl) ?_
            refine lv_dup2_11 hx hb dX12_turns_62 rfl rfl ?_
            refine lM_12_53 hx hb hK hP (f := (fa 12 53)) rfl (vp_in_iff.mpr ⟨by omega, by omega⟩) dX12_turns_63 ?_
            refine lv_topi (fun v12 ev12 => ?_)
            obtain rfl : v6 = v12 := ev6.trans ev12.symm
            refine lv_iconst (v := 1) hx hb dX12_turns_64 (by decide) ?_
            refine lv_iadd hx hb dX12_turns_65 ?_
            refine lv_topi (fun v13 ev13 => ?_)
            have tv13 := z_add ev13 (rfl : (v6).toInt = _) (by decide : (1 : Int32).toInt = 1) (by omega) (by omega)
            refine tM_12_53 hx hb hK hP hD hS (f0 := (fa 12 53)) rfl (i := a) (x := v13) (vp_in_iff.mpr ⟨by omega, by omega⟩) dX12_turns_66 (fun f14 ef14 H locs hP hD hS => ?_)
            have hf14 : ∀ j, inb (bA 12 53 j) (f14 j) := by rw [ef14]; exact upd_b (b := bA 12 53) (hI.2 12 53) (show inb (0, 8) v13 from ⟨by omega, by omega⟩)
            refine lv_aload_n hx hb dX12_turns_67 rfl (lv_at hl 0 rfl) ?_
            refine gM_12_53 hx hb ht hown hK hP m_1192 dX12_turns_68 ?_
            refine lv_iload_n hx hb dX12_turns_71 rfl (lv_at hl 1 rfl) ?_
            refine lM_12_53 hx hb hK hP (f := f14) rfl (vp_in_iff.mpr ⟨by omega, by omega⟩) dX12_turns_72 ?_
            refine lv_topi (fun v15 ev15 => ?_)
            have tv15 : 0 ≤ v15.toInt ∧ v15.toInt ≤ 8 := by rw [ev15]; exact hf14 _
            have hP9 : va_P (dC, dI) classes (WM h g ca iv lv (u2 (u2 fa 12 53 f14) 12 54 f11) la) H := hP
            have hD9 : va_D A (WM h g ca iv lv (u2 (u2 fa 12 53 f14) 12 54 f11) la) := hD
            exact W.iret (v := v15) hx hb hr (fun t ht9 hW => ⟨⟨v15, (iv, lv, (u2 (u2 fa 12 53 f14) 12 54 f11), la), rfl, ⟨f14, f11, hf14, ⟨by omega, by omega⟩, rfl⟩, by rw [ht9]; exact hP9, hD9⟩, hS.F ht9⟩) hS.2.2 dX12_turns_73
          · have fc7 := z_eq (rfl : (v6).toInt = _) (by decide : (8 : Int32).toInt = 8) c7
            refine lv_ldc hx hb hown (ht _ m_1380) dX12_turns_37 ?_
            have hP9 : va_P (dC, dI) classes (WM h g ca iv lv (u2 (u2 fa 12 53 (fa 12 53)) 12 54 (fa 12 54)) la) s.heap := hP
            have hD9 : va_D A (WM h g ca iv lv (u2 (u2 fa 12 53 (fa 12 53)) 12 54 (fa 12 54)) la) := hD
            exact W.iret (v := (-100004)) hx hb hr (fun t ht9 hW => ⟨⟨(-100004), (iv, lv, (u2 (u2 fa 12 53 (fa 12 53)) 12 54 (fa 12 54)), la), rfl, ⟨(fa 12 53), (fa 12 54), (hI.2 12 53), ⟨by decide, by decide⟩, rfl⟩, by rw [ht9]; exact hP9, hD9⟩, hS.F ht9⟩) hS.2.2 dX12_turns_39
        · exact absurd c5 (by decide)
      · skip
        refine lv_if_ne (tgt := 26) hx hb dX12_turns_20 (by decide) (fun c16 => ?_) (fun c16 => ?_)
        · exact absurd rfl c16
        · skip
          refine lv_ldc hx hb hown (ht _ m_1373) dX12_turns_23 ?_
          have hP9 : va_P (dC, dI) classes (WM h g ca iv lv (u2 (u2 fa 12 53 (fa 12 53)) 12 54 (fa 12 54)) la) s.heap := hP
          have hD9 : va_D A (WM h g ca iv lv (u2 (u2 fa 12 53 (fa 12 53)) 12 54 (fa 12 54)) la) := hD
          exact W.iret (v := (-100002)) hx hb hr (fun t ht9 hW => ⟨⟨(-100002), (iv, lv, (u2 (u2 fa 12 53 (fa 12 53)) 12 54 (fa 12 54)), la), rfl, ⟨(fa 12 53), (fa 12 54), (hI.2 12 53), ⟨by decide, by decide⟩, rfl⟩, by rw [ht9]; exact hP9, hD9⟩, hS.F ht9⟩) hS.2.2 dX12_turns_25
    · exact absurd rfl c3
set_option maxHeartbeats 4000000 in
set_option maxRecDepth 100000 in
/-- X12_twist -/
theorem c_X12_twist (l : Launch) (dC : Nat → ClassId) (dI : Nat → Nat → Nat) (h : Nat) (g : Nat → Nat → Nat) (ca : Nat → Nat → ClassId) (iv : Nat → Nat → Int32) (lv : Nat → Nat → Int64) (fa : Nat → Nat → Nat → Int32) (la : Nat → Nat → Nat → Int64) (hI : IX iv fa) (a : Int32) : Met l yX12_twist (wc yX12_twist cX12_twist 8 (some .int)) ({ frames := 2, cells := 0, slots := 0, locals := 46 } : Room) (pR (dC, dI) classes (WM h g ca iv lv fa la) (TM ca) [.ref h, .int a]) (vp_Si (fun r => True)) 0 0 (fun _ => False) := by
  refine Met.ofW (cc := cX12_twist) (maxL := 8) (ret := (some .int)) (by decide) rfl ?_
  intro p e s m args below meth c s₁ B hml hv
  obtain ⟨rfl, hP, hK⟩ := hv
  have hx := B.exec
  have hb := B.bytes
  have hr := B.returns
  have ht := tb_tl (atoms_spec (ws := wc yX12_twist cX12_twist 8 (some .int)) B.pre)
  have hown : s.vm.findClass RX12 = some m.cls := findClass_of_methodNamed B.named
  have hlocks := B.notSynchronized
  have hl := lv_entry [.ref h, .int a] (n := 8) (Nat.le_of_ble_eq_true rfl)
  rw [lg_entry_eq]
  generalize (lg_sl [.ref h, .int a] ++ List.replicate (8 - (lg_sl [.ref h, .int a]).length) Slot.unset).toArray = ls at hl ⊢
  have hl : lv_has ls 8 [(0, .ref h), (1, .int a)] := hl
  refine lv_aload_n hx hb dX12_twist_0 rfl (lv_at hl 0 rfl) ?_
  refine lv_iload_n hx hb dX12_twist_1 rfl (lv_at hl 1 rfl) ?_
  refine vp_callSi (W.runV (As := [.int a]) (rest := []) ⟨hx, hb, hml, hown, ht⟩ (c_X12_noBale l dC dI h g ca iv lv fa la hI a) (kV 1 ht m_1385 m_1387 m_42 m_89 m_1388 rfl rfl hd_X12_noBale_v ⟨Nat.le_of_ble_eq_true rfl, Nat.le_of_ble_eq_true rfl⟩) (vR hP hK (rM_12 hK hP)) rfl rfl hl.1 rfl (lv_room (Nat.le_of_ble_eq_true rfl)) dX12_twist_2 ⟨Nat.le_of_ble_eq_true rfl, Nat.le_of_ble_eq_true rfl⟩) (fun r1 hr1 => ?_)
  rcases hr1 with ⟨rfl, fr1⟩ | ⟨rfl, fr1⟩
  · skip
    have i_12_1 : 0 ≤ (iv 12 1).toInt ∧ (iv 12 1).toInt ≤ 10 := hI.1 12 1
    have fr1 : ¬ (0 ≤ (a : Int32).toInt ∧ (a : Int32).toInt < ((iv 12 1) : Int32).toInt) := fr1
    refine lv_if_eq (tgt := 11) hx hb dX12_twist_5 (by decide) (fun c2 => ?_) (fun c2 => ?_)
    · exact absurd c2 (by decide)
    · skip
      refine lv_ldc hx hb hown (ht _ m_1389) dX12_twist_8 ?_
      exact W.iret (v := (-100001)) hx hb hr (fun t ht9 hW => ⟨(-100001), rfl, trivial, ht9⟩) (fun q hq => by cases hq) dX12_twist_10
  · skip
    have i_12_1 : 0 ≤ (iv 12 1).toInt ∧ (iv 12 1).toInt ≤ 10 := hI.1 12 1
    have fr1 : (0 ≤ (a : Int32).toInt ∧ (a : Int32).toInt < ((iv 12 1) : Int32).toInt) := Decidable.not_not.mp fr1
    refine lv_if_eq (tgt := 11) hx hb dX12_twist_5 (by decide) (fun c3 => ?_) (fun c3 => ?_)
    · skip
      refine lv_aload_n hx hb dX12_twist_11 rfl (lv_at hl 0 rfl) ?_
      refine gM_12_53 hx hb ht hown hK hP m_1192 dX12_twist_12 ?_
      refine lv_iload_n hx hb dX12_twist_15 rfl (lv_at hl 1 rfl) ?_
      refine lM_12_53 hx hb hK hP (f := (fa 12 53)) rfl (vp_in_iff.mpr ⟨by omega, by omega⟩) dX12_twist_16 ?_
      refine lv_topi (fun v4 ev4 => ?_)
      have tv4 : 0 ≤ v4.toInt ∧ v4.toInt ≤ 8 := by rw [ev4]; exact hI.2 12 53 _
      refine lv_istore_n (lv' := [(2, .int v4), (0, .ref h), (1, .int a)]) hx hb dX12_twist_17 rfl hl (by decide) rfl (fun ls hl => ?_)
      refine lv_iconst (v := 0) hx hb dX12_twist_18 (by decide) ?_
      refine lv_istore_n (lv' := [(3, .int 0), (2, .int v4), (0, .ref h), (1, .int a)]) hx hb dX12_twist_19 rfl hl (by decide) rfl (fun ls hl => ?_)
      have lp11313 : ∀ (nn11313 : Nat) (x11312_3 : Int32), 0 ≤ x11312_3.toInt ∧ x11312_3.toInt ≤ 8 → 8 - x11312_3.toInt < (nn11313 : Int) → ∀ (ls : Array Slot), lv_has ls 8 [(3, .int x11312_3), (2, .int v4), (0, .ref h), (1, .int a)] → W p l e ({ frames := 2, cells := 0, slots := 0, locals := 46 } : Room) s m ([.ref h, .int a] : List Value).toArray below meth c s.heap [] 0 0 (MQ below (vp_Si (fun r => True)) ([.ref h, .int a] : List Value).toArray s 0 0 (fun _ => False)) (F0 m 20 ls []) := by
        intro nn11313
        induction nn11313 with
        | zero => intro x11312_3 hx11312_3 hm11313; exfalso; omega
        | succ nn11313 ih11313 =>
          intro x11312_3 hx11312_3 hm11313 ls hl
          refine lv_iload_n hx hb dX12_twist_20 rfl (lv_at hl 0 rfl) ?_
          refine lv_iload_n hx hb dX12_twist_21 rfl (lv_at hl 1 rfl) ?_
          refine lv_icmp_ge (tgt := 122) hx hb dX12_twist_22 (by decide) (fun c11314 => ?_) (fun c11314 => ?_)
          · have fc11314 := z_le (rfl : (v4).toInt = _) (rfl : (x11312_3).toInt = _) c11314
            refine lv_iconst (v := (-1)) hx hb dX12_twist_122 (by decide) ?_
            exact W.iret (v := (-1)) hx hb hr (fun t ht9 hW => ⟨(-1), rfl, trivial, ht9⟩) (fun q hq => by cases hq) dX12_twist_123
          · have fc11314 := z_nle (rfl : (v4).toInt = _) (rfl : (x11312_3).toInt = _) c11314
            refine lv_aload_n hx hb dX12_twist_25 rfl (lv_at hl 2 rfl) ?_
            refine gM_12_54 hx hb ht hown hK hP m_1193 dX12_twist_26 ?_
            refine lv_bipush (v := 8) hx hb dX12_twist_29 (by decide) ?_
            refine lv_iload_n hx hb dX12_twist_31 rfl (lv_at hl 3 rfl) ?_
            refine lv_imul hx hb dX12_twist_32 ?_
            refine lv_topi (fun v11315 ev11315 => ?_)
            have tv11315 := z_mul ev11315 (by decide : (8 : Int32).toInt = 8) (rfl : (a).toInt = _) (by omega) (by omega)
            refine lv_iload_n hx hb dX12_twist_33 rfl (lv_at hl 0 rfl) ?_
            refine lv_iadd hx hb dX12_twist_34 ?_
            refine lv_topi (fun v11316 ev11316 => ?_)
            have tv11316 := z_add ev11316 (rfl : (v11315).toInt = _) (rfl : (x11312_3).toInt = _) (by omega) (by omega)
            refine lM_12_54 hx hb hK hP (f := (fa 12 54)) rfl (vp_in_iff.mpr ⟨by omega, by omega⟩) dX12_twist_35 ?_
            refine lv_topi (fun v11317 ev11317 => ?_)
            refine lv_istore (lv' := [(4, .int v11317), (3, .int x11312_3), (2, .int v4), (0, .ref h), (1, .int a)]) hx hb dX12_twist_36 hl (by decide) rfl (fun ls hl => ?_)
            refine lv_iconst (v := 0) hx hb dX12_twist_38 (by decide) ?_
            refine lv_istore (lv' := [(5, .int 0), (4, .int v11317), (3, .int x11312_3), (2, .int v4), (0, .ref h), (1, .int a)]) hx hb dX12_twist_39 hl (by decide) rfl (fun ls hl => ?_)
            refine lv_iconst (v := 0) hx hb dX12_twist_41 (by decide) ?_
            refine lv_istore (lv' := [(6, .int 0), (5, .int 0), (4, .int v11317), (3, .int x11312_3), (2, .int v4), (0, .ref h), (1, .int a)]) hx hb dX12_twist_42 hl (by decide) rfl (fun ls hl => ?_)
            have lp12563 : ∀ (nn12563 : Nat) (x12562_6 : Int32) (x12562_5 : Int32), 0 ≤ x12562_6.toInt ∧ x12562_6.toInt ≤ 8 → 8 - x12562_6.toInt < (nn12563 : Int) → ∀ (ls : Array Slot), lv_has ls 8 [(6, .int x12562_6), (5, .int x12562_5), (4, .int v11317), (3, .int x11312_3), (2, .int v4), (0, .ref h), (1, .int a)] → W p l e ({ frames := 2, cells := 0, slots := 0, locals := 46 } : Room) s m ([.ref h, .int a] : List Value).toArray below meth c s.heap [] 0 0 (MQ below (vp_Si (fun r => True)) ([.ref h, .int a] : List Value).toArray s 0 0 (fun _ => False)) (F0 m 44 ls []) := by
              intro nn12563
              induction nn12563 with
              | zero => intro x12562_6 x12562_5 hx12562_6 hm12563; exfalso; omega
              | succ nn12563 ih12563 =>
                intro x12562_6 x12562_5 hx12562_6 hm12563 ls hl
                refine lv_iload hx hb dX12_twist_44 (lv_at hl 0 rfl) ?_
                refine lv_iload_n hx hb dX12_twist_46 rfl (lv_at hl 4 rfl) ?_
                refine lv_icmp_ge (tgt := 103) hx hb dX12_twist_47 (by decide) (fun c12564 => ?_) (fun c12564 => ?_)
                · have fc12564 := z_le (rfl : (v4).toInt = _) (rfl : (x12562_6).toInt = _) c12564
                  refine lv_iload hx hb dX12_twist_103 (lv_at hl 1 rfl) ?_
                  refine lv_iload_n hx hb dX12_twist_105 rfl (lv_at hl 4 rfl) ?_
                  refine lv_iconst (v := 1) hx hb dX12_twist_106 (by decide) ?_
                  refine lv_isub hx hb dX12_twist_107 ?_
                  refine lv_topi (fun v12565 ev12565 => ?_)
                  have tv12565 := z_sub ev12565 (rfl : (v4).toInt = _) (by decide : (1 : Int32).toInt = 1) (by omega) (by omega)
                  refine lv_iconst (v := 2) hx hb dX12_twist_108 (by decide) ?_
                  refine lv_idiv hx hb dX12_twist_109 (by decide) ?_
                  refine lv_topi (fun v12566 ev12566 => ?_)
                  have tv12566 := z_divp ev12566 (rfl : (v12565).toInt = _) (by decide : (2 : Int32).toInt = 2) (by omega) (by omega)
                  refine lv_icmp_ne (tgt := 116) hx hb dX12_twist_110 (by decide) (fun c12567 => ?_) (fun c12567 => ?_)
                  · have fc12567 := z_ne (rfl : (x12562_5).toInt = _) (rfl : (v12566).toInt = _) c12567
                    obtain ⟨v12568, ev12568⟩ : ∃ y : Int32, y = x11312_3 + 1 := ⟨_, rfl⟩
                    have tv12568 := z_add ev12568 rfl (by decide : (1 : Int32).toInt = 1) (by omega) (by omega)
                    refine lv_iinc (v := v12568) (lv' := [(3, .int v12568), (6, .int x12562_6), (5, .int x12562_5), (4, .int v11317), (2, .int v4), (0, .ref h), (1, .int a)]) hx hb dX12_twist_116 hl (k := 3) rfl (by rw [ev12568]; rfl) (by decide) rfl (fun ls hl => ?_)
                    refine lv_goto (tgt := 20) hx hb dX12_twist_119 (by decide) ?_
                    exact ih11313 v12568 ⟨by omega, by omega⟩ (by omega) ls (lv_sub hl [0, 4, 5, 6] rfl)
                  · have fc12567 := z_eq (rfl : (x12562_5).toInt = _) (rfl : (v12566).toInt = _) c12567
                    refine lv_iload hx hb dX12_twist_113 (lv_at hl 2 rfl) ?_
                    exact W.iret (v := v11317) hx hb hr (fun t ht9 hW => ⟨v11317, rfl, trivial, ht9⟩) (fun q hq => by cases hq) dX12_twist_115
                · have fc12564 := z_nle (rfl : (v4).toInt = _) (rfl : (x12562_6).toInt = _) c12564
                  refine lv_aload_n hx hb dX12_twist_50 rfl (lv_at hl 5 rfl) ?_
                  refine gM_12_54 hx hb ht hown hK hP m_1193 dX12_twist_51 ?_
                  refine lv_bipush (v := 8) hx hb dX12_twist_54 (by decide) ?_
                  refine lv_iload_n hx hb dX12_twist_56 rfl (lv_at hl 6 rfl) ?_
                  refine lv_imul hx hb dX12_twist_57 ?_
                  refine lv_topi (fun v12569 ev12569 => ?_)
                  obtain rfl : v11315 = v12569 := ev11315.trans ev12569.symm
                  refine lv_iload hx hb dX12_twist_58 (lv_at hl 0 rfl) ?_
                  refine lv_iadd hx hb dX12_twist_60 ?_
                  refine lv_topi (fun v12570 ev12570 => ?_)
                  have tv12570 := z_add ev12570 (rfl : (v11315).toInt = _) (rfl : (x12562_6).toInt = _) (by omega) (by omega)
                  refine lM_12_54 hx hb hK hP (f := (fa 12 54)) rfl (vp_in_iff.mpr ⟨by omega, by omega⟩) dX12_twist_61 ?_
                  refine lv_topi (fun v12571 ev12571 => ?_)
                  refine lv_istore (lv' := [(7, .int v12571), (6, .int x12562_6), (5, .int x12562_5), (4, .int v11317), (3, .int x11312_3), (2, .int v4), (0, .ref h), (1, .int a)]) hx hb dX12_twist_62 hl (by decide) rfl (fun ls hl => ?_)
                  refine lv_iload hx hb dX12_twist_64 (lv_at hl 2 rfl) ?_
                  refine lv_iload hx hb dX12_twist_66 (lv_at hl 0 rfl) ?_
                  refine lv_iload hx hb dX12_twist_68 (lv_at hl 3 rfl) ?_
                  refine lv_icmp_lt (tgt := 86) hx hb dX12_twist_70 (by decide) (fun c12572 => ?_) (fun c12572 => ?_)
                  · have fc12572 := z_lt (rfl : (v12571).toInt = _) (rfl : (v11317).toInt = _) c12572
                    refine lv_iconst (v := 1) hx hb dX12_twist_86 (by decide) ?_
                    refine lv_goto (tgt := 91) hx hb dX12_twist_87 (by decide) ?_
                    refine vp_callSi (W.runS (As := [.int 1]) (rest := [.int x12562_5]) ⟨hx, hb, hml, hown, ht⟩ (c_X12_bit l dC dI 1 ⟨by decide, by decide⟩) (kS 1 ht m_1396 m_1397 m_89 m_1398 rfl rfl hd_X12_bit_v ⟨Nat.le_of_ble_eq_true rfl, Nat.le_of_ble_eq_true rfl⟩) (sR noP (hK.sub (tys' := []) [] rfl)) rfl rfl hl.1 rfl (lv_room (Nat.le_of_ble_eq_true rfl)) dX12_twist_91 ⟨Nat.le_of_ble_eq_true rfl, Nat.le_of_ble_eq_true rfl⟩) (fun r12573 hr12573 => ?_)
                    refine lv_iadd hx hb dX12_twist_94 ?_
                    refine lv_topi (fun v12574 ev12574 => ?_)
                    refine lv_istore (lv' := [(5, .int v12574), (7, .int v12571), (6, .int x12562_6), (4, .int v11317), (3, .int x11312_3), (2, .int v4), (0, .ref h), (1, .int a)]) hx hb dX12_twist_95 hl (by decide) rfl (fun ls hl => ?_)
                    obtain ⟨v12575, ev12575⟩ : ∃ y : Int32, y = x12562_6 + 1 := ⟨_, rfl⟩
                    have tv12575 := z_add ev12575 rfl (by decide : (1 : Int32).toInt = 1) (by omega) (by omega)
                    refine lv_iinc (v := v12575) (lv' := [(6, .int v12575), (5, .int v12574), (7, .int v12571), (4, .int v11317), (3, .int x11312_3), (2, .int v4), (0, .ref h), (1, .int a)]) hx hb dX12_twist_97 hl (k := 2) rfl (by rw [ev12575]; rfl) (by decide) rfl (fun ls hl => ?_)
                    refine lv_goto (tgt := 44) hx hb dX12_twist_100 (by decide) ?_
                    exact ih12563 v12575 v12574 ⟨by omega, by omega⟩ (by omega) ls (lv_sub hl [0, 1, 3, 4, 5, 6, 7] rfl)
                  · have fc12572 := z_nlt (rfl : (v12571).toInt = _) (rfl : (v11317).toInt = _) c12572
                    refine lv_iload hx hb dX12_twist_73 (lv_at hl 0 rfl) ?_
                    refine lv_iload hx hb dX12_twist_75 (lv_at hl 3 rfl) ?_
                    refine lv_icmp_ne (tgt := 90) hx hb dX12_twist_77 (by decide) (fun c12576 => ?_) (fun c12576 => ?_)
                    · have fc12576 := z_ne (rfl : (v12571).toInt = _) (rfl : (v11317).toInt = _) c12576
                      refine lv_iconst (v := 0) hx hb dX12_twist_90 (by decide) ?_
                      refine vp_callSi (W.runS (As := [.int 0]) (rest := [.int x12562_5]) ⟨hx, hb, hml, hown, ht⟩ (c_X12_bit l dC dI 0 ⟨by decide, by decide⟩) (kS 1 ht m_1396 m_1397 m_89 m_1398 rfl rfl hd_X12_bit_v ⟨Nat.le_of_ble_eq_true rfl, Nat.le_of_ble_eq_true rfl⟩) (sR noP (hK.sub (tys' := []) [] rfl)) rfl rfl hl.1 rfl (lv_room (Nat.le_of_ble_eq_true rfl)) dX12_twist_91 ⟨Nat.le_of_ble_eq_true rfl, Nat.le_of_ble_eq_true rfl⟩) (fun r12577 hr12577 => ?_)
                      refine lv_iadd hx hb dX12_twist_94 ?_
                      refine lv_topi (fun v12578 ev12578 => ?_)
                      refine lv_istore (lv' := [(5, .int v12578), (7, .int v12571), (6, .int x12562_6), (4, .int v11317), (3, .int x11312_3), (2, .int v4), (0, .ref h), (1, .int a)]) hx hb dX12_twist_95 hl (by decide) rfl (fun ls hl => ?_)
                      obtain ⟨v12579, ev12579⟩ : ∃ y : Int32, y = x12562_6 + 1 := ⟨_, rfl⟩
                      have tv12579 := z_add ev12579 rfl (by decide : (1 : Int32).toInt = 1) (by omega) (by omega)
                      refine lv_iinc (v := v12579) (lv' := [(6, .int v12579), (5, .int v12578), (7, .int v12571), (4, .int v11317), (3, .int x11312_3), (2, .int v4), (0, .ref h), (1, .int a)]) hx hb dX12_twist_97 hl (k := 2) rfl (by rw [ev12579]; rfl) (by decide) rfl (fun ls hl => ?_)
                      refine lv_goto (tgt := 44) hx hb dX12_twist_100 (by decide) ?_
                      exact ih12563 v12579 v12578 ⟨by omega, by omega⟩ (by omega) ls (lv_sub hl [0, 1, 3, 4, 5, 6, 7] rfl)
                    · have fc12576 := z_eq (rfl : (v12571).toInt = _) (rfl : (v11317).toInt = _) c12576
                      refine lv_iload hx hb dX12_twist_80 (lv_at hl 1 rfl) ?_
                      refine lv_iload_n hx hb dX12_twist_82 rfl (lv_at hl 4 rfl) ?_
                      refine lv_icmp_ge (tgt := 90) hx hb dX12_twist_83 (by decide) (fun c12580 => ?_) (fun c12580 => ?_)
                      · have fc12580 := z_le (rfl : (x11312_3).toInt = _) (rfl : (x12562_6).toInt = _) c12580
                        refine lv_iconst (v := 0) hx hb dX12_twist_90 (by decide) ?_
                        refine vp_callSi (W.runS (As := [.int 0]) (rest := [.int x12562_5]) ⟨hx, hb, hml, hown, ht⟩ (c_X12_bit l dC dI 0 ⟨by decide, by decide⟩) (kS 1 ht m_1396 m_1397 m_89 m_1398 rfl rfl hd_X12_bit_v ⟨Nat.le_of_ble_eq_true rfl, Nat.le_of_ble_eq_true rfl⟩) (sR noP (hK.sub (tys' := []) [] rfl)) rfl rfl hl.1 rfl (lv_room (Nat.le_of_ble_eq_true rfl)) dX12_twist_91 ⟨Nat.le_of_ble_eq_true rfl, Nat.le_of_ble_eq_true rfl⟩) (fun r12581 hr12581 => ?_)
                        refine lv_iadd hx hb dX12_twist_94 ?_
                        refine lv_topi (fun v12582 ev12582 => ?_)
                        refine lv_istore (lv' := [(5, .int v12582), (7, .int v12571), (6, .int x12562_6), (4, .int v11317), (3, .int x11312_3), (2, .int v4), (0, .ref h), (1, .int a)]) hx hb dX12_twist_95 hl (by decide) rfl (fun ls hl => ?_)
                        obtain ⟨v12583, ev12583⟩ : ∃ y : Int32, y = x12562_6 + 1 := ⟨_, rfl⟩
                        have tv12583 := z_add ev12583 rfl (by decide : (1 : Int32).toInt = 1) (by omega) (by omega)
                        refine lv_iinc (v := v12583) (lv' := [(6, .int v12583), (5, .int v12582), (7, .int v12571), (4, .int v11317), (3, .int x11312_3), (2, .int v4), (0, .ref h), (1, .int a)]) hx hb dX12_twist_97 hl (k := 2) rfl (by rw [ev12583]; rfl) (by decide) rfl (fun ls hl => ?_)
                        refine lv_goto (tgt := 44) hx hb dX12_twist_100 (by decide) ?_
                        exact ih12563 v12583 v12582 ⟨by omega, by omega⟩ (by omega) ls (lv_sub hl [0, 1, 3, 4, 5, 6, 7] rfl)
                      · have fc12580 := z_nle (rfl : (x11312_3).toInt = _) (rfl : (x12562_6).toInt = _) c12580
                        refine lv_iconst (v := 1) hx hb dX12_twist_86 (by decide) ?_
                        refine lv_goto (tgt := 91) hx hb dX12_twist_87 (by decide) ?_
                        refine vp_callSi (W.runS (As := [.int 1]) (rest := [.int x12562_5]) ⟨hx, hb, hml, hown, ht⟩ (c_X12_bit l dC dI 1 ⟨by decide, by decide⟩) (kS 1 ht m_1396 m_1397 m_89 m_1398 rfl rfl hd_X12_bit_v ⟨Nat.le_of_ble_eq_true rfl, Nat.le_of_ble_eq_true rfl⟩) (sR noP (hK.sub (tys' := []) [] rfl)) rfl rfl hl.1 rfl (lv_room (Nat.le_of_ble_eq_true rfl)) dX12_twist_91 ⟨Nat.le_of_ble_eq_true rfl, Nat.le_of_ble_eq_true rfl⟩) (fun r12584 hr12584 => ?_)
                        refine lv_iadd hx hb dX12_twist_94 ?_
                        refine lv_topi (fun v12585 ev12585 => ?_)
                        refine lv_istore (lv' := [(5, .int v12585), (7, .int v12571), (6, .int x12562_6), (4, .int v11317), (3, .int x11312_3), (2, .int v4), (0, .ref h), (1, .int a)]) hx hb dX12_twist_95 hl (by decide) rfl (fun ls hl => ?_)
                        obtain ⟨v12586, ev12586⟩ : ∃ y : Int32, y = x12562_6 + 1 := ⟨_, rfl⟩
                        have tv12586 := z_add ev12586 rfl (by decide : (1 : Int32).toInt = 1) (by omega) (by omega)
                        refine lv_iinc (v := v12586) (lv' := [(6, .int v12586), (5, .int v12585), (7, .int v12571), (4, .int v11317), (3, .int x11312_3), (2, .int v4), (0, .ref h), (1, .int a)]) hx hb dX12_twist_97 hl (k := 2) rfl (by rw [ev12586]; rfl) (by decide) rfl (fun ls hl => ?_)
                        refine lv_goto (tgt := 44) hx hb dX12_twist_100 (by decide) ?_
                        exact ih12563 v12586 v12585 ⟨by omega, by omega⟩ (by omega) ls (lv_sub hl [0, 1, 3, 4, 5, 6, 7] rfl)
            exact lp12563 9 0 0 ⟨by decide, by decide⟩ (by first | decide | omega) ls (lv_sub hl [0, 1, 2, 3, 4, 5, 6] rfl)
      exact lp11313 9 0 ⟨by decide, by decide⟩ (by first | decide | omega) ls (lv_sub hl [0, 1, 2, 3] rfl)
    · exact absurd rfl c3
set_option maxHeartbeats 4000000 in
set_option maxRecDepth 100000 in
/-- X12_burnt -/
theorem c_X12_burnt (l : Launch) (dC : Nat → ClassId) (dI : Nat → Nat → Nat) (sz : Nat) (h : Nat) (g : Nat → Nat → Nat) (ca : Nat → Nat → ClassId) (iv : Nat → Nat → Int32) (lv : Nat → Nat → Int64) (fa : Nat → Nat → Nat → Int32) (la : Nat → Nat → Nat → Int64) (hI : IX iv fa) (a : Int32) (b : Int32) (d : Int32) (k : Int32) : Met l yX12_burnt (wc yX12_burnt cX12_burnt 5 (some .int)) ({ frames := 2, cells := 0, slots := 0, locals := 46 } : Room) (pW (dC, dI) classes (WM h g ca iv lv fa la) (TM ca) sz [.ref h, .int a, .int b, .int d, .int k]) (va_Qi (fun r (u : SS) => ∃ (na_12_55 : Nat → Int32) (na_12_56 : Nat → Int32), ((-100002) ≤ r.toInt ∧ r.toInt ≤ 1) ∧ u = (iv, lv, (u2 (u2 fa 12 55 na_12_55) 12 56 na_12_56), la)) (bM (dC, dI) h g ca (va_A (WM h g ca iv lv fa la) sz)) (va_A (WM h g ca iv lv fa la) sz)) 0 0 (va_A (WM h g ca iv lv fa la) sz) := by
  refine Met.ofW (cc := cX12_burnt) (maxL := 5) (ret := (some .int)) (by decide) rfl ?_
  intro p e s m args below meth c s₁ B hml hv
  obtain ⟨rfl, hsz, hP, hK, hD0⟩ := hv
  have hx := B.exec
  have hb := B.bytes
  have hr := B.returns
  have ht := tb_tl (atoms_spec (ws := wc yX12_burnt cX12_burnt 5 (some .int)) B.pre)
  have hown : s.vm.findClass RX12 = some m.cls := findClass_of_methodNamed B.named
  have hlocks := B.notSynchronized
  subst hsz
  have hD := hD0.self (sz := s.heap.size)
  generalize hAe : va_A (WM h g ca iv lv fa la) s.heap.size = A at hD ⊢
  have hA : ∀ q : Nat, s.heap.size ≤ q → A q := fun q h => by rw [← hAe]; exact Or.inr h
  have hS : va_S A s.heap s.heap [] := va_S.rf
  have hl := lv_entry [.ref h, .int a, .int b, .int d, .int k] (n := 5) (Nat.le_of_ble_eq_true rfl)
  rw [lg_entry_eq]
  generalize (lg_sl [.ref h, .int a, .int b, .int d, .int k] ++ List.replicate (5 - (lg_sl [.ref h, .int a, .int b, .int d, .int k]).length) Slot.unset).toArray = ls at hl ⊢
  have hl : lv_has ls 5 [(0, .ref h), (1, .int a), (2, .int b), (3, .int d), (4, .int k)] := hl
  refine lv_aload_n hx hb dX12_burnt_0 rfl (lv_at hl 0 rfl) ?_
  refine lv_iload_n hx hb dX12_burnt_1 rfl (lv_at hl 1 rfl) ?_
  refine vp_callSi (W.runV (As := [.int a]) (rest := []) ⟨hx, hb, hml, hown, ht⟩ (c_X12_noBale l dC dI h g ca iv lv fa la hI a) (kV 1 ht m_1385 m_1387 m_42 m_89 m_1388 rfl rfl hd_X12_noBale_v ⟨Nat.le_of_ble_eq_true rfl, Nat.le_of_ble_eq_true rfl⟩) (vR hP hK (rM_12 hK hP)) rfl rfl hl.1 rfl (lv_room (Nat.le_of_ble_eq_true rfl)) dX12_burnt_2 ⟨Nat.le_of_ble_eq_true rfl, Nat.le_of_ble_eq_true rfl⟩) (fun r1 hr1 => ?_)
  rcases hr1 with ⟨rfl, fr1⟩ | ⟨rfl, fr1⟩
  · skip
    have i_12_1 : 0 ≤ (iv 12 1).toInt ∧ (iv 12 1).toInt ≤ 10 := hI.1 12 1
    have fr1 : ¬ (0 ≤ (a : Int32).toInt ∧ (a : Int32).toInt < ((iv 12 1) : Int32).toInt) := fr1
    refine lv_if_eq (tgt := 11) hx hb dX12_burnt_5 (by decide) (fun c2 => ?_) (fun c2 => ?_)
    · exact absurd c2 (by decide)
    · skip
      refine lv_ldc hx hb hown (ht _ m_1389) dX12_burnt_8 ?_
      have hP9 : va_P (dC, dI) classes (WM h g ca iv lv (u2 (u2 fa 12 55 (fa 12 55)) 12 56 (fa 12 56)) la) s.heap := hP
      have hD9 : va_D A (WM h g ca iv lv (u2 (u2 fa 12 55 (fa 12 55)) 12 56 (fa 12 56)) la) := hD
      exact W.iret (v := (-100001)) hx hb hr (fun t ht9 hW => ⟨⟨(-100001), (iv, lv, (u2 (u2 fa 12 55 (fa 12 55)) 12 56 (fa 12 56)), la), rfl, ⟨(fa 12 55), (fa 12 56), ⟨by decide, by decide⟩, rfl⟩, by rw [ht9]; exact hP9, hD9⟩, hS.F ht9⟩) hS.2.2 dX12_burnt_10
  · skip
    have i_12_1 : 0 ≤ (iv 12 1).toInt ∧ (iv 12 1).toInt ≤ 10 := hI.1 12 1
    have fr1 : (0 ≤ (a : Int32).toInt ∧ (a : Int32).toInt < ((iv 12 1) : Int32).toInt) := Decidable.not_not.mp fr1
    refine lv_if_eq (tgt := 11) hx hb dX12_burnt_5 (by decide) (fun c3 => ?_) (fun c3 => ?_)
    · skip
      refine lv_iload_n hx hb dX12_burnt_11 rfl (lv_at hl 2 rfl) ?_
      refine lv_i2l (v := (b.toInt64)) hx hb dX12_burnt_12 rfl ?_
      refine lv_lconst (v := 0) hx hb dX12_burnt_13 (by decide) ?_
      refine lv_lconst (v := 1) hx hb dX12_burnt_14 (by decide) ?_
      refine vp_callSi (W.runS (As := [.long (b.toInt64), .long 0, .long 1]) (rest := []) ⟨hx, hb, hml, hown, ht⟩ (c_X12_in l dC dI (b.toInt64) 0 1 (b.toInt) (0) (1) ((Int32.toInt_toInt64 b).trans rfl) (by decide : (0 : Int64).toInt = 0) (by decide : (1 : Int64).toInt = 1)) (kS 3 ht m_1370 m_1371 m_89 m_1372 rfl rfl hd_X12_in_v ⟨Nat.le_of_ble_eq_true rfl, Nat.le_of_ble_eq_true rfl⟩) (sR noP (hK.sub (tys' := []) [] rfl)) rfl rfl hl.1 rfl (lv_room (Nat.le_of_ble_eq_true rfl)) dX12_burnt_15 ⟨Nat.le_of_ble_eq_true rfl, Nat.le_of_ble_eq_true rfl⟩) (fun r4 hr4 => ?_)
      rcases hr4 with ⟨rfl, fr4⟩ | ⟨rfl, fr4⟩
      · skip
        refine lv_if_eq (tgt := 41) hx hb dX12_burnt_18 (by decide) (fun c5 => ?_) (fun c5 => ?_)
        · exact absurd c5 (by decide)
        · skip
          refine lv_iload_n hx hb dX12_burnt_21 rfl (lv_at hl 3 rfl) ?_
          refine lv_i2l (v := (d.toInt64)) hx hb dX12_burnt_22 rfl ?_
          refine lv_lconst (v := 0) hx hb dX12_burnt_23 (by decide) ?_
          refine lv_iload hx hb dX12_burnt_24 (lv_at hl 4 rfl) ?_
          refine lv_i2l (v := (k.toInt64)) hx hb dX12_burnt_26 rfl ?_
          refine vp_callSi (W.runS (As := [.long (d.toInt64), .long 0, .long (k.toInt64)]) (rest := []) ⟨hx, hb, hml, hown, ht⟩ (c_X12_in l dC dI (d.toInt64) 0 (k.toInt64) (d.toInt) (0) (k.toInt) ((Int32.toInt_toInt64 d).trans rfl) (by decide : (0 : Int64).toInt = 0) ((Int32.toInt_toInt64 k).trans rfl)) (kS 3 ht m_1370 m_1371 m_89 m_1372 rfl rfl hd_X12_in_v ⟨Nat.le_of_ble_eq_true rfl, Nat.le_of_ble_eq_true rfl⟩) (sR noP (hK.sub (tys' := []) [] rfl)) rfl rfl hl.1 rfl (lv_room (Nat.le_of_ble_eq_true rfl)) dX12_burnt_27 ⟨Nat.le_of_ble_eq_true rfl, Nat.le_of_ble_eq_true rfl⟩) (fun r6 hr6 => ?_)
          rcases hr6 with ⟨rfl, fr6⟩ | ⟨rfl, fr6⟩
          · skip
            refine lv_if_eq (tgt := 41) hx hb dX12_burnt_30 (by decide) (fun c7 => ?_) (fun c7 => ?_)
            · exact absurd c7 (by decide)
            · skip
              refine lv_iload hx hb dX12_burnt_33 (lv_at hl 4 rfl) ?_
              refine lv_sipush (v := 999) hx hb dX12_burnt_35 (by decide) ?_
              refine lv_icmp_le (tgt := 44) hx hb dX12_burnt_38 (by decide) (fun c8 => ?_) (fun c8 => ?_)
              · have fc8 := z_le (rfl : (k).toInt = _) (by decide : (999 : Int32).toInt = 999) c8
                refine lv_iload_n hx hb dX12_burnt_44 rfl (lv_at hl 2 rfl) ?_
                refine lv_if_ne (tgt := 58) hx hb dX12_burnt_45 (by decide) (fun c9 => ?_) (fun c9 => ?_)
                · have fc9 := z_ne (rfl : (b).toInt = _) (by decide : (0 : Int32).toInt = 0) c9
                  refine lv_aload_n hx hb dX12_burnt_58 rfl (lv_at hl 0 rfl) ?_
                  refine gM_12_56 hx hb ht hown hK hP m_1195 dX12_burnt_59 ?_
                  refine lv_iload_n hx hb dX12_burnt_62 rfl (lv_at hl 1 rfl) ?_
                  refine lv_iload_n hx hb dX12_burnt_63 rfl (lv_at hl 3 rfl) ?_
                  refine tM_12_56 hx hb hK hP hD hS (f0 := (fa 12 56)) rfl (i := a) (x := d) (vp_in_iff.mpr ⟨by omega, by omega⟩) dX12_burnt_64 (fun f10 ef10 H locs hP hD hS => ?_)
                  have hf10 : ∀ j, inb (bA 12 56 j) (f10 j) := fun j => full_i _
                  refine lv_iconst (v := 1) hx hb dX12_burnt_65 (by decide) ?_
                  have hP9 : va_P (dC, dI) classes (WM h g ca iv lv (u2 (u2 fa 12 55 (fa 12 55)) 12 56 f10) la) H := hP
                  have hD9 : va_D A (WM h g ca iv lv (u2 (u2 fa 12 55 (fa 12 55)) 12 56 f10) la) := hD
                  exact W.iret (v := 1) hx hb hr (fun t ht9 hW => ⟨⟨1, (iv, lv, (u2 (u2 fa 12 55 (fa 12 55)) 12 56 f10), la), rfl, ⟨(fa 12 55), f10, ⟨by decide, by decide⟩, rfl⟩, by rw [ht9]; exact hP9, hD9⟩, hS.F ht9⟩) hS.2.2 dX12_burnt_66
                · have fc9 := z_eq (rfl : (b).toInt = _) (by decide : (0 : Int32).toInt = 0) c9
                  refine lv_aload_n hx hb dX12_burnt_48 rfl (lv_at hl 0 rfl) ?_
                  refine gM_12_55 hx hb ht hown hK hP m_1194 dX12_burnt_49 ?_
                  refine lv_iload_n hx hb dX12_burnt_52 rfl (lv_at hl 1 rfl) ?_
                  refine lv_iload_n hx hb dX12_burnt_53 rfl (lv_at hl 3 rfl) ?_
                  refine tM_12_55 hx hb hK hP hD hS (f0 := (fa 12 55)) rfl (i := a) (x := d) (vp_in_iff.mpr ⟨by omega, by omega⟩) dX12_burnt_54 (fun f11 ef11 H locs hP hD hS => ?_)
                  have hf11 : ∀ j, inb (bA 12 55 j) (f11 j) := fun j => full_i _
                  refine lv_goto (tgt := 65) hx hb dX12_burnt_55 (by decide) ?_
                  refine lv_iconst (v := 1) hx hb dX12_burnt_65 (by decide) ?_
                  have hP9 : va_P (dC, dI) classes (WM h g ca iv lv (u2 (u2 fa 12 55 f11) 12 56 (fa 12 56)) la) H := hP
                  have hD9 : va_D A (WM h g ca iv lv (u2 (u2 fa 12 55 f11) 12 56 (fa 12 56)) la) := hD
                  exact W.iret (v := 1) hx hb hr (fun t ht9 hW => ⟨⟨1, (iv, lv, (u2 (u2 fa 12 55 f11) 12 56 (fa 12 56)), la), rfl, ⟨f11, (fa 12 56), ⟨by decide, by decide⟩, rfl⟩, by rw [ht9]; exact hP9, hD9⟩, hS.F ht9⟩) hS.2.2 dX12_burnt_66
              · have fc8 := z_nle (rfl : (k).toInt = _) (by decide : (999 : Int32).toInt = 999) c8
                refine lv_ldc hx hb hown (ht _ m_1373) dX12_burnt_41 ?_
                have hP9 : va_P (dC, dI) classes (WM h g ca iv lv (u2 (u2 fa 12 55 (fa 12 55)) 12 56 (fa 12 56)) la) s.heap := hP
                have hD9 : va_D A (WM h g ca iv lv (u2 (u2 fa 12 55 (fa 12 55)) 12 56 (fa 12 56)) la) := hD
                exact W.iret (v := (-100002)) hx hb hr (fun t ht9 hW => ⟨⟨(-100002), (iv, lv, (u2 (u2 fa 12 55 (fa 12 55)) 12 56 (fa 12 56)), la), rfl, ⟨(fa 12 55), (fa 12 56), ⟨by decide, by decide⟩, rfl⟩, by rw [ht9]; exact hP9, hD9⟩, hS.F ht9⟩) hS.2.2 dX12_burnt_43
          · skip
            refine lv_if_eq (tgt := 41) hx hb dX12_burnt_30 (by decide) (fun c12 => ?_) (fun c12 => ?_)
            · skip
              refine lv_ldc hx hb hown (ht _ m_1373) dX12_burnt_41 ?_
              have hP9 : va_P (dC, dI) classes (WM h g ca iv lv (u2 (u2 fa 12 55 (fa 12 55)) 12 56 (fa 12 56)) la) s.heap := hP
              have hD9 : va_D A (WM h g ca iv lv (u2 (u2 fa 12 55 (fa 12 55)) 12 56 (fa 12 56)) la) := hD
              exact W.iret (v := (-100002)) hx hb hr (fun t ht9 hW => ⟨⟨(-100002), (iv, lv, (u2 (u2 fa 12 55 (fa 12 55)) 12 56 (fa 12 56)), la), rfl, ⟨(fa 12 55), (fa 12 56), ⟨by decide, by decide⟩, rfl⟩, by rw [ht9]; exact hP9, hD9⟩, hS.F ht9⟩) hS.2.2 dX12_burnt_43
            · exact absurd rfl c12
      · skip
        refine lv_if_eq (tgt := 41) hx hb dX12_burnt_18 (by decide) (fun c13 => ?_) (fun c13 => ?_)
        · skip
          refine lv_ldc hx hb hown (ht _ m_1373) dX12_burnt_41 ?_
          have hP9 : va_P (dC, dI) classes (WM h g ca iv lv (u2 (u2 fa 12 55 (fa 12 55)) 12 56 (fa 12 56)) la) s.heap := hP
          have hD9 : va_D A (WM h g ca iv lv (u2 (u2 fa 12 55 (fa 12 55)) 12 56 (fa 12 56)) la) := hD
          exact W.iret (v := (-100002)) hx hb hr (fun t ht9 hW => ⟨⟨(-100002), (iv, lv, (u2 (u2 fa 12 55 (fa 12 55)) 12 56 (fa 12 56)), la), rfl, ⟨(fa 12 55), (fa 12 56), ⟨by decide, by decide⟩, rfl⟩, by rw [ht9]; exact hP9, hD9⟩, hS.F ht9⟩) hS.2.2 dX12_burnt_43
        · exact absurd rfl c13
    · exact absurd rfl c3
set_option maxHeartbeats 4000000 in
set_option maxRecDepth 100000 in
/-- X12_load -/
theorem c_X12_load (l : Launch) (dC : Nat → ClassId) (dI : Nat → Nat → Nat) (sz : Nat) (h : Nat) (g : Nat → Nat → Nat) (ca : Nat → Nat → ClassId) (iv : Nat → Nat → Int32) (lv : Nat → Nat → Int64) (fa : Nat → Nat → Nat → Int32) (la : Nat → Nat → Nat → Int64) (hI : IX iv fa) (a : Int32) : Met l yX12_load (wc yX12_load cX12_load 2 (some .int)) ({ frames := 1, cells := 0, slots := 0, locals := 25 } : Room) (pW (dC, dI) classes (WM h g ca iv lv fa la) (TM ca) sz [.ref h, .int a]) (va_Qi (fun r (u : SS) => ∃ (na_12_58 : Nat → Int32) (ni_12_57 : Int32), inb (bI 12 57) ni_12_57 ∧ ((-100004) ≤ r.toInt ∧ r.toInt ≤ 8) ∧ u = ((u2 iv 12 57 ni_12_57), lv, (u2 fa 12 58 na_12_58), la)) (bM (dC, dI) h g ca (va_A (WM h g ca iv lv fa la) sz)) (va_A (WM h g ca iv lv fa la) sz)) 0 0 (va_A (WM h g ca iv lv fa la) sz) := by
  refine Met.ofW (cc := cX12_load) (maxL := 2) (ret := (some .int)) (by decide) rfl ?_
  intro p e s m args below meth c s₁ B hml hv
  obtain ⟨rfl, hsz, hP, hK, hD0⟩ := hv
  have hx := B.exec
  have hb := B.bytes
  have hr := B.returns
  have ht := tb_tl (atoms_spec (ws := wc yX12_load cX12_load 2 (some .int)) B.pre)
  have hown : s.vm.findClass RX12 = some m.cls := findClass_of_methodNamed B.named
  have hlocks := B.notSynchronized
  subst hsz
  have hD := hD0.self (sz := s.heap.size)
  generalize hAe : va_A (WM h g ca iv lv fa la) s.heap.size = A at hD ⊢
  have hA : ∀ q : Nat, s.heap.size ≤ q → A q := fun q h => by rw [← hAe]; exact Or.inr h
  have hS : va_S A s.heap s.heap [] := va_S.rf
  have hl := lv_entry [.ref h, .int a] (n := 2) (Nat.le_of_ble_eq_true rfl)
  rw [lg_entry_eq]
  generalize (lg_sl [.ref h, .int a] ++ List.replicate (2 - (lg_sl [.ref h, .int a]).length) Slot.unset).toArray = ls at hl ⊢
  have hl : lv_has ls 2 [(0, .ref h), (1, .int a)] := hl
  refine lv_iload_n hx hb dX12_load_0 rfl (lv_at hl 1 rfl) ?_
  refine lv_i2l (v := (a.toInt64)) hx hb dX12_load_1 rfl ?_
  refine lv_lconst (v := 1) hx hb dX12_load_2 (by decide) ?_
  refine lv_ldc2 hx hb hown (ht _ m_1369) dX12_load_3 ?_
  refine vp_callSi (W.runS (As := [.long (a.toInt64), .long 1, .long 999]) (rest := []) ⟨hx, hb, hml, hown, ht⟩ (c_X12_in l dC dI (a.toInt64) 1 999 (a.toInt) (1) (999) ((Int32.toInt_toInt64 a).trans rfl) (by decide : (1 : Int64).toInt = 1) (by decide : (999 : Int64).toInt = 999)) (kS 3 ht m_1370 m_1371 m_89 m_1372 rfl rfl hd_X12_in_v ⟨Nat.le_of_ble_eq_true rfl, Nat.le_of_ble_eq_true rfl⟩) (sR noP (hK.sub (tys' := []) [] rfl)) rfl rfl hl.1 rfl (lv_room (Nat.le_of_ble_eq_true rfl)) dX12_load_6 ⟨Nat.le_of_ble_eq_true rfl, Nat.le_of_ble_eq_true rfl⟩) (fun r1 hr1 => ?_)
  rcases hr1 with ⟨rfl, fr1⟩ | ⟨rfl, fr1⟩
  · skip
    refine lv_if_ne (tgt := 15) hx hb dX12_load_9 (by decide) (fun c2 => ?_) (fun c2 => ?_)
    · skip
      refine lv_aload_n hx hb dX12_load_15 rfl (lv_at hl 0 rfl) ?_
      have i_12_57 : 0 ≤ (iv 12 57).toInt ∧ (iv 12 57).toInt ≤ 8 := hI.1 12 57
      refine gM_12_57 hx hb ht hown hK hP m_1196 (v := (iv 12 57)) rfl dX12_load_16 ?_
      refine lv_bipush (v := 8) hx hb dX12_load_19 (by decide) ?_
      refine lv_icmp_ne (tgt := 27) hx hb dX12_load_21 (by decide) (fun c3 => ?_) (fun c3 => ?_)
      · have fc3 := z_ne (rfl : ((iv 12 57)).toInt = _) (by decide : (8 : Int32).toInt = 8) c3
        refine lv_aload_n hx hb dX12_load_27 rfl (lv_at hl 0 rfl) ?_
        refine gM_12_58 hx hb ht hown hK hP m_1197 dX12_load_28 ?_
        refine lv_aload_n hx hb dX12_load_31 rfl (lv_at hl 0 rfl) ?_
        refine gM_12_57 hx hb ht hown hK hP m_1196 (v := (iv 12 57)) rfl dX12_load_32 ?_
        refine lv_iload_n hx hb dX12_load_35 rfl (lv_at hl 1 rfl) ?_
        refine tM_12_58 hx hb hK hP hD hS (f0 := (fa 12 58)) rfl (i := (iv 12 57)) (x := a) (vp_in_iff.mpr ⟨by omega, by omega⟩) dX12_load_36 (fun f4 ef4 H locs hP hD hS => ?_)
        have hf4 : ∀ j, inb (bA 12 58 j) (f4 j) := fun j => full_i _
        refine lv_aload_n hx hb dX12_load_37 rfl (lv_at hl 0 rfl) ?_
        refine lv_dup hx hb dX12_load_38 rfl ?_
        refine gM_12_57 hx hb ht hown hK hP m_1196 (v := (iv 12 57)) rfl dX12_load_39 ?_
        refine lv_iconst (v := 1) hx hb dX12_load_42 (by decide) ?_
        refine lv_iadd hx hb dX12_load_43 ?_
        refine lv_topi (fun v5 ev5 => ?_)
        have tv5 := z_add ev5 (rfl : ((iv 12 57)).toInt = _) (by decide : (1 : Int32).toInt = 1) (by omega) (by omega)
        refine pM_12_57 (v := v5) hx hb ht hown hK hP hD hS m_1196 dX12_load_44 (fun H locs hP hD hS => ?_)
        refine lv_aload_n hx hb dX12_load_47 rfl (lv_at hl 0 rfl) ?_
        refine gM_12_57 hx hb ht hown hK hP m_1196 (v := v5) rfl dX12_load_48 ?_
        have hP9 : va_P (dC, dI) classes (WM h g ca (u2 iv 12 57 v5) lv (u2 fa 12 58 f4) la) H := hP
        have hD9 : va_D A (WM h g ca (u2 iv 12 57 v5) lv (u2 fa 12 58 f4) la) := hD
        exact W.iret (v := v5) hx hb hr (fun t ht9 hW => ⟨⟨v5, ((u2 iv 12 57 v5), lv, (u2 fa 12 58 f4), la), rfl, ⟨f4, v5, (show inb (0, 8) v5 from ⟨by omega, by omega⟩), ⟨by omega, by omega⟩, rfl⟩, by rw [ht9]; exact hP9, hD9⟩, hS.F ht9⟩) hS.2.2 dX12_load_51
      · have fc3 := z_eq (rfl : ((iv 12 57)).toInt = _) (by decide : (8 : Int32).toInt = 8) c3
        refine lv_ldc hx hb hown (ht _ m_1380) dX12_load_24 ?_
        have hP9 : va_P (dC, dI) classes (WM h g ca (u2 iv 12 57 (iv 12 57)) lv (u2 fa 12 58 (fa 12 58)) la) s.heap := hP
        have hD9 : va_D A (WM h g ca (u2 iv 12 57 (iv 12 57)) lv (u2 fa 12 58 (fa 12 58)) la) := hD
        exact W.iret (v := (-100004)) hx hb hr (fun t ht9 hW => ⟨⟨(-100004), ((u2 iv 12 57 (iv 12 57)), lv, (u2 fa 12 58 (fa 12 58)), la), rfl, ⟨(fa 12 58), (iv 12 57), (hI.1 12 57), ⟨by decide, by decide⟩, rfl⟩, by rw [ht9]; exact hP9, hD9⟩, hS.F ht9⟩) hS.2.2 dX12_load_26
    · exact absurd c2 (by decide)
  · skip
    refine lv_if_ne (tgt := 15) hx hb dX12_load_9 (by decide) (fun c6 => ?_) (fun c6 => ?_)
    · exact absurd rfl c6
    · skip
      refine lv_ldc hx hb hown (ht _ m_1373) dX12_load_12 ?_
      have hP9 : va_P (dC, dI) classes (WM h g ca (u2 iv 12 57 (iv 12 57)) lv (u2 fa 12 58 (fa 12 58)) la) s.heap := hP
      have hD9 : va_D A (WM h g ca (u2 iv 12 57 (iv 12 57)) lv (u2 fa 12 58 (fa 12 58)) la) := hD
      exact W.iret (v := (-100002)) hx hb hr (fun t ht9 hW => ⟨⟨(-100002), ((u2 iv 12 57 (iv 12 57)), lv, (u2 fa 12 58 (fa 12 58)), la), rfl, ⟨(fa 12 58), (iv 12 57), (hI.1 12 57), ⟨by decide, by decide⟩, rfl⟩, by rw [ht9]; exact hP9, hD9⟩, hS.F ht9⟩) hS.2.2 dX12_load_14
set_option maxHeartbeats 4000000 in
set_option maxRecDepth 100000 in
/-- X12_empty -/
theorem c_X12_empty (l : Launch) (dC : Nat → ClassId) (dI : Nat → Nat → Nat) (sz : Nat) (h : Nat) (g : Nat → Nat → Nat) (ca : Nat → Nat → ClassId) (iv : Nat → Nat → Int32) (lv : Nat → Nat → Int64) (fa : Nat → Nat → Nat → Int32) (la : Nat → Nat → Nat → Int64) (hI : IX iv fa) : Met l yX12_empty (wc yX12_empty cX12_empty 2 (some .int)) ({ frames := 0, cells := 0, slots := 0, locals := 0 } : Room) (pW (dC, dI) classes (WM h g ca iv lv fa la) (TM ca) sz [.ref h]) (va_Qi (fun r (u : SS) => ∃ (ni_12_57 : Int32), inb (bI 12 57) ni_12_57 ∧ (0 ≤ r.toInt ∧ r.toInt ≤ 8) ∧ u = ((u2 iv 12 57 ni_12_57), lv, fa, la)) (bM (dC, dI) h g ca (va_A (WM h g ca iv lv fa la) sz)) (va_A (WM h g ca iv lv fa la) sz)) 0 0 (va_A (WM h g ca iv lv fa la) sz) := by
  refine Met.ofW (cc := cX12_empty) (maxL := 2) (ret := (some .int)) (by decide) rfl ?_
  intro p e s m args below meth c s₁ B hml hv
  obtain ⟨rfl, hsz, hP, hK, hD0⟩ := hv
  have hx := B.exec
  have hb := B.bytes
  have hr := B.returns
  have ht := tb_tl (atoms_spec (ws := wc yX12_empty cX12_empty 2 (some .int)) B.pre)
  have hown : s.vm.findClass RX12 = some m.cls := findClass_of_methodNamed B.named
  have hlocks := B.notSynchronized
  subst hsz
  have hD := hD0.self (sz := s.heap.size)
  generalize hAe : va_A (WM h g ca iv lv fa la) s.heap.size = A at hD ⊢
  have hA : ∀ q : Nat, s.heap.size ≤ q → A q := fun q h => by rw [← hAe]; exact Or.inr h
  have hS : va_S A s.heap s.heap [] := va_S.rf
  have hl := lv_entry [.ref h] (n := 2) (Nat.le_of_ble_eq_true rfl)
  rw [lg_entry_eq]
  generalize (lg_sl [.ref h] ++ List.replicate (2 - (lg_sl [.ref h]).length) Slot.unset).toArray = ls at hl ⊢
  have hl : lv_has ls 2 [(0, .ref h)] := hl
  refine lv_aload_n hx hb dX12_empty_0 rfl (lv_at hl 0 rfl) ?_
  have i_12_57 : 0 ≤ (iv 12 57).toInt ∧ (iv 12 57).toInt ≤ 8 := hI.1 12 57
  refine gM_12_57 hx hb ht hown hK hP m_1196 (v := (iv 12 57)) rfl dX12_empty_1 ?_
  refine lv_istore_n (lv' := [(1, .int (iv 12 57)), (0, .ref h)]) hx hb dX12_empty_4 rfl hl (by decide) rfl (fun ls hl => ?_)
  refine lv_aload_n hx hb dX12_empty_5 rfl (lv_at hl 1 rfl) ?_
  refine lv_iconst (v := 0) hx hb dX12_empty_6 (by decide) ?_
  refine pM_12_57 (v := 0) hx hb ht hown hK hP hD hS m_1196 dX12_empty_7 (fun H locs hP hD hS => ?_)
  refine lv_iload_n hx hb dX12_empty_10 rfl (lv_at hl 0 rfl) ?_
  have hP9 : va_P (dC, dI) classes (WM h g ca (u2 iv 12 57 0) lv fa la) H := hP
  have hD9 : va_D A (WM h g ca (u2 iv 12 57 0) lv fa la) := hD
  exact W.iret (v := (iv 12 57)) hx hb hr (fun t ht9 hW => ⟨⟨(iv 12 57), ((u2 iv 12 57 0), lv, fa, la), rfl, ⟨0, (show inb (0, 8) 0 from ⟨by decide, by decide⟩), ⟨by omega, by omega⟩, rfl⟩, by rw [ht9]; exact hP9, hD9⟩, hS.F ht9⟩) hS.2.2 dX12_empty_11
