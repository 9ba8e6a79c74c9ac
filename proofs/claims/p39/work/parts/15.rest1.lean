/-! ===== rest1 ===== -/
set_option maxRecDepth 100000 in
theorem m_8 : Cond.selects RX1 yX1_lastOf yX1_lastOf ∈ tb := tb_in 8 (by decide +kernel) rfl
set_option maxRecDepth 100000 in
theorem m_10 : Cond.selects RX3 yX3_settleByTwo yX3_settleByTwo ∈ tb := tb_in 10 (by decide +kernel) rfl
set_option maxRecDepth 100000 in
theorem m_12 : Cond.selects RX3 yX3_settleByThree yX3_settleByThree ∈ tb := tb_in 12 (by decide +kernel) rfl
set_option maxRecDepth 100000 in
theorem m_13 : Cond.selects RX3 yX3_middleLook yX3_middleLook ∈ tb := tb_in 13 (by decide +kernel) rfl
set_option maxRecDepth 100000 in
theorem m_41 : Cond.selects RX5 yX5_place yX5_place ∈ tb := tb_in 41 (by decide +kernel) rfl
theorem m_95 : Cond.initialized "java/lang/System" ∈ tb := mb_1_0 _ (List.mem_of_getElem? (i := 17) rfl)
theorem m_96 : Cond.initialized "java/lang/Integer" ∈ tb := mb_1_0 _ (List.mem_of_getElem? (i := 18) rfl)
theorem m_268 : Cond.fieldLink RX3 60 "SilkHouse$Piles" "skeins" "[I" ∈ tb := mb_1_5 _ (List.mem_of_getElem? (i := 0) rfl)
theorem m_280 : Cond.fieldLink RX3 27 "SilkHouse$Judge" "book" "LSilkHouse$Book;" ∈ tb := mb_1_5 _ (List.mem_of_getElem? (i := 5) rfl)
theorem m_336 : Cond.fieldLink RX5 13 "SilkHouse$Ovens" "tried" "[I" ∈ tb := mb_2_0 _ (List.mem_of_getElem? (i := 6) rfl)
theorem m_337 : Cond.fieldLink RX5 16 "SilkHouse$Ovens" "ends" "[I" ∈ tb := mb_2_0 _ (List.mem_of_getElem? (i := 7) rfl)
theorem m_338 : Cond.fieldLink RX5 19 "SilkHouse$Ovens" "best" "[I" ∈ tb := mb_2_0 _ (List.mem_of_getElem? (i := 8) rfl)
theorem m_342 : Cond.fieldLink RX5 26 "SilkHouse$Ovens" "bestEnd" "I" ∈ tb := mb_2_0 _ (List.mem_of_getElem? (i := 12) rfl)
theorem m_565 : Cond.instanceMethod yX3_gather ∈ tb := mb_3_0 _ (List.mem_of_getElem? (i := 9) rfl)
theorem m_566 : Cond.selects RX3 yX3_gather yX3_gather ∈ tb := mb_3_0 _ (List.mem_of_getElem? (i := 10) rfl)
theorem m_567 : Cond.code yX3_gather cX3_gather 4 none ∈ tb := mb_3_0 _ (List.mem_of_getElem? (i := 11) rfl)
theorem m_599 : Cond.methodLink RX3 51 yX3_gather ∈ tb := mb_3_1 _ (List.mem_of_getElem? (i := 18) rfl)
theorem m_600 : Cond.methodLink RX3 57 yX1_holding ∈ tb := mb_3_1 _ (List.mem_of_getElem? (i := 19) rfl)
theorem m_601 : Cond.instanceMethod yX1_holding ∈ tb := mb_3_1 _ (List.mem_of_getElem? (i := 20) rfl)
theorem m_602 : Cond.selects RX1 yX1_holding yX1_holding ∈ tb := mb_3_1 _ (List.mem_of_getElem? (i := 21) rfl)
theorem m_603 : Cond.code yX1_holding cX1_holding 7 (some .int) ∈ tb := mb_3_1 _ (List.mem_of_getElem? (i := 22) rfl)
theorem m_616 : Cond.fieldLink RX1 46 "SilkHouse$Book" "AT_FIRST" "[I" ∈ tb := mb_3_2 _ (List.mem_of_getElem? (i := 8) rfl)
theorem m_618 : Cond.methodLink RX1 49 yX1_lastOf ∈ tb := mb_3_2 _ (List.mem_of_getElem? (i := 9) rfl)
theorem m_620 : Cond.instanceMethod yX1_lastOf ∈ tb := mb_3_2 _ (List.mem_of_getElem? (i := 10) rfl)
theorem m_621 : Cond.code yX1_lastOf cX1_lastOf 5 (some .int) ∈ tb := mb_3_2 _ (List.mem_of_getElem? (i := 11) rfl)
theorem m_626 : Cond.methodLink RX3 66 yX7_differ ∈ tb := mb_3_2 _ (List.mem_of_getElem? (i := 15) rfl)
theorem m_634 : Cond.methodLink RX3 70 yX3_settleByTwo ∈ tb := mb_3_2 _ (List.mem_of_getElem? (i := 23) rfl)
theorem m_636 : Cond.instanceMethod yX3_settleByTwo ∈ tb := mb_3_3 _ (List.mem_of_getElem? (i := 0) rfl)
theorem m_637 : Cond.code yX3_settleByTwo cX3_settleByTwo 3 (some .int) ∈ tb := mb_3_3 _ (List.mem_of_getElem? (i := 1) rfl)
theorem m_642 : Cond.methodLink RX3 74 yX3_settleByThree ∈ tb := mb_3_3 _ (List.mem_of_getElem? (i := 5) rfl)
theorem m_644 : Cond.instanceMethod yX3_settleByThree ∈ tb := mb_3_3 _ (List.mem_of_getElem? (i := 6) rfl)
theorem m_645 : Cond.code yX3_settleByThree cX3_settleByThree 3 (some .int) ∈ tb := mb_3_3 _ (List.mem_of_getElem? (i := 7) rfl)
theorem m_646 : Cond.methodLink RX3 80 yX3_middleLook ∈ tb := mb_3_3 _ (List.mem_of_getElem? (i := 8) rfl)
theorem m_648 : Cond.instanceMethod yX3_middleLook ∈ tb := mb_3_3 _ (List.mem_of_getElem? (i := 9) rfl)
theorem m_649 : Cond.code yX3_middleLook cX3_middleLook 3 (some .int) ∈ tb := mb_3_3 _ (List.mem_of_getElem? (i := 10) rfl)
theorem m_1017 : Cond.constant RX5 32 (1000000) ∈ tb := mb_4_8 _ (List.mem_of_getElem? (i := 14) rfl)
theorem m_1018 : Cond.methodLink RX5 33 yX5_place ∈ tb := mb_4_8 _ (List.mem_of_getElem? (i := 15) rfl)
theorem m_1020 : Cond.instanceMethod yX5_place ∈ tb := mb_4_8 _ (List.mem_of_getElem? (i := 16) rfl)
theorem m_1021 : Cond.code yX5_place cX5_place 5 none ∈ tb := mb_4_8 _ (List.mem_of_getElem? (i := 17) rfl)
theorem m_1022 : Cond.methodLink RX5 37 arraycopyName ∈ tb := mb_4_8 _ (List.mem_of_getElem? (i := 18) rfl)
theorem m_1023 : Cond.static arraycopyName ∈ tb := mb_4_8 _ (List.mem_of_getElem? (i := 19) rfl)
theorem m_1024 : Cond.native arraycopyName ∈ tb := mb_4_8 _ (List.mem_of_getElem? (i := 20) rfl)
theorem m_1025 : Cond.methodLink RX5 43 Lib.Math.max.name ∈ tb := mb_4_8 _ (List.mem_of_getElem? (i := 21) rfl)
theorem m_1050 : Cond.methodLink RX4 31 yJ6_bitCount_0f7a4 ∈ tb := mbJ_5_0 _ (List.mem_of_getElem? (i := 0) rfl)
theorem m_1051 : Cond.static yJ6_bitCount_0f7a4 ∈ tb := mbJ_5_0 _ (List.mem_of_getElem? (i := 1) rfl)
theorem m_1052 : Cond.code yJ6_bitCount_0f7a4 cJ6_bitCount_0f7a4 1 (some .int) ∈ tb := mbJ_5_0 _ (List.mem_of_getElem? (i := 2) rfl)
theorem m_1056 : Cond.methodLink RX4 37 yX4_leastWithout ∈ tb := mb_5_0 _ (List.mem_of_getElem? (i := 17) rfl)
theorem m_1057 : Cond.instanceMethod yX4_leastWithout ∈ tb := mb_5_0 _ (List.mem_of_getElem? (i := 18) rfl)
theorem m_1058 : Cond.selects RX4 yX4_leastWithout yX4_leastWithout ∈ tb := mb_5_0 _ (List.mem_of_getElem? (i := 19) rfl)
theorem m_1059 : Cond.code yX4_leastWithout cX4_leastWithout 4 (some .int) ∈ tb := mb_5_0 _ (List.mem_of_getElem? (i := 20) rfl)
theorem m_1062 : Cond.methodLink RX4 40 yX4_greatestWithout ∈ tb := mb_5_0 _ (List.mem_of_getElem? (i := 23) rfl)
theorem m_1063 : Cond.instanceMethod yX4_greatestWithout ∈ tb := mb_5_1 _ (List.mem_of_getElem? (i := 0) rfl)
theorem m_1064 : Cond.selects RX4 yX4_greatestWithout yX4_greatestWithout ∈ tb := mb_5_1 _ (List.mem_of_getElem? (i := 1) rfl)
theorem m_1065 : Cond.code yX4_greatestWithout cX4_greatestWithout 4 (some .int) ∈ tb := mb_5_1 _ (List.mem_of_getElem? (i := 2) rfl)
theorem hd_J6_bitCount_0f7a4_i : yJ6_bitCount_0f7a4.cls ≠ "java/lang/invoke/MethodHandle" ∧ yJ6_bitCount_0f7a4.cls ≠ "java/lang/invoke/VarHandle" ∧ (parseMethodDescriptor yJ6_bitCount_0f7a4.desc).map (fun d => d.parameters.length) = some 1 := by decide +kernel
theorem hd_J6_bitCount_0f7a4_v : yJ6_bitCount_0f7a4.cls = RJ6 ∧ yJ6_bitCount_0f7a4.cls ≠ "java/lang/invoke/MethodHandle" ∧ yJ6_bitCount_0f7a4.cls ≠ "java/lang/invoke/VarHandle" ∧ (parseMethodDescriptor yJ6_bitCount_0f7a4.desc).map (fun d => d.parameters.length) = some 1 := by decide +kernel
theorem hd_X1_holding_v : yX1_holding.cls = RX1 ∧ yX1_holding.cls ≠ "java/lang/invoke/MethodHandle" ∧ yX1_holding.cls ≠ "java/lang/invoke/VarHandle" ∧ (parseMethodDescriptor yX1_holding.desc).map (fun d => d.parameters.length) = some 2 := by decide +kernel
theorem hd_X1_lastOf_v : yX1_lastOf.cls = RX1 ∧ yX1_lastOf.cls ≠ "java/lang/invoke/MethodHandle" ∧ yX1_lastOf.cls ≠ "java/lang/invoke/VarHandle" ∧ (parseMethodDescriptor yX1_lastOf.desc).map (fun d => d.parameters.length) = some 2 := by decide +kernel
theorem hd_X3_gather_v : yX3_gather.cls = RX3 ∧ yX3_gather.cls ≠ "java/lang/invoke/MethodHandle" ∧ yX3_gather.cls ≠ "java/lang/invoke/VarHandle" ∧ (parseMethodDescriptor yX3_gather.desc).map (fun d => d.parameters.length) = some 2 := by decide +kernel
theorem hd_X3_middleLook_v : yX3_middleLook.cls = RX3 ∧ yX3_middleLook.cls ≠ "java/lang/invoke/MethodHandle" ∧ yX3_middleLook.cls ≠ "java/lang/invoke/VarHandle" ∧ (parseMethodDescriptor yX3_middleLook.desc).map (fun d => d.parameters.length) = some 0 := by decide +kernel
theorem hd_X3_settleByThree_v : yX3_settleByThree.cls = RX3 ∧ yX3_settleByThree.cls ≠ "java/lang/invoke/MethodHandle" ∧ yX3_settleByThree.cls ≠ "java/lang/invoke/VarHandle" ∧ (parseMethodDescriptor yX3_settleByThree.desc).map (fun d => d.parameters.length) = some 1 := by decide +kernel
theorem hd_X3_settleByTwo_v : yX3_settleByTwo.cls = RX3 ∧ yX3_settleByTwo.cls ≠ "java/lang/invoke/MethodHandle" ∧ yX3_settleByTwo.cls ≠ "java/lang/invoke/VarHandle" ∧ (parseMethodDescriptor yX3_settleByTwo.desc).map (fun d => d.parameters.length) = some 1 := by decide +kernel
theorem hd_X4_greatestWithout_v : yX4_greatestWithout.cls = RX4 ∧ yX4_greatestWithout.cls ≠ "java/lang/invoke/MethodHandle" ∧ yX4_greatestWithout.cls ≠ "java/lang/invoke/VarHandle" ∧ (parseMethodDescriptor yX4_greatestWithout.desc).map (fun d => d.parameters.length) = some 1 := by decide +kernel
theorem hd_X4_leastWithout_v : yX4_leastWithout.cls = RX4 ∧ yX4_leastWithout.cls ≠ "java/lang/invoke/MethodHandle" ∧ yX4_leastWithout.cls ≠ "java/lang/invoke/VarHandle" ∧ (parseMethodDescriptor yX4_leastWithout.desc).map (fun d => d.parameters.length) = some 1 := by decide +kernel
theorem hd_X5_place_v : yX5_place.cls = RX5 ∧ yX5_place.cls ≠ "java/lang/invoke/MethodHandle" ∧ yX5_place.cls ≠ "java/lang/invoke/VarHandle" ∧ (parseMethodDescriptor yX5_place.desc).map (fun d => d.parameters.length) = some 3 := by decide +kernel
set_option maxRecDepth 100000 in
theorem dvX1_holding_0 : ([(0, .aload_n 0, 1), (1, .iload_n 2, 1), (2, .invokevirtual 42, 3), (5, .getstatic 46, 3), (8, .iload_n 1, 1), (9, .iaload, 1), (10, .istore_n 3, 1), (11, .iconst (-1), 1), (12, .istore 4, 2), (14, .iconst 0, 1), (15, .istore 5, 2), (17, .iload 5, 2), (19, .aload_n 0, 1), (20, .getfield 35, 3), (23, .if_icmp .ge 63, 3), (26, .aload_n 0, 1), (27, .iload 5, 2), (29, .iload_n 1, 1), (30, .invokevirtual 49, 3), (33, .istore 6, 2), (35, .aload_n 0, 1), (36, .getfield 31, 3), (39, .iload 5, 2), (41, .baload, 1)] : List (Nat × Instr × Nat)).all (fun q => decide (decode cX1_holding q.1 = .ok (q.2.1, q.2.2))) = true := by decide +kernel
theorem dX1_holding_0 : decode cX1_holding 0 = .ok (.aload_n 0, 1) := all_at dvX1_holding_0 0 rfl
theorem dX1_holding_1 : decode cX1_holding 1 = .ok (.iload_n 2, 1) := all_at dvX1_holding_0 1 rfl
theorem dX1_holding_2 : decode cX1_holding 2 = .ok (.invokevirtual 42, 3) := all_at dvX1_holding_0 2 rfl
theorem dX1_holding_5 : decode cX1_holding 5 = .ok (.getstatic 46, 3) := all_at dvX1_holding_0 3 rfl
theorem dX1_holding_8 : decode cX1_holding 8 = .ok (.iload_n 1, 1) := all_at dvX1_holding_0 4 rfl
theorem dX1_holding_9 : decode cX1_holding 9 = .ok (.iaload, 1) := all_at dvX1_holding_0 5 rfl
theorem dX1_holding_10 : decode cX1_holding 10 = .ok (.istore_n 3, 1) := all_at dvX1_holding_0 6 rfl
theorem dX1_holding_11 : decode cX1_holding 11 = .ok (.iconst (-1), 1) := all_at dvX1_holding_0 7 rfl
theorem dX1_holding_12 : decode cX1_holding 12 = .ok (.istore 4, 2) := all_at dvX1_holding_0 8 rfl
theorem dX1_holding_14 : decode cX1_holding 14 = .ok (.iconst 0, 1) := all_at dvX1_holding_0 9 rfl
theorem dX1_holding_15 : decode cX1_holding 15 = .ok (.istore 5, 2) := all_at dvX1_holding_0 10 rfl
theorem dX1_holding_17 : decode cX1_holding 17 = .ok (.iload 5, 2) := all_at dvX1_holding_0 11 rfl
theorem dX1_holding_19 : decode cX1_holding 19 = .ok (.aload_n 0, 1) := all_at dvX1_holding_0 12 rfl
theorem dX1_holding_20 : decode cX1_holding 20 = .ok (.getfield 35, 3) := all_at dvX1_holding_0 13 rfl
theorem dX1_holding_23 : decode cX1_holding 23 = .ok (.if_icmp .ge 63, 3) := all_at dvX1_holding_0 14 rfl
theorem dX1_holding_26 : decode cX1_holding 26 = .ok (.aload_n 0, 1) := all_at dvX1_holding_0 15 rfl
theorem dX1_holding_27 : decode cX1_holding 27 = .ok (.iload 5, 2) := all_at dvX1_holding_0 16 rfl
theorem dX1_holding_29 : decode cX1_holding 29 = .ok (.iload_n 1, 1) := all_at dvX1_holding_0 17 rfl
theorem dX1_holding_30 : decode cX1_holding 30 = .ok (.invokevirtual 49, 3) := all_at dvX1_holding_0 18 rfl
theorem dX1_holding_33 : decode cX1_holding 33 = .ok (.istore 6, 2) := all_at dvX1_holding_0 19 rfl
theorem dX1_holding_35 : decode cX1_holding 35 = .ok (.aload_n 0, 1) := all_at dvX1_holding_0 20 rfl
theorem dX1_holding_36 : decode cX1_holding 36 = .ok (.getfield 31, 3) := all_at dvX1_holding_0 21 rfl
theorem dX1_holding_39 : decode cX1_holding 39 = .ok (.iload 5, 2) := all_at dvX1_holding_0 22 rfl
theorem dX1_holding_41 : decode cX1_holding 41 = .ok (.baload, 1) := all_at dvX1_holding_0 23 rfl
set_option maxRecDepth 100000 in
theorem dvX1_holding_42 : ([(42, .ifCond .eq 38, 3), (45, .iload 6, 2), (47, .iconst (-1), 1), (48, .if_icmp .eq 32, 3), (51, .aload_n 0, 1), (52, .getfield 11, 3), (55, .iload 5, 2), (57, .iaload, 1), (58, .iload 4, 2), (60, .if_icmp .lt 20, 3), (63, .aload_n 0, 1), (64, .getfield 21, 3), (67, .iload 6, 2), (69, .iaload, 1), (70, .istore_n 3, 1), (71, .aload_n 0, 1), (72, .getfield 11, 3), (75, .iload 5, 2), (77, .iaload, 1), (78, .istore 4, 2), (80, .iinc 5 1, 3), (83, .goto (-66), 3), (86, .iload_n 3, 1), (87, .ireturn, 1)] : List (Nat × Instr × Nat)).all (fun q => decide (decode cX1_holding q.1 = .ok (q.2.1, q.2.2))) = true := by decide +kernel
theorem dX1_holding_42 : decode cX1_holding 42 = .ok (.ifCond .eq 38, 3) := all_at dvX1_holding_42 0 rfl
theorem dX1_holding_45 : decode cX1_holding 45 = .ok (.iload 6, 2) := all_at dvX1_holding_42 1 rfl
theorem dX1_holding_47 : decode cX1_holding 47 = .ok (.iconst (-1), 1) := all_at dvX1_holding_42 2 rfl
theorem dX1_holding_48 : decode cX1_holding 48 = .ok (.if_icmp .eq 32, 3) := all_at dvX1_holding_42 3 rfl
theorem dX1_holding_51 : decode cX1_holding 51 = .ok (.aload_n 0, 1) := all_at dvX1_holding_42 4 rfl
theorem dX1_holding_52 : decode cX1_holding 52 = .ok (.getfield 11, 3) := all_at dvX1_holding_42 5 rfl
theorem dX1_holding_55 : decode cX1_holding 55 = .ok (.iload 5, 2) := all_at dvX1_holding_42 6 rfl
theorem dX1_holding_57 : decode cX1_holding 57 = .ok (.iaload, 1) := all_at dvX1_holding_42 7 rfl
theorem dX1_holding_58 : decode cX1_holding 58 = .ok (.iload 4, 2) := all_at dvX1_holding_42 8 rfl
theorem dX1_holding_60 : decode cX1_holding 60 = .ok (.if_icmp .lt 20, 3) := all_at dvX1_holding_42 9 rfl
theorem dX1_holding_63 : decode cX1_holding 63 = .ok (.aload_n 0, 1) := all_at dvX1_holding_42 10 rfl
theorem dX1_holding_64 : decode cX1_holding 64 = .ok (.getfield 21, 3) := all_at dvX1_holding_42 11 rfl
theorem dX1_holding_67 : decode cX1_holding 67 = .ok (.iload 6, 2) := all_at dvX1_holding_42 12 rfl
theorem dX1_holding_69 : decode cX1_holding 69 = .ok (.iaload, 1) := all_at dvX1_holding_42 13 rfl
theorem dX1_holding_70 : decode cX1_holding 70 = .ok (.istore_n 3, 1) := all_at dvX1_holding_42 14 rfl
theorem dX1_holding_71 : decode cX1_holding 71 = .ok (.aload_n 0, 1) := all_at dvX1_holding_42 15 rfl
theorem dX1_holding_72 : decode cX1_holding 72 = .ok (.getfield 11, 3) := all_at dvX1_holding_42 16 rfl
theorem dX1_holding_75 : decode cX1_holding 75 = .ok (.iload 5, 2) := all_at dvX1_holding_42 17 rfl
theorem dX1_holding_77 : decode cX1_holding 77 = .ok (.iaload, 1) := all_at dvX1_holding_42 18 rfl
theorem dX1_holding_78 : decode cX1_holding 78 = .ok (.istore 4, 2) := all_at dvX1_holding_42 19 rfl
theorem dX1_holding_80 : decode cX1_holding 80 = .ok (.iinc 5 1, 3) := all_at dvX1_holding_42 20 rfl
theorem dX1_holding_83 : decode cX1_holding 83 = .ok (.goto (-66), 3) := all_at dvX1_holding_42 21 rfl
theorem dX1_holding_86 : decode cX1_holding 86 = .ok (.iload_n 3, 1) := all_at dvX1_holding_42 22 rfl
theorem dX1_holding_87 : decode cX1_holding 87 = .ok (.ireturn, 1) := all_at dvX1_holding_42 23 rfl
set_option maxRecDepth 100000 in
theorem dvX3_middleLook_21 : ([(21, .iload_n 1, 1), (22, .ireturn, 1), (29, .iconst 2, 1), (30, .if_icmp .ne 7, 3), (33, .iconst 2, 1), (34, .goto 4, 3), (37, .iload_n 2, 1), (38, .ireturn, 1)] : List (Nat × Instr × Nat)).all (fun q => decide (decode cX3_middleLook q.1 = .ok (q.2.1, q.2.2))) = true := by decide +kernel
theorem dX3_middleLook_21 : decode cX3_middleLook 21 = .ok (.iload_n 1, 1) := all_at dvX3_middleLook_21 0 rfl
theorem dX3_middleLook_22 : decode cX3_middleLook 22 = .ok (.ireturn, 1) := all_at dvX3_middleLook_21 1 rfl
theorem dX3_middleLook_29 : decode cX3_middleLook 29 = .ok (.iconst 2, 1) := all_at dvX3_middleLook_21 2 rfl
theorem dX3_middleLook_30 : decode cX3_middleLook 30 = .ok (.if_icmp .ne 7, 3) := all_at dvX3_middleLook_21 3 rfl
theorem dX3_middleLook_33 : decode cX3_middleLook 33 = .ok (.iconst 2, 1) := all_at dvX3_middleLook_21 4 rfl
theorem dX3_middleLook_34 : decode cX3_middleLook 34 = .ok (.goto 4, 3) := all_at dvX3_middleLook_21 5 rfl
theorem dX3_middleLook_37 : decode cX3_middleLook 37 = .ok (.iload_n 2, 1) := all_at dvX3_middleLook_21 6 rfl
theorem dX3_middleLook_38 : decode cX3_middleLook 38 = .ok (.ireturn, 1) := all_at dvX3_middleLook_21 7 rfl
set_option maxRecDepth 100000 in
theorem dvX3_settleByThree_5 : ([(5, .aload_n 0, 1), (6, .aload_n 0, 1), (7, .iconst 0, 1), (8, .iconst 1, 1), (9, .invokevirtual 77, 3), (12, .iconst 2, 1), (13, .invokevirtual 77, 3), (16, .istore_n 2, 1), (17, .aload_n 0, 1), (18, .iload_n 2, 1), (19, .iload_n 2, 1), (20, .invokevirtual 63, 3), (23, .ireturn, 1), (33, .istore_n 2, 1), (34, .aload_n 0, 1), (35, .iload_n 2, 1), (36, .iload_n 2, 1), (37, .invokevirtual 63, 3), (40, .ireturn, 1)] : List (Nat × Instr × Nat)).all (fun q => decide (decode cX3_settleByThree q.1 = .ok (q.2.1, q.2.2))) = true := by decide +kernel
theorem dX3_settleByThree_5 : decode cX3_settleByThree 5 = .ok (.aload_n 0, 1) := all_at dvX3_settleByThree_5 0 rfl
theorem dX3_settleByThree_6 : decode cX3_settleByThree 6 = .ok (.aload_n 0, 1) := all_at dvX3_settleByThree_5 1 rfl
theorem dX3_settleByThree_7 : decode cX3_settleByThree 7 = .ok (.iconst 0, 1) := all_at dvX3_settleByThree_5 2 rfl
theorem dX3_settleByThree_8 : decode cX3_settleByThree 8 = .ok (.iconst 1, 1) := all_at dvX3_settleByThree_5 3 rfl
theorem dX3_settleByThree_9 : decode cX3_settleByThree 9 = .ok (.invokevirtual 77, 3) := all_at dvX3_settleByThree_5 4 rfl
theorem dX3_settleByThree_12 : decode cX3_settleByThree 12 = .ok (.iconst 2, 1) := all_at dvX3_settleByThree_5 5 rfl
theorem dX3_settleByThree_13 : decode cX3_settleByThree 13 = .ok (.invokevirtual 77, 3) := all_at dvX3_settleByThree_5 6 rfl
theorem dX3_settleByThree_16 : decode cX3_settleByThree 16 = .ok (.istore_n 2, 1) := all_at dvX3_settleByThree_5 7 rfl
theorem dX3_settleByThree_17 : decode cX3_settleByThree 17 = .ok (.aload_n 0, 1) := all_at dvX3_settleByThree_5 8 rfl
theorem dX3_settleByThree_18 : decode cX3_settleByThree 18 = .ok (.iload_n 2, 1) := all_at dvX3_settleByThree_5 9 rfl
theorem dX3_settleByThree_19 : decode cX3_settleByThree 19 = .ok (.iload_n 2, 1) := all_at dvX3_settleByThree_5 10 rfl
theorem dX3_settleByThree_20 : decode cX3_settleByThree 20 = .ok (.invokevirtual 63, 3) := all_at dvX3_settleByThree_5 11 rfl
theorem dX3_settleByThree_23 : decode cX3_settleByThree 23 = .ok (.ireturn, 1) := all_at dvX3_settleByThree_5 12 rfl
theorem dX3_settleByThree_33 : decode cX3_settleByThree 33 = .ok (.istore_n 2, 1) := all_at dvX3_settleByThree_5 13 rfl
theorem dX3_settleByThree_34 : decode cX3_settleByThree 34 = .ok (.aload_n 0, 1) := all_at dvX3_settleByThree_5 14 rfl
theorem dX3_settleByThree_35 : decode cX3_settleByThree 35 = .ok (.iload_n 2, 1) := all_at dvX3_settleByThree_5 15 rfl
theorem dX3_settleByThree_36 : decode cX3_settleByThree 36 = .ok (.iload_n 2, 1) := all_at dvX3_settleByThree_5 16 rfl
theorem dX3_settleByThree_37 : decode cX3_settleByThree 37 = .ok (.invokevirtual 63, 3) := all_at dvX3_settleByThree_5 17 rfl
theorem dX3_settleByThree_40 : decode cX3_settleByThree 40 = .ok (.ireturn, 1) := all_at dvX3_settleByThree_5 18 rfl
set_option maxRecDepth 100000 in
theorem dvX3_weighUp_0 : ([(0, .aload_n 0, 1), (1, .iload_n 1, 1), (2, .iload_n 2, 1), (3, .invokevirtual 51, 3), (6, .aload_n 0, 1), (7, .getfield 27, 3), (10, .iconst 1, 1), (11, .iload_n 2, 1), (12, .invokevirtual 57, 3), (15, .istore_n 3, 1), (16, .aload_n 0, 1), (17, .getfield 10, 3), (20, .getfield 60, 3), (23, .iconst 0, 1), (24, .iaload, 1), (25, .iload_n 3, 1), (26, .if_icmp .ge 5, 3), (29, .iconst 0, 1), (30, .ireturn, 1), (31, .aload_n 0, 1), (32, .getfield 27, 3), (35, .iconst 3, 1), (36, .iload_n 2, 1), (37, .invokevirtual 57, 3)] : List (Nat × Instr × Nat)).all (fun q => decide (decode cX3_weighUp q.1 = .ok (q.2.1, q.2.2))) = true := by decide +kernel
theorem dX3_weighUp_0 : decode cX3_weighUp 0 = .ok (.aload_n 0, 1) := all_at dvX3_weighUp_0 0 rfl
theorem dX3_weighUp_1 : decode cX3_weighUp 1 = .ok (.iload_n 1, 1) := all_at dvX3_weighUp_0 1 rfl
theorem dX3_weighUp_2 : decode cX3_weighUp 2 = .ok (.iload_n 2, 1) := all_at dvX3_weighUp_0 2 rfl
theorem dX3_weighUp_3 : decode cX3_weighUp 3 = .ok (.invokevirtual 51, 3) := all_at dvX3_weighUp_0 3 rfl
theorem dX3_weighUp_6 : decode cX3_weighUp 6 = .ok (.aload_n 0, 1) := all_at dvX3_weighUp_0 4 rfl
theorem dX3_weighUp_7 : decode cX3_weighUp 7 = .ok (.getfield 27, 3) := all_at dvX3_weighUp_0 5 rfl
theorem dX3_weighUp_10 : decode cX3_weighUp 10 = .ok (.iconst 1, 1) := all_at dvX3_weighUp_0 6 rfl
theorem dX3_weighUp_11 : decode cX3_weighUp 11 = .ok (.iload_n 2, 1) := all_at dvX3_weighUp_0 7 rfl
theorem dX3_weighUp_12 : decode cX3_weighUp 12 = .ok (.invokevirtual 57, 3) := all_at dvX3_weighUp_0 8 rfl
theorem dX3_weighUp_15 : decode cX3_weighUp 15 = .ok (.istore_n 3, 1) := all_at dvX3_weighUp_0 9 rfl
theorem dX3_weighUp_16 : decode cX3_weighUp 16 = .ok (.aload_n 0, 1) := all_at dvX3_weighUp_0 10 rfl
theorem dX3_weighUp_17 : decode cX3_weighUp 17 = .ok (.getfield 10, 3) := all_at dvX3_weighUp_0 11 rfl
theorem dX3_weighUp_20 : decode cX3_weighUp 20 = .ok (.getfield 60, 3) := all_at dvX3_weighUp_0 12 rfl
theorem dX3_weighUp_23 : decode cX3_weighUp 23 = .ok (.iconst 0, 1) := all_at dvX3_weighUp_0 13 rfl
theorem dX3_weighUp_24 : decode cX3_weighUp 24 = .ok (.iaload, 1) := all_at dvX3_weighUp_0 14 rfl
theorem dX3_weighUp_25 : decode cX3_weighUp 25 = .ok (.iload_n 3, 1) := all_at dvX3_weighUp_0 15 rfl
theorem dX3_weighUp_26 : decode cX3_weighUp 26 = .ok (.if_icmp .ge 5, 3) := all_at dvX3_weighUp_0 16 rfl
theorem dX3_weighUp_29 : decode cX3_weighUp 29 = .ok (.iconst 0, 1) := all_at dvX3_weighUp_0 17 rfl
theorem dX3_weighUp_30 : decode cX3_weighUp 30 = .ok (.ireturn, 1) := all_at dvX3_weighUp_0 18 rfl
theorem dX3_weighUp_31 : decode cX3_weighUp 31 = .ok (.aload_n 0, 1) := all_at dvX3_weighUp_0 19 rfl
theorem dX3_weighUp_32 : decode cX3_weighUp 32 = .ok (.getfield 27, 3) := all_at dvX3_weighUp_0 20 rfl
theorem dX3_weighUp_35 : decode cX3_weighUp 35 = .ok (.iconst 3, 1) := all_at dvX3_weighUp_0 21 rfl
theorem dX3_weighUp_36 : decode cX3_weighUp 36 = .ok (.iload_n 2, 1) := all_at dvX3_weighUp_0 22 rfl
theorem dX3_weighUp_37 : decode cX3_weighUp 37 = .ok (.invokevirtual 57, 3) := all_at dvX3_weighUp_0 23 rfl
set_option maxRecDepth 100000 in
theorem dvX3_weighUp_40 : ([(40, .iconst 1, 1), (41, .if_icmp .ne 10, 3), (44, .aload_n 0, 1), (45, .iconst 0, 1), (46, .iconst 0, 1), (47, .invokevirtual 63, 3), (50, .ireturn, 1), (51, .aload_n 0, 1), (52, .getfield 10, 3), (55, .getfield 60, 3), (58, .iconst 1, 1), (59, .iaload, 1), (60, .iload_n 3, 1), (61, .if_icmp .ge 5, 3), (64, .iconst 0, 1), (65, .ireturn, 1), (66, .aload_n 0, 1), (67, .getfield 27, 3), (70, .iconst 5, 1), (71, .iload_n 2, 1), (72, .invokevirtual 57, 3), (75, .istore 4, 2), (77, .aload_n 0, 1), (78, .getfield 10, 3)] : List (Nat × Instr × Nat)).all (fun q => decide (decode cX3_weighUp q.1 = .ok (q.2.1, q.2.2))) = true := by decide +kernel
theorem dX3_weighUp_40 : decode cX3_weighUp 40 = .ok (.iconst 1, 1) := all_at dvX3_weighUp_40 0 rfl
theorem dX3_weighUp_41 : decode cX3_weighUp 41 = .ok (.if_icmp .ne 10, 3) := all_at dvX3_weighUp_40 1 rfl
theorem dX3_weighUp_44 : decode cX3_weighUp 44 = .ok (.aload_n 0, 1) := all_at dvX3_weighUp_40 2 rfl
theorem dX3_weighUp_45 : decode cX3_weighUp 45 = .ok (.iconst 0, 1) := all_at dvX3_weighUp_40 3 rfl
theorem dX3_weighUp_46 : decode cX3_weighUp 46 = .ok (.iconst 0, 1) := all_at dvX3_weighUp_40 4 rfl
theorem dX3_weighUp_47 : decode cX3_weighUp 47 = .ok (.invokevirtual 63, 3) := all_at dvX3_weighUp_40 5 rfl
theorem dX3_weighUp_50 : decode cX3_weighUp 50 = .ok (.ireturn, 1) := all_at dvX3_weighUp_40 6 rfl
theorem dX3_weighUp_51 : decode cX3_weighUp 51 = .ok (.aload_n 0, 1) := all_at dvX3_weighUp_40 7 rfl
theorem dX3_weighUp_52 : decode cX3_weighUp 52 = .ok (.getfield 10, 3) := all_at dvX3_weighUp_40 8 rfl
theorem dX3_weighUp_55 : decode cX3_weighUp 55 = .ok (.getfield 60, 3) := all_at dvX3_weighUp_40 9 rfl
theorem dX3_weighUp_58 : decode cX3_weighUp 58 = .ok (.iconst 1, 1) := all_at dvX3_weighUp_40 10 rfl
theorem dX3_weighUp_59 : decode cX3_weighUp 59 = .ok (.iaload, 1) := all_at dvX3_weighUp_40 11 rfl
theorem dX3_weighUp_60 : decode cX3_weighUp 60 = .ok (.iload_n 3, 1) := all_at dvX3_weighUp_40 12 rfl
theorem dX3_weighUp_61 : decode cX3_weighUp 61 = .ok (.if_icmp .ge 5, 3) := all_at dvX3_weighUp_40 13 rfl
theorem dX3_weighUp_64 : decode cX3_weighUp 64 = .ok (.iconst 0, 1) := all_at dvX3_weighUp_40 14 rfl
theorem dX3_weighUp_65 : decode cX3_weighUp 65 = .ok (.ireturn, 1) := all_at dvX3_weighUp_40 15 rfl
theorem dX3_weighUp_66 : decode cX3_weighUp 66 = .ok (.aload_n 0, 1) := all_at dvX3_weighUp_40 16 rfl
theorem dX3_weighUp_67 : decode cX3_weighUp 67 = .ok (.getfield 27, 3) := all_at dvX3_weighUp_40 17 rfl
theorem dX3_weighUp_70 : decode cX3_weighUp 70 = .ok (.iconst 5, 1) := all_at dvX3_weighUp_40 18 rfl
theorem dX3_weighUp_71 : decode cX3_weighUp 71 = .ok (.iload_n 2, 1) := all_at dvX3_weighUp_40 19 rfl
theorem dX3_weighUp_72 : decode cX3_weighUp 72 = .ok (.invokevirtual 57, 3) := all_at dvX3_weighUp_40 20 rfl
theorem dX3_weighUp_75 : decode cX3_weighUp 75 = .ok (.istore 4, 2) := all_at dvX3_weighUp_40 21 rfl
theorem dX3_weighUp_77 : decode cX3_weighUp 77 = .ok (.aload_n 0, 1) := all_at dvX3_weighUp_40 22 rfl
theorem dX3_weighUp_78 : decode cX3_weighUp 78 = .ok (.getfield 10, 3) := all_at dvX3_weighUp_40 23 rfl
set_option maxRecDepth 100000 in
theorem dvX3_weighUp_81 : ([(81, .iconst 0, 1), (82, .iconst 1, 1), (83, .aload_n 0, 1), (84, .getfield 27, 3), (87, .iconst 2, 1), (88, .iload_n 2, 1), (89, .invokevirtual 57, 3), (92, .invokevirtual 66, 3), (95, .ifCond .ne 10, 3), (98, .aload_n 0, 1), (99, .iload 4, 2), (101, .invokevirtual 70, 3), (104, .ireturn, 1), (105, .aload_n 0, 1), (106, .getfield 10, 3), (109, .getfield 60, 3), (112, .iconst 2, 1), (113, .iaload, 1), (114, .iload_n 3, 1), (115, .if_icmp .ge 7, 3), (118, .iconst 2, 1), (119, .goto 9, 3), (122, .aload_n 0, 1), (123, .iload 4, 2)] : List (Nat × Instr × Nat)).all (fun q => decide (decode cX3_weighUp q.1 = .ok (q.2.1, q.2.2))) = true := by decide +kernel
theorem dX3_weighUp_81 : decode cX3_weighUp 81 = .ok (.iconst 0, 1) := all_at dvX3_weighUp_81 0 rfl
theorem dX3_weighUp_82 : decode cX3_weighUp 82 = .ok (.iconst 1, 1) := all_at dvX3_weighUp_81 1 rfl
theorem dX3_weighUp_83 : decode cX3_weighUp 83 = .ok (.aload_n 0, 1) := all_at dvX3_weighUp_81 2 rfl
theorem dX3_weighUp_84 : decode cX3_weighUp 84 = .ok (.getfield 27, 3) := all_at dvX3_weighUp_81 3 rfl
theorem dX3_weighUp_87 : decode cX3_weighUp 87 = .ok (.iconst 2, 1) := all_at dvX3_weighUp_81 4 rfl
theorem dX3_weighUp_88 : decode cX3_weighUp 88 = .ok (.iload_n 2, 1) := all_at dvX3_weighUp_81 5 rfl
theorem dX3_weighUp_89 : decode cX3_weighUp 89 = .ok (.invokevirtual 57, 3) := all_at dvX3_weighUp_81 6 rfl
theorem dX3_weighUp_92 : decode cX3_weighUp 92 = .ok (.invokevirtual 66, 3) := all_at dvX3_weighUp_81 7 rfl
theorem dX3_weighUp_95 : decode cX3_weighUp 95 = .ok (.ifCond .ne 10, 3) := all_at dvX3_weighUp_81 8 rfl
theorem dX3_weighUp_98 : decode cX3_weighUp 98 = .ok (.aload_n 0, 1) := all_at dvX3_weighUp_81 9 rfl
theorem dX3_weighUp_99 : decode cX3_weighUp 99 = .ok (.iload 4, 2) := all_at dvX3_weighUp_81 10 rfl
theorem dX3_weighUp_101 : decode cX3_weighUp 101 = .ok (.invokevirtual 70, 3) := all_at dvX3_weighUp_81 11 rfl
theorem dX3_weighUp_104 : decode cX3_weighUp 104 = .ok (.ireturn, 1) := all_at dvX3_weighUp_81 12 rfl
theorem dX3_weighUp_105 : decode cX3_weighUp 105 = .ok (.aload_n 0, 1) := all_at dvX3_weighUp_81 13 rfl
theorem dX3_weighUp_106 : decode cX3_weighUp 106 = .ok (.getfield 10, 3) := all_at dvX3_weighUp_81 14 rfl
theorem dX3_weighUp_109 : decode cX3_weighUp 109 = .ok (.getfield 60, 3) := all_at dvX3_weighUp_81 15 rfl
theorem dX3_weighUp_112 : decode cX3_weighUp 112 = .ok (.iconst 2, 1) := all_at dvX3_weighUp_81 16 rfl
theorem dX3_weighUp_113 : decode cX3_weighUp 113 = .ok (.iaload, 1) := all_at dvX3_weighUp_81 17 rfl
theorem dX3_weighUp_114 : decode cX3_weighUp 114 = .ok (.iload_n 3, 1) := all_at dvX3_weighUp_81 18 rfl
theorem dX3_weighUp_115 : decode cX3_weighUp 115 = .ok (.if_icmp .ge 7, 3) := all_at dvX3_weighUp_81 19 rfl
theorem dX3_weighUp_118 : decode cX3_weighUp 118 = .ok (.iconst 2, 1) := all_at dvX3_weighUp_81 20 rfl
theorem dX3_weighUp_119 : decode cX3_weighUp 119 = .ok (.goto 9, 3) := all_at dvX3_weighUp_81 21 rfl
theorem dX3_weighUp_122 : decode cX3_weighUp 122 = .ok (.aload_n 0, 1) := all_at dvX3_weighUp_81 22 rfl
theorem dX3_weighUp_123 : decode cX3_weighUp 123 = .ok (.iload 4, 2) := all_at dvX3_weighUp_81 23 rfl
theorem dX3_weighUp_125 : decode cX3_weighUp 125 = .ok (.invokevirtual 74, 3) := by decide +kernel
theorem dX3_weighUp_128 : decode cX3_weighUp 128 = .ok (.ireturn, 1) := by decide +kernel
set_option maxRecDepth 100000 in
theorem dvX4_leastLeftOut_0 : ([(0, .iconst 1, 1), (1, .aload_n 0, 1), (2, .getfield 16, 3), (5, .ishl, 1), (6, .iconst 1, 1), (7, .isub, 1), (8, .istore_n 1, 1), (9, .iload_n 1, 1), (10, .iconst 1, 1), (11, .isub, 1), (12, .istore_n 2, 1), (13, .iload_n 2, 1), (14, .ifCond .lt 45, 3), (17, .iload_n 2, 1), (18, .invokestatic 31, 3), (21, .iload_n 1, 1), (22, .invokestatic 31, 3), (25, .if_icmp .gt 7, 3), (28, .iconst 1, 1), (29, .goto 4, 3), (32, .iconst 0, 1), (33, .istore_n 3, 1), (34, .iload_n 3, 1), (35, .ifCond .eq 18, 3)] : List (Nat × Instr × Nat)).all (fun q => decide (decode cX4_leastLeftOut q.1 = .ok (q.2.1, q.2.2))) = true := by decide +kernel
theorem dX4_leastLeftOut_0 : decode cX4_leastLeftOut 0 = .ok (.iconst 1, 1) := all_at dvX4_leastLeftOut_0 0 rfl
theorem dX4_leastLeftOut_1 : decode cX4_leastLeftOut 1 = .ok (.aload_n 0, 1) := all_at dvX4_leastLeftOut_0 1 rfl
theorem dX4_leastLeftOut_2 : decode cX4_leastLeftOut 2 = .ok (.getfield 16, 3) := all_at dvX4_leastLeftOut_0 2 rfl
theorem dX4_leastLeftOut_5 : decode cX4_leastLeftOut 5 = .ok (.ishl, 1) := all_at dvX4_leastLeftOut_0 3 rfl
theorem dX4_leastLeftOut_6 : decode cX4_leastLeftOut 6 = .ok (.iconst 1, 1) := all_at dvX4_leastLeftOut_0 4 rfl
theorem dX4_leastLeftOut_7 : decode cX4_leastLeftOut 7 = .ok (.isub, 1) := all_at dvX4_leastLeftOut_0 5 rfl
theorem dX4_leastLeftOut_8 : decode cX4_leastLeftOut 8 = .ok (.istore_n 1, 1) := all_at dvX4_leastLeftOut_0 6 rfl
theorem dX4_leastLeftOut_9 : decode cX4_leastLeftOut 9 = .ok (.iload_n 1, 1) := all_at dvX4_leastLeftOut_0 7 rfl
theorem dX4_leastLeftOut_10 : decode cX4_leastLeftOut 10 = .ok (.iconst 1, 1) := all_at dvX4_leastLeftOut_0 8 rfl
theorem dX4_leastLeftOut_11 : decode cX4_leastLeftOut 11 = .ok (.isub, 1) := all_at dvX4_leastLeftOut_0 9 rfl
theorem dX4_leastLeftOut_12 : decode cX4_leastLeftOut 12 = .ok (.istore_n 2, 1) := all_at dvX4_leastLeftOut_0 10 rfl
theorem dX4_leastLeftOut_13 : decode cX4_leastLeftOut 13 = .ok (.iload_n 2, 1) := all_at dvX4_leastLeftOut_0 11 rfl
theorem dX4_leastLeftOut_14 : decode cX4_leastLeftOut 14 = .ok (.ifCond .lt 45, 3) := all_at dvX4_leastLeftOut_0 12 rfl
theorem dX4_leastLeftOut_17 : decode cX4_leastLeftOut 17 = .ok (.iload_n 2, 1) := all_at dvX4_leastLeftOut_0 13 rfl
theorem dX4_leastLeftOut_18 : decode cX4_leastLeftOut 18 = .ok (.invokestatic 31, 3) := all_at dvX4_leastLeftOut_0 14 rfl
theorem dX4_leastLeftOut_21 : decode cX4_leastLeftOut 21 = .ok (.iload_n 1, 1) := all_at dvX4_leastLeftOut_0 15 rfl
theorem dX4_leastLeftOut_22 : decode cX4_leastLeftOut 22 = .ok (.invokestatic 31, 3) := all_at dvX4_leastLeftOut_0 16 rfl
theorem dX4_leastLeftOut_25 : decode cX4_leastLeftOut 25 = .ok (.if_icmp .gt 7, 3) := all_at dvX4_leastLeftOut_0 17 rfl
theorem dX4_leastLeftOut_28 : decode cX4_leastLeftOut 28 = .ok (.iconst 1, 1) := all_at dvX4_leastLeftOut_0 18 rfl
theorem dX4_leastLeftOut_29 : decode cX4_leastLeftOut 29 = .ok (.goto 4, 3) := all_at dvX4_leastLeftOut_0 19 rfl
theorem dX4_leastLeftOut_32 : decode cX4_leastLeftOut 32 = .ok (.iconst 0, 1) := all_at dvX4_leastLeftOut_0 20 rfl
theorem dX4_leastLeftOut_33 : decode cX4_leastLeftOut 33 = .ok (.istore_n 3, 1) := all_at dvX4_leastLeftOut_0 21 rfl
theorem dX4_leastLeftOut_34 : decode cX4_leastLeftOut 34 = .ok (.iload_n 3, 1) := all_at dvX4_leastLeftOut_0 22 rfl
theorem dX4_leastLeftOut_35 : decode cX4_leastLeftOut 35 = .ok (.ifCond .eq 18, 3) := all_at dvX4_leastLeftOut_0 23 rfl
set_option maxRecDepth 100000 in
theorem dvX4_leastLeftOut_38 : ([(38, .aload_n 0, 1), (39, .iload_n 2, 1), (40, .invokevirtual 37, 3), (43, .aload_n 0, 1), (44, .iload_n 2, 1), (45, .invokevirtual 40, 3), (48, .if_icmp .gt 5, 3), (51, .iload_n 2, 1), (52, .istore_n 1, 1), (53, .iinc 2 (-1), 3), (56, .goto (-43), 3), (59, .iload_n 1, 1), (60, .ireturn, 1)] : List (Nat × Instr × Nat)).all (fun q => decide (decode cX4_leastLeftOut q.1 = .ok (q.2.1, q.2.2))) = true := by decide +kernel
theorem dX4_leastLeftOut_38 : decode cX4_leastLeftOut 38 = .ok (.aload_n 0, 1) := all_at dvX4_leastLeftOut_38 0 rfl
theorem dX4_leastLeftOut_39 : decode cX4_leastLeftOut 39 = .ok (.iload_n 2, 1) := all_at dvX4_leastLeftOut_38 1 rfl
theorem dX4_leastLeftOut_40 : decode cX4_leastLeftOut 40 = .ok (.invokevirtual 37, 3) := all_at dvX4_leastLeftOut_38 2 rfl
theorem dX4_leastLeftOut_43 : decode cX4_leastLeftOut 43 = .ok (.aload_n 0, 1) := all_at dvX4_leastLeftOut_38 3 rfl
theorem dX4_leastLeftOut_44 : decode cX4_leastLeftOut 44 = .ok (.iload_n 2, 1) := all_at dvX4_leastLeftOut_38 4 rfl
theorem dX4_leastLeftOut_45 : decode cX4_leastLeftOut 45 = .ok (.invokevirtual 40, 3) := all_at dvX4_leastLeftOut_38 5 rfl
theorem dX4_leastLeftOut_48 : decode cX4_leastLeftOut 48 = .ok (.if_icmp .gt 5, 3) := all_at dvX4_leastLeftOut_38 6 rfl
theorem dX4_leastLeftOut_51 : decode cX4_leastLeftOut 51 = .ok (.iload_n 2, 1) := all_at dvX4_leastLeftOut_38 7 rfl
theorem dX4_leastLeftOut_52 : decode cX4_leastLeftOut 52 = .ok (.istore_n 1, 1) := all_at dvX4_leastLeftOut_38 8 rfl
theorem dX4_leastLeftOut_53 : decode cX4_leastLeftOut 53 = .ok (.iinc 2 (-1), 3) := all_at dvX4_leastLeftOut_38 9 rfl
theorem dX4_leastLeftOut_56 : decode cX4_leastLeftOut 56 = .ok (.goto (-43), 3) := all_at dvX4_leastLeftOut_38 10 rfl
theorem dX4_leastLeftOut_59 : decode cX4_leastLeftOut 59 = .ok (.iload_n 1, 1) := all_at dvX4_leastLeftOut_38 11 rfl
theorem dX4_leastLeftOut_60 : decode cX4_leastLeftOut 60 = .ok (.ireturn, 1) := all_at dvX4_leastLeftOut_38 12 rfl
set_option maxRecDepth 100000 in
theorem dvX5_arrange_0 : ([(0, .iload_n 1, 1), (1, .aload_n 0, 1), (2, .getfield 29, 3), (5, .if_icmp .ne 4, 3), (8, .return_, 1), (9, .aload_n 0, 1), (10, .ldc 32, 2), (12, .putfield 26, 3), (15, .aload_n 0, 1), (16, .iconst 0, 1), (17, .iload_n 1, 1), (18, .iconst 0, 1), (19, .invokevirtual 33, 3), (22, .aload_n 0, 1), (23, .iload_n 1, 1), (24, .putfield 29, 3), (27, .return_, 1)] : List (Nat × Instr × Nat)).all (fun q => decide (decode cX5_arrange q.1 = .ok (q.2.1, q.2.2))) = true := by decide +kernel
theorem dX5_arrange_0 : decode cX5_arrange 0 = .ok (.iload_n 1, 1) := all_at dvX5_arrange_0 0 rfl
theorem dX5_arrange_1 : decode cX5_arrange 1 = .ok (.aload_n 0, 1) := all_at dvX5_arrange_0 1 rfl
theorem dX5_arrange_2 : decode cX5_arrange 2 = .ok (.getfield 29, 3) := all_at dvX5_arrange_0 2 rfl
theorem dX5_arrange_5 : decode cX5_arrange 5 = .ok (.if_icmp .ne 4, 3) := all_at dvX5_arrange_0 3 rfl
theorem dX5_arrange_8 : decode cX5_arrange 8 = .ok (.return_, 1) := all_at dvX5_arrange_0 4 rfl
theorem dX5_arrange_9 : decode cX5_arrange 9 = .ok (.aload_n 0, 1) := all_at dvX5_arrange_0 5 rfl
theorem dX5_arrange_10 : decode cX5_arrange 10 = .ok (.ldc 32, 2) := all_at dvX5_arrange_0 6 rfl
theorem dX5_arrange_12 : decode cX5_arrange 12 = .ok (.putfield 26, 3) := all_at dvX5_arrange_0 7 rfl
theorem dX5_arrange_15 : decode cX5_arrange 15 = .ok (.aload_n 0, 1) := all_at dvX5_arrange_0 8 rfl
theorem dX5_arrange_16 : decode cX5_arrange 16 = .ok (.iconst 0, 1) := all_at dvX5_arrange_0 9 rfl
theorem dX5_arrange_17 : decode cX5_arrange 17 = .ok (.iload_n 1, 1) := all_at dvX5_arrange_0 10 rfl
theorem dX5_arrange_18 : decode cX5_arrange 18 = .ok (.iconst 0, 1) := all_at dvX5_arrange_0 11 rfl
theorem dX5_arrange_19 : decode cX5_arrange 19 = .ok (.invokevirtual 33, 3) := all_at dvX5_arrange_0 12 rfl
theorem dX5_arrange_22 : decode cX5_arrange 22 = .ok (.aload_n 0, 1) := all_at dvX5_arrange_0 13 rfl
theorem dX5_arrange_23 : decode cX5_arrange 23 = .ok (.iload_n 1, 1) := all_at dvX5_arrange_0 14 rfl
theorem dX5_arrange_24 : decode cX5_arrange 24 = .ok (.putfield 29, 3) := all_at dvX5_arrange_0 15 rfl
theorem dX5_arrange_27 : decode cX5_arrange 27 = .ok (.return_, 1) := all_at dvX5_arrange_0 16 rfl
set_option maxRecDepth 100000 in
theorem dvX5_place_0 : ([(0, .iload_n 3, 1), (1, .aload_n 0, 1), (2, .getfield 26, 3), (5, .if_icmp .lt 4, 3), (8, .return_, 1), (9, .iload_n 1, 1), (10, .aload_n 0, 1), (11, .getfield 22, 3), (14, .if_icmp .lt 26, 3), (17, .aload_n 0, 1), (18, .iload_n 3, 1), (19, .putfield 26, 3), (22, .aload_n 0, 1), (23, .getfield 13, 3), (26, .iconst 0, 1), (27, .aload_n 0, 1), (28, .getfield 19, 3), (31, .iconst 0, 1), (32, .aload_n 0, 1), (33, .getfield 22, 3), (36, .invokestatic 37, 3), (39, .return_, 1), (40, .iconst 0, 1), (41, .istore 4, 2)] : List (Nat × Instr × Nat)).all (fun q => decide (decode cX5_place q.1 = .ok (q.2.1, q.2.2))) = true := by decide +kernel
theorem dX5_place_0 : decode cX5_place 0 = .ok (.iload_n 3, 1) := all_at dvX5_place_0 0 rfl
theorem dX5_place_1 : decode cX5_place 1 = .ok (.aload_n 0, 1) := all_at dvX5_place_0 1 rfl
theorem dX5_place_2 : decode cX5_place 2 = .ok (.getfield 26, 3) := all_at dvX5_place_0 2 rfl
theorem dX5_place_5 : decode cX5_place 5 = .ok (.if_icmp .lt 4, 3) := all_at dvX5_place_0 3 rfl
theorem dX5_place_8 : decode cX5_place 8 = .ok (.return_, 1) := all_at dvX5_place_0 4 rfl
theorem dX5_place_9 : decode cX5_place 9 = .ok (.iload_n 1, 1) := all_at dvX5_place_0 5 rfl
theorem dX5_place_10 : decode cX5_place 10 = .ok (.aload_n 0, 1) := all_at dvX5_place_0 6 rfl
theorem dX5_place_11 : decode cX5_place 11 = .ok (.getfield 22, 3) := all_at dvX5_place_0 7 rfl
theorem dX5_place_14 : decode cX5_place 14 = .ok (.if_icmp .lt 26, 3) := all_at dvX5_place_0 8 rfl
theorem dX5_place_17 : decode cX5_place 17 = .ok (.aload_n 0, 1) := all_at dvX5_place_0 9 rfl
theorem dX5_place_18 : decode cX5_place 18 = .ok (.iload_n 3, 1) := all_at dvX5_place_0 10 rfl
theorem dX5_place_19 : decode cX5_place 19 = .ok (.putfield 26, 3) := all_at dvX5_place_0 11 rfl
theorem dX5_place_22 : decode cX5_place 22 = .ok (.aload_n 0, 1) := all_at dvX5_place_0 12 rfl
theorem dX5_place_23 : decode cX5_place 23 = .ok (.getfield 13, 3) := all_at dvX5_place_0 13 rfl
theorem dX5_place_26 : decode cX5_place 26 = .ok (.iconst 0, 1) := all_at dvX5_place_0 14 rfl
theorem dX5_place_27 : decode cX5_place 27 = .ok (.aload_n 0, 1) := all_at dvX5_place_0 15 rfl
theorem dX5_place_28 : decode cX5_place 28 = .ok (.getfield 19, 3) := all_at dvX5_place_0 16 rfl
theorem dX5_place_31 : decode cX5_place 31 = .ok (.iconst 0, 1) := all_at dvX5_place_0 17 rfl
theorem dX5_place_32 : decode cX5_place 32 = .ok (.aload_n 0, 1) := all_at dvX5_place_0 18 rfl
theorem dX5_place_33 : decode cX5_place 33 = .ok (.getfield 22, 3) := all_at dvX5_place_0 19 rfl
theorem dX5_place_36 : decode cX5_place 36 = .ok (.invokestatic 37, 3) := all_at dvX5_place_0 20 rfl
theorem dX5_place_39 : decode cX5_place 39 = .ok (.return_, 1) := all_at dvX5_place_0 21 rfl
theorem dX5_place_40 : decode cX5_place 40 = .ok (.iconst 0, 1) := all_at dvX5_place_0 22 rfl
theorem dX5_place_41 : decode cX5_place 41 = .ok (.istore 4, 2) := all_at dvX5_place_0 23 rfl
set_option maxRecDepth 100000 in
theorem dvX5_place_43 : ([(43, .iload 4, 2), (45, .iload_n 2, 1), (46, .if_icmp .ge 68, 3), (49, .aload_n 0, 1), (50, .getfield 13, 3), (53, .iload_n 1, 1), (54, .iload 4, 2), (56, .iastore, 1), (57, .aload_n 0, 1), (58, .getfield 16, 3), (61, .iload 4, 2), (63, .dup2, 1), (64, .iaload, 1), (65, .aload_n 0, 1), (66, .getfield 9, 3), (69, .iload_n 1, 1), (70, .iaload, 1), (71, .iadd, 1), (72, .iastore, 1), (73, .aload_n 0, 1), (74, .iload_n 1, 1), (75, .iconst 1, 1), (76, .iadd, 1), (77, .iload_n 2, 1)] : List (Nat × Instr × Nat)).all (fun q => decide (decode cX5_place q.1 = .ok (q.2.1, q.2.2))) = true := by decide +kernel
theorem dX5_place_43 : decode cX5_place 43 = .ok (.iload 4, 2) := all_at dvX5_place_43 0 rfl
theorem dX5_place_45 : decode cX5_place 45 = .ok (.iload_n 2, 1) := all_at dvX5_place_43 1 rfl
theorem dX5_place_46 : decode cX5_place 46 = .ok (.if_icmp .ge 68, 3) := all_at dvX5_place_43 2 rfl
theorem dX5_place_49 : decode cX5_place 49 = .ok (.aload_n 0, 1) := all_at dvX5_place_43 3 rfl
theorem dX5_place_50 : decode cX5_place 50 = .ok (.getfield 13, 3) := all_at dvX5_place_43 4 rfl
theorem dX5_place_53 : decode cX5_place 53 = .ok (.iload_n 1, 1) := all_at dvX5_place_43 5 rfl
theorem dX5_place_54 : decode cX5_place 54 = .ok (.iload 4, 2) := all_at dvX5_place_43 6 rfl
theorem dX5_place_56 : decode cX5_place 56 = .ok (.iastore, 1) := all_at dvX5_place_43 7 rfl
theorem dX5_place_57 : decode cX5_place 57 = .ok (.aload_n 0, 1) := all_at dvX5_place_43 8 rfl
theorem dX5_place_58 : decode cX5_place 58 = .ok (.getfield 16, 3) := all_at dvX5_place_43 9 rfl
theorem dX5_place_61 : decode cX5_place 61 = .ok (.iload 4, 2) := all_at dvX5_place_43 10 rfl
theorem dX5_place_63 : decode cX5_place 63 = .ok (.dup2, 1) := all_at dvX5_place_43 11 rfl
theorem dX5_place_64 : decode cX5_place 64 = .ok (.iaload, 1) := all_at dvX5_place_43 12 rfl
theorem dX5_place_65 : decode cX5_place 65 = .ok (.aload_n 0, 1) := all_at dvX5_place_43 13 rfl
theorem dX5_place_66 : decode cX5_place 66 = .ok (.getfield 9, 3) := all_at dvX5_place_43 14 rfl
theorem dX5_place_69 : decode cX5_place 69 = .ok (.iload_n 1, 1) := all_at dvX5_place_43 15 rfl
theorem dX5_place_70 : decode cX5_place 70 = .ok (.iaload, 1) := all_at dvX5_place_43 16 rfl
theorem dX5_place_71 : decode cX5_place 71 = .ok (.iadd, 1) := all_at dvX5_place_43 17 rfl
theorem dX5_place_72 : decode cX5_place 72 = .ok (.iastore, 1) := all_at dvX5_place_43 18 rfl
theorem dX5_place_73 : decode cX5_place 73 = .ok (.aload_n 0, 1) := all_at dvX5_place_43 19 rfl
theorem dX5_place_74 : decode cX5_place 74 = .ok (.iload_n 1, 1) := all_at dvX5_place_43 20 rfl
theorem dX5_place_75 : decode cX5_place 75 = .ok (.iconst 1, 1) := all_at dvX5_place_43 21 rfl
theorem dX5_place_76 : decode cX5_place 76 = .ok (.iadd, 1) := all_at dvX5_place_43 22 rfl
theorem dX5_place_77 : decode cX5_place 77 = .ok (.iload_n 2, 1) := all_at dvX5_place_43 23 rfl
set_option maxRecDepth 100000 in
theorem dvX5_place_78 : ([(78, .iload_n 3, 1), (79, .aload_n 0, 1), (80, .getfield 16, 3), (83, .iload 4, 2), (85, .iaload, 1), (86, .invokestatic 43, 3), (89, .invokevirtual 33, 3), (92, .aload_n 0, 1), (93, .getfield 16, 3), (96, .iload 4, 2), (98, .dup2, 1), (99, .iaload, 1), (100, .aload_n 0, 1), (101, .getfield 9, 3), (104, .iload_n 1, 1), (105, .iaload, 1), (106, .isub, 1), (107, .iastore, 1), (108, .iinc 4 1, 3), (111, .goto (-68), 3), (114, .return_, 1)] : List (Nat × Instr × Nat)).all (fun q => decide (decode cX5_place q.1 = .ok (q.2.1, q.2.2))) = true := by decide +kernel
theorem dX5_place_78 : decode cX5_place 78 = .ok (.iload_n 3, 1) := all_at dvX5_place_78 0 rfl
theorem dX5_place_79 : decode cX5_place 79 = .ok (.aload_n 0, 1) := all_at dvX5_place_78 1 rfl
theorem dX5_place_80 : decode cX5_place 80 = .ok (.getfield 16, 3) := all_at dvX5_place_78 2 rfl
theorem dX5_place_83 : decode cX5_place 83 = .ok (.iload 4, 2) := all_at dvX5_place_78 3 rfl
theorem dX5_place_85 : decode cX5_place 85 = .ok (.iaload, 1) := all_at dvX5_place_78 4 rfl
theorem dX5_place_86 : decode cX5_place 86 = .ok (.invokestatic 43, 3) := all_at dvX5_place_78 5 rfl
theorem dX5_place_89 : decode cX5_place 89 = .ok (.invokevirtual 33, 3) := all_at dvX5_place_78 6 rfl
theorem dX5_place_92 : decode cX5_place 92 = .ok (.aload_n 0, 1) := all_at dvX5_place_78 7 rfl
theorem dX5_place_93 : decode cX5_place 93 = .ok (.getfield 16, 3) := all_at dvX5_place_78 8 rfl
theorem dX5_place_96 : decode cX5_place 96 = .ok (.iload 4, 2) := all_at dvX5_place_78 9 rfl
theorem dX5_place_98 : decode cX5_place 98 = .ok (.dup2, 1) := all_at dvX5_place_78 10 rfl
theorem dX5_place_99 : decode cX5_place 99 = .ok (.iaload, 1) := all_at dvX5_place_78 11 rfl
theorem dX5_place_100 : decode cX5_place 100 = .ok (.aload_n 0, 1) := all_at dvX5_place_78 12 rfl
theorem dX5_place_101 : decode cX5_place 101 = .ok (.getfield 9, 3) := all_at dvX5_place_78 13 rfl
theorem dX5_place_104 : decode cX5_place 104 = .ok (.iload_n 1, 1) := all_at dvX5_place_78 14 rfl
theorem dX5_place_105 : decode cX5_place 105 = .ok (.iaload, 1) := all_at dvX5_place_78 15 rfl
theorem dX5_place_106 : decode cX5_place 106 = .ok (.isub, 1) := all_at dvX5_place_78 16 rfl
theorem dX5_place_107 : decode cX5_place 107 = .ok (.iastore, 1) := all_at dvX5_place_78 17 rfl
theorem dX5_place_108 : decode cX5_place 108 = .ok (.iinc 4 1, 3) := all_at dvX5_place_78 18 rfl
theorem dX5_place_111 : decode cX5_place 111 = .ok (.goto (-68), 3) := all_at dvX5_place_78 19 rfl
theorem dX5_place_114 : decode cX5_place 114 = .ok (.return_, 1) := all_at dvX5_place_78 20 rfl
set_option maxHeartbeats 4000000 in
set_option maxRecDepth 100000 in
/-- X1_holding -/
theorem c_X1_holding (l : Launch) (dC : Nat → ClassId) (dI : Nat → Nat → Nat) (sz : Nat) (ak av : Nat → Nat) (h : Nat) (g : Nat → Nat → Nat) (ca : Nat → Nat → ClassId) (iv : Nat → Nat → Int32) (lv : Nat → Nat → Int64) (fa : Nat → Nat → Nat → Int32) (la : Nat → Nat → Nat → Int64) (hI : IX iv fa) (a : Int32) (b : Int32) (h_a : 0 ≤ a.toInt ∧ a.toInt ≤ 5) : Met l yX1_holding (wc yX1_holding cX1_holding 7 (some .int)) ({ frames := 3, cells := 0, slots := 0, locals := 67 } : Room) (pWZ ak av (dC, dI) classes (WX h g ca iv lv fa la) (TX ca) sz [.ref (g 11 3), .int a, .int b]) (va_Qi (fun r (u : SS) => ∃ (na_1_6 : Nat → Int32), (∀ j, inb (bA 1 6 j) (na_1_6 j)) ∧ (True) ∧ u = (iv, lv, (u2 fa 1 6 na_1_6), la)) (bX (dC, dI) h g ca (va_A (WX h g ca iv lv fa la) sz)) (va_A (WX h g ca iv lv fa la) sz)) 0 0 (va_A (WX h g ca iv lv fa la) sz) := by
  refine Met.ofW (cc := cX1_holding) (maxL := 7) (ret := (some .int)) (by decide) rfl ?_
  intro p e s m args below meth c s₁ B hml hv
  obtain ⟨rfl, hsz, hP, hK, hD0, hZ⟩ := hv
  have hx := B.exec
  have hb := B.bytes
  have hr := B.returns
  have ht := tb_tl (atoms_spec (ws := wc yX1_holding cX1_holding 7 (some .int)) B.pre)
  have hown : s.vm.findClass RX1 = some m.cls := findClass_of_methodNamed B.named
  have hlocks := B.notSynchronized
  subst hsz
  have hD := hD0.self (sz := s.heap.size)
  generalize hAe : va_A (WX h g ca iv lv fa la) s.heap.size = A at hD hZ ⊢
  have hA : ∀ q : Nat, s.heap.size ≤ q → A q := fun q h => by rw [← hAe]; exact Or.inr h
  have hS : va_S A s.heap s.heap [] := va_S.rf
  have hl := lv_entry [.ref (g 11 3), .int a, .int b] (n := 7) (Nat.le_of_ble_eq_true rfl)
  rw [lg_entry_eq]
  generalize (lg_sl [.ref (g 11 3), .int a, .int b] ++ List.replicate (7 - (lg_sl [.ref (g 11 3), .int a, .int b]).length) Slot.unset).toArray = ls at hl ⊢
  have hl : lv_has ls 7 [(0, .ref (g 11 3)), (1, .int a), (2, .int b)] := hl
  refine lv_aload_n hx hb dX1_holding_0 rfl (lv_at hl 0 rfl) ?_
  refine lv_iload_n hx hb dX1_holding_1 rfl (lv_at hl 2 rfl) ?_
  have hFc := free_all hD hS hA
  refine va_callv (va_runV (As := [.int b]) (rest := []) ⟨hx, hb, hml, hown, ht⟩ (c_X1_findCounting l dC dI s.heap.size h g ca iv lv fa la hI b) (kV 1 ht m_604 m_606 m_5 m_81 m_607 rfl rfl hd_X1_findCounting_v ⟨Nat.le_of_ble_eq_true rfl, Nat.le_of_ble_eq_true rfl⟩) (vW hP hK hD (rX_1 hK hP)) rfl rfl hl.1 rfl (lv_room (Nat.le_of_ble_eq_true rfl)) dX1_holding_2 ⟨Nat.le_of_ble_eq_true rfl, Nat.le_of_ble_eq_true rfl⟩) hS (fun q _ h => hFc q h) hFc (fun u t H1 locs ht9 hvm hr1 hB hz1 hk1 hS => ?_)
  obtain ⟨n2, hn2, rfl⟩ := hr1
  obtain ⟨hP, hD⟩ := hB
  rw [ht9] at hP
  generalize H1 = H at hP hS ⊢
  have hP : va_P (dC, dI) classes (WX h g ca iv lv (u2 fa 1 6 n2) la) H := hP
  have hD : va_D A (WX h g ca iv lv (u2 fa 1 6 n2) la) := (show va_D _ (WX h g ca iv lv (u2 fa 1 6 n2) la) from hD).weaken (fun _ _ _ h => hFc _ h)
  obtain ⟨tz3, hztz3, hytz3⟩ := hZ.1.1
  refine va_gets hx hb hztz3 hS hown (ht _ m_616) (fun _ h9 => h9) dX1_holding_5 ?_
  refine lv_iload_n hx hb dX1_holding_8 rfl (lv_at hl 1 rfl) ?_
  refine va_ti (v := .int (C_AF (a : Int32).toNatClampNeg)) hx hb hytz3 hS (vp_in_iff.mpr ⟨by omega, by omega⟩) rfl dX1_holding_9 ?_
  refine lv_topi (fun v4 ev4 => ?_)
  refine lv_istore_n (lv' := [(3, .int v4), (0, .ref (g 11 3)), (1, .int a), (2, .int b)]) hx hb dX1_holding_10 rfl hl (by decide) rfl (fun ls hl => ?_)
  refine lv_iconst (v := (-1)) hx hb dX1_holding_11 (by decide) ?_
  refine lv_istore (lv' := [(4, .int (-1)), (3, .int v4), (0, .ref (g 11 3)), (1, .int a), (2, .int b)]) hx hb dX1_holding_12 hl (by decide) rfl (fun ls hl => ?_)
  refine lv_iconst (v := 0) hx hb dX1_holding_14 (by decide) ?_
  refine lv_istore (lv' := [(5, .int 0), (4, .int (-1)), (3, .int v4), (0, .ref (g 11 3)), (1, .int a), (2, .int b)]) hx hb dX1_holding_15 hl (by decide) rfl (fun ls hl => ?_)
  have lp132 : ∀ (nn132 : Nat) (x131_5 : Int32) (x131_4 : Int32) (x131_3 : Int32), 0 ≤ x131_5.toInt ∧ x131_5.toInt ≤ 8 → (-1) ≤ x131_4.toInt → 8 - x131_5.toInt < (nn132 : Int) → ∀ (H : Heap) (locs : List Loc), ∀ (ls : Array Slot), va_P (dC, dI) classes (WX h g ca iv lv (u2 fa 1 6 n2) la) H → va_D A (WX h g ca iv lv (u2 fa 1 6 n2) la) → va_S A s.heap H locs → lv_has ls 7 [(5, .int x131_5), (4, .int x131_4), (3, .int x131_3), (0, .ref (g 11 3)), (1, .int a), (2, .int b)] → W p l e ({ frames := 3, cells := 0, slots := 0, locals := 67 } : Room) s m ([.ref (g 11 3), .int a, .int b] : List Value).toArray below meth c H locs 0 0 (MQ below (va_Qi (fun r (u : SS) => ∃ (na_1_6 : Nat → Int32), (∀ j, inb (bA 1 6 j) (na_1_6 j)) ∧ (True) ∧ u = (iv, lv, (u2 fa 1 6 na_1_6), la)) (bX (dC, dI) h g ca A) A) ([.ref (g 11 3), .int a, .int b] : List Value).toArray s 0 0 A) (F0 m 17 ls []) := by
    intro nn132
    induction nn132 with
    | zero => intro x131_5 x131_4 x131_3 hx131_5 hx131_4 hm132; exfalso; omega
    | succ nn132 ih132 =>
      intro x131_5 x131_4 x131_3 hx131_5 hx131_4 hm132 H locs ls hP hD hS hl
      refine lv_iload hx hb dX1_holding_17 (lv_at hl 0 rfl) ?_
      refine lv_aload_n hx hb dX1_holding_19 rfl (lv_at hl 3 rfl) ?_
      have i_1_7 : 0 ≤ (iv 1 7).toInt ∧ (iv 1 7).toInt ≤ 8 := hI.1 1 7
      refine gX_1_7 hx hb ht hown hK hP m_196 (v := (iv 1 7)) rfl dX1_holding_20 ?_
      refine lv_icmp_ge (tgt := 86) hx hb dX1_holding_23 (by decide) (fun c133 => ?_) (fun c133 => ?_)
      · have fc133 := z_le (rfl : ((iv 1 7)).toInt = _) (rfl : (x131_5).toInt = _) c133
        refine lv_iload_n hx hb dX1_holding_86 rfl (lv_at hl 2 rfl) ?_
        have hP9 : va_P (dC, dI) classes (WX h g ca iv lv (u2 fa 1 6 n2) la) H := hP
        have hD9 : va_D A (WX h g ca iv lv (u2 fa 1 6 n2) la) := hD
        exact W.iret (v := x131_3) hx hb hr (fun t ht9 hW => ⟨⟨x131_3, (iv, lv, (u2 fa 1 6 n2), la), rfl, ⟨n2, hn2, trivial, rfl⟩, by rw [ht9]; exact hP9, hD9⟩, hS.F ht9⟩) hS.2.2 dX1_holding_87
      · have fc133 := z_nle (rfl : ((iv 1 7)).toInt = _) (rfl : (x131_5).toInt = _) c133
        refine lv_aload_n hx hb dX1_holding_26 rfl (lv_at hl 3 rfl) ?_
        refine lv_iload hx hb dX1_holding_27 (lv_at hl 0 rfl) ?_
        refine lv_iload_n hx hb dX1_holding_29 rfl (lv_at hl 4 rfl) ?_
        refine vp_callSi (W.runV (As := [.int x131_5, .int a]) (rest := []) ⟨hx, hb, hml, hown, ht⟩ (c_X1_lastOf l dC dI h g ca iv lv (u2 fa 1 6 n2) la (IX_a (c := 1) (k := 6) hI hn2) x131_5 a ⟨by omega, by omega⟩) (kV 2 ht m_618 m_620 m_8 m_81 m_621 rfl rfl hd_X1_lastOf_v ⟨Nat.le_of_ble_eq_true rfl, Nat.le_of_ble_eq_true rfl⟩) (vR hP hK (rX_1 hK hP)) rfl rfl hl.1 rfl (lv_room (Nat.le_of_ble_eq_true rfl)) dX1_holding_30 ⟨Nat.le_of_ble_eq_true rfl, Nat.le_of_ble_eq_true rfl⟩) (fun r134 hr134 => ?_)
        refine lv_istore (lv' := [(6, .int r134), (5, .int x131_5), (4, .int x131_4), (3, .int x131_3), (0, .ref (g 11 3)), (1, .int a), (2, .int b)]) hx hb dX1_holding_33 hl (by decide) rfl (fun ls hl => ?_)
        refine lv_aload_n hx hb dX1_holding_35 rfl (lv_at hl 4 rfl) ?_
        refine gX_1_6 hx hb ht hown hK hP m_195 dX1_holding_36 ?_
        refine lv_iload hx hb dX1_holding_39 (lv_at hl 1 rfl) ?_
        refine lX_1_6 hx hb hK hP (f := n2) rfl (vp_in_iff.mpr ⟨by omega, by omega⟩) dX1_holding_41 ?_
        refine lv_topi (fun v135 ev135 => ?_)
        have tv135 : 0 ≤ v135.toInt ∧ v135.toInt ≤ 1 := by rw [ev135]; exact hn2 _
        refine lv_if_eq (tgt := 80) hx hb dX1_holding_42 (by decide) (fun c136 => ?_) (fun c136 => ?_)
        · have fc136 := z_eq (rfl : (v135).toInt = _) (by decide : (0 : Int32).toInt = 0) c136
          obtain ⟨v137, ev137⟩ : ∃ y : Int32, y = x131_5 + 1 := ⟨_, rfl⟩
          have tv137 := z_add ev137 rfl (by decide : (1 : Int32).toInt = 1) (by omega) (by omega)
          refine lv_iinc (v := v137) (lv' := [(5, .int v137), (6, .int r134), (4, .int x131_4), (3, .int x131_3), (0, .ref (g 11 3)), (1, .int a), (2, .int b)]) hx hb dX1_holding_80 hl (k := 1) rfl (by rw [ev137]; rfl) (by decide) rfl (fun ls hl => ?_)
          refine lv_goto (tgt := 17) hx hb dX1_holding_83 (by decide) ?_
          exact ih132 v137 x131_4 x131_3 ⟨by omega, by omega⟩ (by omega) (by omega) _ _ ls hP hD hS (lv_sub hl [0, 2, 3, 4, 5, 6] rfl)
        · have fc136 := z_ne (rfl : (v135).toInt = _) (by decide : (0 : Int32).toInt = 0) c136
          refine lv_iload hx hb dX1_holding_45 (lv_at hl 0 rfl) ?_
          refine lv_iconst (v := (-1)) hx hb dX1_holding_47 (by decide) ?_
          refine lv_icmp_eq (tgt := 80) hx hb dX1_holding_48 (by decide) (fun c138 => ?_) (fun c138 => ?_)
          · have fc138 := z_eq (rfl : (r134).toInt = _) (by decide : ((-1) : Int32).toInt = (-1)) c138
            obtain ⟨v139, ev139⟩ : ∃ y : Int32, y = x131_5 + 1 := ⟨_, rfl⟩
            have tv139 := z_add ev139 rfl (by decide : (1 : Int32).toInt = 1) (by omega) (by omega)
            refine lv_iinc (v := v139) (lv' := [(5, .int v139), (6, .int r134), (4, .int x131_4), (3, .int x131_3), (0, .ref (g 11 3)), (1, .int a), (2, .int b)]) hx hb dX1_holding_80 hl (k := 1) rfl (by rw [ev139]; rfl) (by decide) rfl (fun ls hl => ?_)
            refine lv_goto (tgt := 17) hx hb dX1_holding_83 (by decide) ?_
            exact ih132 v139 x131_4 x131_3 ⟨by omega, by omega⟩ (by omega) (by omega) _ _ ls hP hD hS (lv_sub hl [0, 2, 3, 4, 5, 6] rfl)
          · have fc138 := z_ne (rfl : (r134).toInt = _) (by decide : ((-1) : Int32).toInt = (-1)) c138
            refine lv_aload_n hx hb dX1_holding_51 rfl (lv_at hl 4 rfl) ?_
            refine gX_1_0 hx hb ht hown hK hP m_189 dX1_holding_52 ?_
            refine lv_iload hx hb dX1_holding_55 (lv_at hl 1 rfl) ?_
            refine lX_1_0 hx hb hK hP (f := (fa 1 0)) rfl (vp_in_iff.mpr ⟨by omega, by omega⟩) dX1_holding_57 ?_
            refine lv_topi (fun v140 ev140 => ?_)
            refine lv_iload hx hb dX1_holding_58 (lv_at hl 2 rfl) ?_
            refine lv_icmp_lt (tgt := 80) hx hb dX1_holding_60 (by decide) (fun c141 => ?_) (fun c141 => ?_)
            · have fc141 := z_lt (rfl : (v140).toInt = _) (rfl : (x131_4).toInt = _) c141
              obtain ⟨v142, ev142⟩ : ∃ y : Int32, y = x131_5 + 1 := ⟨_, rfl⟩
              have tv142 := z_add ev142 rfl (by decide : (1 : Int32).toInt = 1) (by omega) (by omega)
              refine lv_iinc (v := v142) (lv' := [(5, .int v142), (6, .int r134), (4, .int x131_4), (3, .int x131_3), (0, .ref (g 11 3)), (1, .int a), (2, .int b)]) hx hb dX1_holding_80 hl (k := 1) rfl (by rw [ev142]; rfl) (by decide) rfl (fun ls hl => ?_)
              refine lv_goto (tgt := 17) hx hb dX1_holding_83 (by decide) ?_
              exact ih132 v142 x131_4 x131_3 ⟨by omega, by omega⟩ (by omega) (by omega) _ _ ls hP hD hS (lv_sub hl [0, 2, 3, 4, 5, 6] rfl)
            · have fc141 := z_nlt (rfl : (v140).toInt = _) (rfl : (x131_4).toInt = _) c141
              refine lv_aload_n hx hb dX1_holding_63 rfl (lv_at hl 4 rfl) ?_
              refine gX_1_3 hx hb ht hown hK hP m_192 dX1_holding_64 ?_
              refine lv_iload hx hb dX1_holding_67 (lv_at hl 0 rfl) ?_
              refine lX_1_3 hx hb hK hP (f := (fa 1 3)) rfl (vp_in_iff.mpr ⟨by omega, by omega⟩) dX1_holding_69 ?_
              refine lv_topi (fun v143 ev143 => ?_)
              refine lv_istore_n (lv' := [(3, .int v143), (6, .int r134), (5, .int x131_5), (4, .int x131_4), (0, .ref (g 11 3)), (1, .int a), (2, .int b)]) hx hb dX1_holding_70 rfl hl (by decide) rfl (fun ls hl => ?_)
              refine lv_aload_n hx hb dX1_holding_71 rfl (lv_at hl 4 rfl) ?_
              refine gX_1_0 hx hb ht hown hK hP m_189 dX1_holding_72 ?_
              refine lv_iload hx hb dX1_holding_75 (lv_at hl 2 rfl) ?_
              refine lX_1_0 hx hb hK hP (f := (fa 1 0)) rfl (vp_in_iff.mpr ⟨by omega, by omega⟩) dX1_holding_77 ?_
              refine lv_topi (fun v144 ev144 => ?_)
              obtain rfl : v140 = v144 := ev140.trans ev144.symm
              refine lv_istore (lv' := [(4, .int v140), (3, .int v143), (6, .int r134), (5, .int x131_5), (0, .ref (g 11 3)), (1, .int a), (2, .int b)]) hx hb dX1_holding_78 hl (by decide) rfl (fun ls hl => ?_)
              obtain ⟨v145, ev145⟩ : ∃ y : Int32, y = x131_5 + 1 := ⟨_, rfl⟩
              have tv145 := z_add ev145 rfl (by decide : (1 : Int32).toInt = 1) (by omega) (by omega)
              refine lv_iinc (v := v145) (lv' := [(5, .int v145), (4, .int v140), (3, .int v143), (6, .int r134), (0, .ref (g 11 3)), (1, .int a), (2, .int b)]) hx hb dX1_holding_80 hl (k := 3) rfl (by rw [ev145]; rfl) (by decide) rfl (fun ls hl => ?_)
              refine lv_goto (tgt := 17) hx hb dX1_holding_83 (by decide) ?_
              exact ih132 v145 v140 v143 ⟨by omega, by omega⟩ (by omega) (by omega) _ _ ls hP hD hS (lv_sub hl [0, 1, 2, 4, 5, 6] rfl)
  exact lp132 9 0 (-1) v4 ⟨by decide, by decide⟩ (by decide) (by first | decide | omega) _ _ ls hP hD hS (lv_sub hl [0, 1, 2, 3, 4, 5] rfl)
set_option maxHeartbeats 4000000 in
set_option maxRecDepth 100000 in
/-- X3_lesserOf -/
theorem c_X3_lesserOf_x (l : Launch) (dC : Nat → ClassId) (dI : Nat → Nat → Nat) (h : Nat) (g : Nat → Nat → Nat) (ca : Nat → Nat → ClassId) (iv : Nat → Nat → Int32) (lv : Nat → Nat → Int64) (fa : Nat → Nat → Nat → Int32) (la : Nat → Nat → Nat → Int64) (hI : IX iv fa) (a : Int32) (b : Int32) (h_a : 0 ≤ a.toInt ∧ a.toInt ≤ 2) (h_b : 0 ≤ b.toInt ∧ b.toInt ≤ 2) : Met l yX3_lesserOf (wc yX3_lesserOf cX3_lesserOf 3 (some .int)) ({ frames := 0, cells := 0, slots := 0, locals := 0 } : Room) (pR (dC, dI) classes (WX h g ca iv lv fa la) (TX ca) [.ref (g 11 5), .int a, .int b]) (vp_Si (fun r => (0 ≤ r.toInt ∧ r.toInt ≤ 2) ∧ ((r.toInt = a.toInt ∨ r.toInt = b.toInt)))) 0 0 (fun _ => False) := by
  refine Met.ofW (cc := cX3_lesserOf) (maxL := 3) (ret := (some .int)) (by decide) rfl ?_
  intro p e s m args below meth c s₁ B hml hv
  obtain ⟨rfl, hP, hK⟩ := hv
  have hx := B.exec
  have hb := B.bytes
  have hr := B.returns
  have ht := tb_tl (atoms_spec (ws := wc yX3_lesserOf cX3_lesserOf 3 (some .int)) B.pre)
  have hown : s.vm.findClass RX3 = some m.cls := findClass_of_methodNamed B.named
  have hlocks := B.notSynchronized
  have hl := lv_entry [.ref (g 11 5), .int a, .int b] (n := 3) (Nat.le_of_ble_eq_true rfl)
  rw [lg_entry_eq]
  generalize (lg_sl [.ref (g 11 5), .int a, .int b] ++ List.replicate (3 - (lg_sl [.ref (g 11 5), .int a, .int b]).length) Slot.unset).toArray = ls at hl ⊢
  have hl : lv_has ls 3 [(0, .ref (g 11 5)), (1, .int a), (2, .int b)] := hl
  refine lv_aload_n hx hb dX3_lesserOf_0 rfl (lv_at hl 0 rfl) ?_
  refine gX_3_2 hx hb ht hown hK hP m_281 dX3_lesserOf_1 ?_
  refine gX_30_1 hx hb ht hown hK hP m_265 dX3_lesserOf_4 ?_
  refine lv_iload_n hx hb dX3_lesserOf_7 rfl (lv_at hl 2 rfl) ?_
  refine lX_30_1 hx hb hK hP (f := (la 30 1)) rfl (vp_in_iff.mpr ⟨by omega, by omega⟩) dX3_lesserOf_8 ?_
  refine lv_topl (fun w1 ew1 => ?_)
  refine lv_aload_n hx hb dX3_lesserOf_9 rfl (lv_at hl 0 rfl) ?_
  refine gX_3_2 hx hb ht hown hK hP m_281 dX3_lesserOf_10 ?_
  refine gX_30_0 hx hb ht hown hK hP m_262 dX3_lesserOf_13 ?_
  refine lv_iload_n hx hb dX3_lesserOf_16 rfl (lv_at hl 1 rfl) ?_
  refine lX_30_0 hx hb hK hP (f := (la 30 0)) rfl (vp_in_iff.mpr ⟨by omega, by omega⟩) dX3_lesserOf_17 ?_
  refine lv_topl (fun w2 ew2 => ?_)
  refine lv_lmul hx hb dX3_lesserOf_18 ?_
  refine lv_topl (fun w3 ew3 => ?_)
  refine lv_aload_n hx hb dX3_lesserOf_19 rfl (lv_at hl 0 rfl) ?_
  refine gX_3_2 hx hb ht hown hK hP m_281 dX3_lesserOf_20 ?_
  refine gX_30_1 hx hb ht hown hK hP m_265 dX3_lesserOf_23 ?_
  refine lv_iload_n hx hb dX3_lesserOf_26 rfl (lv_at hl 1 rfl) ?_
  refine lX_30_1 hx hb hK hP (f := (la 30 1)) rfl (vp_in_iff.mpr ⟨by omega, by omega⟩) dX3_lesserOf_27 ?_
  refine lv_topl (fun w4 ew4 => ?_)
  refine lv_aload_n hx hb dX3_lesserOf_28 rfl (lv_at hl 0 rfl) ?_
  refine gX_3_2 hx hb ht hown hK hP m_281 dX3_lesserOf_29 ?_
  refine gX_30_0 hx hb ht hown hK hP m_262 dX3_lesserOf_32 ?_
  refine lv_iload_n hx hb dX3_lesserOf_35 rfl (lv_at hl 2 rfl) ?_
  refine lX_30_0 hx hb hK hP (f := (la 30 0)) rfl (vp_in_iff.mpr ⟨by omega, by omega⟩) dX3_lesserOf_36 ?_
  refine lv_topl (fun w5 ew5 => ?_)
  refine lv_lmul hx hb dX3_lesserOf_37 ?_
  refine lv_topl (fun w6 ew6 => ?_)
  refine W.lcmp hx hb dX3_lesserOf_38 ?_
  refine lv_topi (fun v7 ev7 => ?_)
  refine lv_if_ge (tgt := 46) hx hb dX3_lesserOf_39 (by decide) (fun c8 => ?_) (fun c8 => ?_)
  · have fc8 := zc_nlt ev7 (rfl : (w3).toInt = _) (rfl : (w6).toInt = _) (Int32.not_lt.mpr c8)
    refine lv_iload_n hx hb dX3_lesserOf_46 rfl (lv_at hl 1 rfl) ?_
    exact W.iret (v := a) hx hb hr (fun t ht9 hW => ⟨a, rfl, ⟨⟨by omega, by omega⟩, (show ((a : Int32).toInt = (a).toInt ∨ (a : Int32).toInt = (b).toInt) from by omega)⟩, ht9⟩) (fun q hq => by cases hq) dX3_lesserOf_47
  · have fc8 := zc_lt ev7 (rfl : (w3).toInt = _) (rfl : (w6).toInt = _) (Int32.not_le.mp c8)
    refine lv_iload_n hx hb dX3_lesserOf_42 rfl (lv_at hl 2 rfl) ?_
    refine lv_goto (tgt := 47) hx hb dX3_lesserOf_43 (by decide) ?_
    exact W.iret (v := b) hx hb hr (fun t ht9 hW => ⟨b, rfl, ⟨⟨by omega, by omega⟩, (show ((b : Int32).toInt = (a).toInt ∨ (b : Int32).toInt = (b).toInt) from by omega)⟩, ht9⟩) (fun q hq => by cases hq) dX3_lesserOf_47
set_option maxHeartbeats 4000000 in
set_option maxRecDepth 100000 in
/-- X3_middleLook -/
theorem c_X3_middleLook (l : Launch) (dC : Nat → ClassId) (dI : Nat → Nat → Nat) (h : Nat) (g : Nat → Nat → Nat) (ca : Nat → Nat → ClassId) (iv : Nat → Nat → Int32) (lv : Nat → Nat → Int64) (fa : Nat → Nat → Nat → Int32) (la : Nat → Nat → Nat → Int64) (hI : IX iv fa) : Met l yX3_middleLook (wc yX3_middleLook cX3_middleLook 3 (some .int)) ({ frames := 1, cells := 0, slots := 0, locals := 22 } : Room) (pR (dC, dI) classes (WX h g ca iv lv fa la) (TX ca) [.ref (g 11 5)]) (vp_Si (fun r => 0 ≤ r.toInt ∧ r.toInt ≤ 2)) 0 0 (fun _ => False) := by
  refine Met.ofW (cc := cX3_middleLook) (maxL := 3) (ret := (some .int)) (by decide) rfl ?_
  intro p e s m args below meth c s₁ B hml hv
  obtain ⟨rfl, hP, hK⟩ := hv
  have hx := B.exec
  have hb := B.bytes
  have hr := B.returns
  have ht := tb_tl (atoms_spec (ws := wc yX3_middleLook cX3_middleLook 3 (some .int)) B.pre)
  have hown : s.vm.findClass RX3 = some m.cls := findClass_of_methodNamed B.named
  have hlocks := B.notSynchronized
  have hl := lv_entry [.ref (g 11 5)] (n := 3) (Nat.le_of_ble_eq_true rfl)
  rw [lg_entry_eq]
  generalize (lg_sl [.ref (g 11 5)] ++ List.replicate (3 - (lg_sl [.ref (g 11 5)]).length) Slot.unset).toArray = ls at hl ⊢
  have hl : lv_has ls 3 [(0, .ref (g 11 5))] := hl
  refine lv_aload_n hx hb dX3_middleLook_0 rfl (lv_at hl 0 rfl) ?_
  refine lv_iconst (v := 0) hx hb dX3_middleLook_1 (by decide) ?_
  refine lv_iconst (v := 1) hx hb dX3_middleLook_2 (by decide) ?_
  refine vp_callSi (W.runV (As := [.int 0, .int 1]) (rest := []) ⟨hx, hb, hml, hown, ht⟩ (c_X3_lesserOf_x l dC dI h g ca iv lv fa la hI 0 1 ⟨by decide, by decide⟩ ⟨by decide, by decide⟩) (kV 2 ht m_638 m_640 m_11 m_83 m_641 rfl rfl hd_X3_lesserOf_v ⟨Nat.le_of_ble_eq_true rfl, Nat.le_of_ble_eq_true rfl⟩) (vR hP hK (rX_3 hK hP)) rfl rfl hl.1 rfl (lv_room (Nat.le_of_ble_eq_true rfl)) dX3_middleLook_3 ⟨Nat.le_of_ble_eq_true rfl, Nat.le_of_ble_eq_true rfl⟩) (fun r1 hr1 => ?_)
  obtain ⟨hr1, xr1_0⟩ := hr1
  have : (0 : Int32).toInt = 0 := (by decide)
  have : (1 : Int32).toInt = 1 := (by decide)
  have xr1_0 : ((r1 : Int32).toInt = (0 : Int32).toInt ∨ (r1 : Int32).toInt = (1 : Int32).toInt) := xr1_0
  refine lv_istore_n (lv' := [(1, .int r1), (0, .ref (g 11 5))]) hx hb dX3_middleLook_6 rfl hl (by decide) rfl (fun ls hl => ?_)
  refine lv_iconst (v := 1) hx hb dX3_middleLook_7 (by decide) ?_
  refine lv_iload_n hx hb dX3_middleLook_8 rfl (lv_at hl 0 rfl) ?_
  refine lv_isub hx hb dX3_middleLook_9 ?_
  refine lv_topi (fun v2 ev2 => ?_)
  have tv2 := z_sub ev2 (by decide : (1 : Int32).toInt = 1) (rfl : (r1).toInt = _) (by omega) (by omega)
  refine lv_istore_n (lv' := [(2, .int v2), (1, .int r1), (0, .ref (g 11 5))]) hx hb dX3_middleLook_10 rfl hl (by decide) rfl (fun ls hl => ?_)
  refine lv_aload_n hx hb dX3_middleLook_11 rfl (lv_at hl 2 rfl) ?_
  refine lv_iload_n hx hb dX3_middleLook_12 rfl (lv_at hl 1 rfl) ?_
  refine lv_iconst (v := 2) hx hb dX3_middleLook_13 (by decide) ?_
  refine vp_callSi (W.runV (As := [.int r1, .int 2]) (rest := []) ⟨hx, hb, hml, hown, ht⟩ (c_X3_lesserOf_x l dC dI h g ca iv lv fa la hI r1 2 ⟨by omega, by omega⟩ ⟨by decide, by decide⟩) (kV 2 ht m_638 m_640 m_11 m_83 m_641 rfl rfl hd_X3_lesserOf_v ⟨Nat.le_of_ble_eq_true rfl, Nat.le_of_ble_eq_true rfl⟩) (vR hP hK (rX_3 hK hP)) rfl rfl hl.1 rfl (lv_room (Nat.le_of_ble_eq_true rfl)) dX3_middleLook_14 ⟨Nat.le_of_ble_eq_true rfl, Nat.le_of_ble_eq_true rfl⟩) (fun r3 hr3 => ?_)
  obtain ⟨hr3, xr3_0⟩ := hr3
  have : (2 : Int32).toInt = 2 := (by decide)
  have xr3_0 : ((r3 : Int32).toInt = (r1 : Int32).toInt ∨ (r3 : Int32).toInt = (2 : Int32).toInt) := xr3_0
  refine lv_iconst (v := 2) hx hb dX3_middleLook_17 (by decide) ?_
  refine lv_icmp_ne (tgt := 23) hx hb dX3_middleLook_18 (by decide) (fun c4 => ?_) (fun c4 => ?_)
  · have fc4 := z_ne (rfl : (r3).toInt = _) (by decide : (2 : Int32).toInt = 2) c4
    refine lv_aload_n hx hb dX3_middleLook_23 rfl (lv_at hl 2 rfl) ?_
    refine lv_iload_n hx hb dX3_middleLook_24 rfl (lv_at hl 0 rfl) ?_
    refine lv_iconst (v := 2) hx hb dX3_middleLook_25 (by decide) ?_
    have : 0 ≤ (v2 : Int32).toInt ∧ (v2 : Int32).toInt ≤ 2 := ⟨by omega, by omega⟩
    refine vp_callSi (W.runV (As := [.int v2, .int 2]) (rest := []) ⟨hx, hb, hml, hown, ht⟩ (c_X3_lesserOf_x l dC dI h g ca iv lv fa la hI v2 2 ⟨by omega, by omega⟩ ⟨by decide, by decide⟩) (kV 2 ht m_638 m_640 m_11 m_83 m_641 rfl rfl hd_X3_lesserOf_v ⟨Nat.le_of_ble_eq_true rfl, Nat.le_of_ble_eq_true rfl⟩) (vR hP hK (rX_3 hK hP)) rfl rfl hl.1 rfl (lv_room (Nat.le_of_ble_eq_true rfl)) dX3_middleLook_26 ⟨Nat.le_of_ble_eq_true rfl, Nat.le_of_ble_eq_true rfl⟩) (fun r5 hr5 => ?_)
    obtain ⟨hr5, xr5_0⟩ := hr5
    have xr5_0 : ((r5 : Int32).toInt = (v2 : Int32).toInt ∨ (r5 : Int32).toInt = (2 : Int32).toInt) := xr5_0
    refine lv_iconst (v := 2) hx hb dX3_middleLook_29 (by decide) ?_
    refine lv_icmp_ne (tgt := 37) hx hb dX3_middleLook_30 (by decide) (fun c6 => ?_) (fun c6 => ?_)
    · have fc6 := z_ne (rfl : (r5).toInt = _) (by decide : (2 : Int32).toInt = 2) c6
      refine lv_iload_n hx hb dX3_middleLook_37 rfl (lv_at hl 0 rfl) ?_
      exact W.iret (v := v2) hx hb hr (fun t ht9 hW => ⟨v2, rfl, ⟨by omega, by omega⟩, ht9⟩) (fun q hq => by cases hq) dX3_middleLook_38
    · have fc6 := z_eq (rfl : (r5).toInt = _) (by decide : (2 : Int32).toInt = 2) c6
      refine lv_iconst (v := 2) hx hb dX3_middleLook_33 (by decide) ?_
      refine lv_goto (tgt := 38) hx hb dX3_middleLook_34 (by decide) ?_
      exact W.iret (v := 2) hx hb hr (fun t ht9 hW => ⟨2, rfl, ⟨by decide, by decide⟩, ht9⟩) (fun q hq => by cases hq) dX3_middleLook_38
  · have fc4 := z_eq (rfl : (r3).toInt = _) (by decide : (2 : Int32).toInt = 2) c4
    refine lv_iload_n hx hb dX3_middleLook_21 rfl (lv_at hl 1 rfl) ?_
    exact W.iret (v := r1) hx hb hr (fun t ht9 hW => ⟨r1, rfl, ⟨by omega, by omega⟩, ht9⟩) (fun q hq => by cases hq) dX3_middleLook_22
set_option maxHeartbeats 4000000 in
set_option maxRecDepth 100000 in
/-- X3_settleByThree -/
theorem c_X3_settleByThree (l : Launch) (dC : Nat → ClassId) (dI : Nat → Nat → Nat) (sz : Nat) (h : Nat) (g : Nat → Nat → Nat) (ca : Nat → Nat → ClassId) (iv : Nat → Nat → Int32) (lv : Nat → Nat → Int64) (fa : Nat → Nat → Nat → Int32) (la : Nat → Nat → Nat → Int64) (hI : IX iv fa) (a : Int32) : Met l yX3_settleByThree (wc yX3_settleByThree cX3_settleByThree 3 (some .int)) ({ frames := 2, cells := 0, slots := 0, locals := 66 } : Room) (pW (dC, dI) classes (WX h g ca iv lv fa la) (TX ca) sz [.ref (g 11 5), .int a]) (va_Qi (fun r (u : SS) => ∃ (ni_3_3 : Int32) (ni_3_4 : Int32), inb (bI 3 3) ni_3_3 ∧ inb (bI 3 4) ni_3_4 ∧ (1 ≤ r.toInt ∧ r.toInt ≤ 1) ∧ u = ((u2 (u2 iv 3 3 ni_3_3) 3 4 ni_3_4), lv, fa, la)) (bX (dC, dI) h g ca (va_A (WX h g ca iv lv fa la) sz)) (va_A (WX h g ca iv lv fa la) sz)) 0 0 (va_A (WX h g ca iv lv fa la) sz) := by
  refine Met.ofW (cc := cX3_settleByThree) (maxL := 3) (ret := (some .int)) (by decide) rfl ?_
  intro p e s m args below meth c s₁ B hml hv
  obtain ⟨rfl, hsz, hP, hK, hD0⟩ := hv
  have hx := B.exec
  have hb := B.bytes
  have hr := B.returns
  have ht := tb_tl (atoms_spec (ws := wc yX3_settleByThree cX3_settleByThree 3 (some .int)) B.pre)
  have hown : s.vm.findClass RX3 = some m.cls := findClass_of_methodNamed B.named
  have hlocks := B.notSynchronized
  subst hsz
  have hD := hD0.self (sz := s.heap.size)
  generalize hAe : va_A (WX h g ca iv lv fa la) s.heap.size = A at hD ⊢
  have hA : ∀ q : Nat, s.heap.size ≤ q → A q := fun q h => by rw [← hAe]; exact Or.inr h
  have hS : va_S A s.heap s.heap [] := va_S.rf
  have hl := lv_entry [.ref (g 11 5), .int a] (n := 3) (Nat.le_of_ble_eq_true rfl)
  rw [lg_entry_eq]
  generalize (lg_sl [.ref (g 11 5), .int a] ++ List.replicate (3 - (lg_sl [.ref (g 11 5), .int a]).length) Slot.unset).toArray = ls at hl ⊢
  have hl : lv_has ls 3 [(0, .ref (g 11 5)), (1, .int a)] := hl
  refine lv_iload_n hx hb dX3_settleByThree_0 rfl (lv_at hl 1 rfl) ?_
  refine lv_iconst (v := 1) hx hb dX3_settleByThree_1 (by decide) ?_
  refine lv_icmp_ne (tgt := 24) hx hb dX3_settleByThree_2 (by decide) (fun c1 => ?_) (fun c1 => ?_)
  · have fc1 := z_ne (rfl : (a).toInt = _) (by decide : (1 : Int32).toInt = 1) c1
    refine lv_iload_n hx hb dX3_settleByThree_24 rfl (lv_at hl 1 rfl) ?_
    refine lv_iconst (v := 2) hx hb dX3_settleByThree_25 (by decide) ?_
    refine lv_icmp_ne (tgt := 41) hx hb dX3_settleByThree_26 (by decide) (fun c2 => ?_) (fun c2 => ?_)
    · have fc2 := z_ne (rfl : (a).toInt = _) (by decide : (2 : Int32).toInt = 2) c2
      refine lv_aload_n hx hb dX3_settleByThree_41 rfl (lv_at hl 0 rfl) ?_
      have hFc := free_all hD hS hA
      refine va_calli (va_runV (As := []) (rest := []) ⟨hx, hb, hml, hown, ht⟩ (c_X3_settleByNearest l dC dI s.heap.size h g ca iv lv fa la hI) (kV 0 ht m_650 m_652 m_14 m_83 m_653 rfl rfl hd_X3_settleByNearest_v ⟨Nat.le_of_ble_eq_true rfl, Nat.le_of_ble_eq_true rfl⟩) (vW hP hK hD (rX_3 hK hP)) rfl rfl hl.1 rfl (lv_room (Nat.le_of_ble_eq_true rfl)) dX3_settleByThree_42 ⟨Nat.le_of_ble_eq_true rfl, Nat.le_of_ble_eq_true rfl⟩) hS (fun q _ h => hFc q h) hFc (fun r3 u t H1 locs ht9 hvm hr3 hB hz1 hk1 hS => ?_)
      obtain ⟨n4, n5, hn4, hn5, hr3, rfl⟩ := hr3
      have hn4 : 0 ≤ n4.toInt ∧ n4.toInt ≤ 2 := hn4
      have hn5 : 0 ≤ n5.toInt ∧ n5.toInt ≤ 2 := hn5
      obtain ⟨hP, hD⟩ := hB
      rw [ht9] at hP
      generalize H1 = H at hP hS ⊢
      have hP : va_P (dC, dI) classes (WX h g ca (u2 (u2 iv 3 3 n4) 3 4 n5) lv fa la) H := hP
      have hD : va_D A (WX h g ca (u2 (u2 iv 3 3 n4) 3 4 n5) lv fa la) := (show va_D _ (WX h g ca (u2 (u2 iv 3 3 n4) 3 4 n5) lv fa la) from hD).weaken (fun _ _ _ h => hFc _ h)
      have hP9 : va_P (dC, dI) classes (WX h g ca (u2 (u2 iv 3 3 n4) 3 4 n5) lv fa la) H := hP
      have hD9 : va_D A (WX h g ca (u2 (u2 iv 3 3 n4) 3 4 n5) lv fa la) := hD
      exact W.iret (v := r3) hx hb hr (fun t ht9 hW => ⟨⟨r3, ((u2 (u2 iv 3 3 n4) 3 4 n5), lv, fa, la), rfl, ⟨n4, n5, (show inb (0, 2) n4 from ⟨by omega, by omega⟩), (show inb (0, 2) n5 from ⟨by omega, by omega⟩), ⟨by omega, by omega⟩, rfl⟩, by rw [ht9]; exact hP9, hD9⟩, hS.F ht9⟩) hS.2.2 dX3_settleByThree_45
    · have fc2 := z_eq (rfl : (a).toInt = _) (by decide : (2 : Int32).toInt = 2) c2
      refine lv_aload_n hx hb dX3_settleByThree_29 rfl (lv_at hl 0 rfl) ?_
      refine vp_callSi (W.runV (As := []) (rest := []) ⟨hx, hb, hml, hown, ht⟩ (c_X3_middleLook l dC dI h g ca iv lv fa la hI) (kV 0 ht m_646 m_648 m_13 m_83 m_649 rfl rfl hd_X3_middleLook_v ⟨Nat.le_of_ble_eq_true rfl, Nat.le_of_ble_eq_true rfl⟩) (vR hP hK (rX_3 hK hP)) rfl rfl hl.1 rfl (lv_room (Nat.le_of_ble_eq_true rfl)) dX3_settleByThree_30 ⟨Nat.le_of_ble_eq_true rfl, Nat.le_of_ble_eq_true rfl⟩) (fun r6 hr6 => ?_)
      refine lv_istore_n (lv' := [(2, .int r6), (0, .ref (g 11 5)), (1, .int a)]) hx hb dX3_settleByThree_33 rfl hl (by decide) rfl (fun ls hl => ?_)
      refine lv_aload_n hx hb dX3_settleByThree_34 rfl (lv_at hl 1 rfl) ?_
      refine lv_iload_n hx hb dX3_settleByThree_35 rfl (lv_at hl 0 rfl) ?_
      refine lv_iload_n hx hb dX3_settleByThree_36 rfl (lv_at hl 0 rfl) ?_
      have hFc := free_all hD hS hA
      refine va_calli (va_runV (As := [.int r6, .int r6]) (rest := []) ⟨hx, hb, hml, hown, ht⟩ (c_X3_settle l dC dI s.heap.size h g ca iv lv fa la hI r6 r6 ⟨by omega, by omega⟩ ⟨by omega, by omega⟩) (kV 2 ht m_622 m_624 m_9 m_83 m_625 rfl rfl hd_X3_settle_v ⟨Nat.le_of_ble_eq_true rfl, Nat.le_of_ble_eq_true rfl⟩) (vW hP hK hD (rX_3 hK hP)) rfl rfl hl.1 rfl (lv_room (Nat.le_of_ble_eq_true rfl)) dX3_settleByThree_37 ⟨Nat.le_of_ble_eq_true rfl, Nat.le_of_ble_eq_true rfl⟩) hS (fun q _ h => hFc q h) hFc (fun r7 u t H1 locs ht9 hvm hr7 hB hz1 hk1 hS => ?_)
      obtain ⟨n8, n9, hn8, hn9, hr7, rfl⟩ := hr7
      have hn8 : 0 ≤ n8.toInt ∧ n8.toInt ≤ 2 := hn8
      have hn9 : 0 ≤ n9.toInt ∧ n9.toInt ≤ 2 := hn9
      obtain ⟨hP, hD⟩ := hB
      rw [ht9] at hP
      generalize H1 = H at hP hS ⊢
      have hP : va_P (dC, dI) classes (WX h g ca (u2 (u2 iv 3 3 n8) 3 4 n9) lv fa la) H := hP
      have hD : va_D A (WX h g ca (u2 (u2 iv 3 3 n8) 3 4 n9) lv fa la) := (show va_D _ (WX h g ca (u2 (u2 iv 3 3 n8) 3 4 n9) lv fa la) from hD).weaken (fun _ _ _ h => hFc _ h)
      have hP9 : va_P (dC, dI) classes (WX h g ca (u2 (u2 iv 3 3 n8) 3 4 n9) lv fa la) H := hP
      have hD9 : va_D A (WX h g ca (u2 (u2 iv 3 3 n8) 3 4 n9) lv fa la) := hD
      exact W.iret (v := r7) hx hb hr (fun t ht9 hW => ⟨⟨r7, ((u2 (u2 iv 3 3 n8) 3 4 n9), lv, fa, la), rfl, ⟨n8, n9, (show inb (0, 2) n8 from ⟨by omega, by omega⟩), (show inb (0, 2) n9 from ⟨by omega, by omega⟩), ⟨by omega, by omega⟩, rfl⟩, by rw [ht9]; exact hP9, hD9⟩, hS.F ht9⟩) hS.2.2 dX3_settleByThree_40
  · have fc1 := z_eq (rfl : (a).toInt = _) (by decide : (1 : Int32).toInt = 1) c1
    refine lv_aload_n hx hb dX3_settleByThree_5 rfl (lv_at hl 0 rfl) ?_
    refine lv_aload_n hx hb dX3_settleByThree_6 rfl (lv_at hl 0 rfl) ?_
    refine lv_iconst (v := 0) hx hb dX3_settleByThree_7 (by decide) ?_
    refine lv_iconst (v := 1) hx hb dX3_settleByThree_8 (by decide) ?_
    refine vp_callSi (W.runV (As := [.int 0, .int 1]) (rest := [.ref (g 11 5)]) ⟨hx, hb, hml, hown, ht⟩ (c_X3_lesserOf_x l dC dI h g ca iv lv fa la hI 0 1 ⟨by decide, by decide⟩ ⟨by decide, by decide⟩) (kV 2 ht m_638 m_640 m_11 m_83 m_641 rfl rfl hd_X3_lesserOf_v ⟨Nat.le_of_ble_eq_true rfl, Nat.le_of_ble_eq_true rfl⟩) (vR hP hK (rX_3 hK hP)) rfl rfl hl.1 rfl (lv_room (Nat.le_of_ble_eq_true rfl)) dX3_settleByThree_9 ⟨Nat.le_of_ble_eq_true rfl, Nat.le_of_ble_eq_true rfl⟩) (fun r10 hr10 => ?_)
    obtain ⟨hr10, xr10_0⟩ := hr10
    have : (0 : Int32).toInt = 0 := (by decide)
    have : (1 : Int32).toInt = 1 := (by decide)
    have xr10_0 : ((r10 : Int32).toInt = (0 : Int32).toInt ∨ (r10 : Int32).toInt = (1 : Int32).toInt) := xr10_0
    refine lv_iconst (v := 2) hx hb dX3_settleByThree_12 (by decide) ?_
    refine vp_callSi (W.runV (As := [.int r10, .int 2]) (rest := []) ⟨hx, hb, hml, hown, ht⟩ (c_X3_lesserOf_x l dC dI h g ca iv lv fa la hI r10 2 ⟨by omega, by omega⟩ ⟨by decide, by decide⟩) (kV 2 ht m_638 m_640 m_11 m_83 m_641 rfl rfl hd_X3_lesserOf_v ⟨Nat.le_of_ble_eq_true rfl, Nat.le_of_ble_eq_true rfl⟩) (vR hP hK (rX_3 hK hP)) rfl rfl hl.1 rfl (lv_room (Nat.le_of_ble_eq_true rfl)) dX3_settleByThree_13 ⟨Nat.le_of_ble_eq_true rfl, Nat.le_of_ble_eq_true rfl⟩) (fun r11 hr11 => ?_)
    obtain ⟨hr11, xr11_0⟩ := hr11
    have : (2 : Int32).toInt = 2 := (by decide)
    have xr11_0 : ((r11 : Int32).toInt = (r10 : Int32).toInt ∨ (r11 : Int32).toInt = (2 : Int32).toInt) := xr11_0
    refine lv_istore_n (lv' := [(2, .int r11), (0, .ref (g 11 5)), (1, .int a)]) hx hb dX3_settleByThree_16 rfl hl (by decide) rfl (fun ls hl => ?_)
    refine lv_aload_n hx hb dX3_settleByThree_17 rfl (lv_at hl 1 rfl) ?_
    refine lv_iload_n hx hb dX3_settleByThree_18 rfl (lv_at hl 0 rfl) ?_
    refine lv_iload_n hx hb dX3_settleByThree_19 rfl (lv_at hl 0 rfl) ?_
    have hFc := free_all hD hS hA
    refine va_calli (va_runV (As := [.int r11, .int r11]) (rest := []) ⟨hx, hb, hml, hown, ht⟩ (c_X3_settle l dC dI s.heap.size h g ca iv lv fa la hI r11 r11 ⟨by omega, by omega⟩ ⟨by omega, by omega⟩) (kV 2 ht m_622 m_624 m_9 m_83 m_625 rfl rfl hd_X3_settle_v ⟨Nat.le_of_ble_eq_true rfl, Nat.le_of_ble_eq_true rfl⟩) (vW hP hK hD (rX_3 hK hP)) rfl rfl hl.1 rfl (lv_room (Nat.le_of_ble_eq_true rfl)) dX3_settleByThree_20 ⟨Nat.le_of_ble_eq_true rfl, Nat.le_of_ble_eq_true rfl⟩) hS (fun q _ h => hFc q h) hFc (fun r12 u t H1 locs ht9 hvm hr12 hB hz1 hk1 hS => ?_)
    obtain ⟨n13, n14, hn13, hn14, hr12, rfl⟩ := hr12
    have hn13 : 0 ≤ n13.toInt ∧ n13.toInt ≤ 2 := hn13
    have hn14 : 0 ≤ n14.toInt ∧ n14.toInt ≤ 2 := hn14
    obtain ⟨hP, hD⟩ := hB
    rw [ht9] at hP
    generalize H1 = H at hP hS ⊢
    have hP : va_P (dC, dI) classes (WX h g ca (u2 (u2 iv 3 3 n13) 3 4 n14) lv fa la) H := hP
    have hD : va_D A (WX h g ca (u2 (u2 iv 3 3 n13) 3 4 n14) lv fa la) := (show va_D _ (WX h g ca (u2 (u2 iv 3 3 n13) 3 4 n14) lv fa la) from hD).weaken (fun _ _ _ h => hFc _ h)
    have hP9 : va_P (dC, dI) classes (WX h g ca (u2 (u2 iv 3 3 n13) 3 4 n14) lv fa la) H := hP
    have hD9 : va_D A (WX h g ca (u2 (u2 iv 3 3 n13) 3 4 n14) lv fa la) := hD
    exact W.iret (v := r12) hx hb hr (fun t ht9 hW => ⟨⟨r12, ((u2 (u2 iv 3 3 n13) 3 4 n14), lv, fa, la), rfl, ⟨n13, n14, (show inb (0, 2) n13 from ⟨by omega, by omega⟩), (show inb (0, 2) n14 from ⟨by omega, by omega⟩), ⟨by omega, by omega⟩, rfl⟩, by rw [ht9]; exact hP9, hD9⟩, hS.F ht9⟩) hS.2.2 dX3_settleByThree_23
set_option maxHeartbeats 4000000 in
set_option maxRecDepth 100000 in
/-- X3_weighUp -/
theorem c_X3_weighUp (l : Launch) (dC : Nat → ClassId) (dI : Nat → Nat → Nat) (sz : Nat) (ak av : Nat → Nat) (h : Nat) (g : Nat → Nat → Nat) (ca : Nat → Nat → ClassId) (iv : Nat → Nat → Int32) (lv : Nat → Nat → Int64) (fa : Nat → Nat → Nat → Int32) (la : Nat → Nat → Nat → Int64) (hI : IX iv fa) (a : Int32) (b : Int32) : Met l yX3_weighUp (wc yX3_weighUp cX3_weighUp 5 (some .int)) ({ frames := 4, cells := 0, slots := 0, locals := 93 } : Room) (pWZ ak av (dC, dI) classes (WX h g ca iv lv fa la) (TX ca) sz [.ref (g 11 5), .int a, .int b]) (va_Qi (fun r (u : SS) => ∃ (na_1_6 : Nat → Int32) (na_30_2 : Nat → Int32) (nb_30_0 : Nat → Int64) (nb_30_1 : Nat → Int64) (ni_3_3 : Int32) (ni_3_4 : Int32), (∀ j, inb (bA 1 6 j) (na_1_6 j)) ∧ inb (bI 3 3) ni_3_3 ∧ inb (bI 3 4) ni_3_4 ∧ (0 ≤ r.toInt ∧ r.toInt ≤ 2) ∧ u = ((u2 (u2 iv 3 3 ni_3_3) 3 4 ni_3_4), lv, (u2 (u2 fa 1 6 na_1_6) 30 2 na_30_2), (u2 (u2 la 30 0 nb_30_0) 30 1 nb_30_1))) (bX (dC, dI) h g ca (va_A (WX h g ca iv lv fa la) sz)) (va_A (WX h g ca iv lv fa la) sz)) 0 0 (va_A (WX h g ca iv lv fa la) sz) := by
  refine Met.ofW (cc := cX3_weighUp) (maxL := 5) (ret := (some .int)) (by decide) rfl ?_
  intro p e s m args below meth c s₁ B hml hv
  obtain ⟨rfl, hsz, hP, hK, hD0, hZ⟩ := hv
  have hx := B.exec
  have hb := B.bytes
  have hr := B.returns
  have ht := tb_tl (atoms_spec (ws := wc yX3_weighUp cX3_weighUp 5 (some .int)) B.pre)
  have hown : s.vm.findClass RX3 = some m.cls := findClass_of_methodNamed B.named
  have hlocks := B.notSynchronized
  subst hsz
  have hD := hD0.self (sz := s.heap.size)
  generalize hAe : va_A (WX h g ca iv lv fa la) s.heap.size = A at hD hZ ⊢
  have hA : ∀ q : Nat, s.heap.size ≤ q → A q := fun q h => by rw [← hAe]; exact Or.inr h
  have hS : va_S A s.heap s.heap [] := va_S.rf
  have hl := lv_entry [.ref (g 11 5), .int a, .int b] (n := 5) (Nat.le_of_ble_eq_true rfl)
  rw [lg_entry_eq]
  generalize (lg_sl [.ref (g 11 5), .int a, .int b] ++ List.replicate (5 - (lg_sl [.ref (g 11 5), .int a, .int b]).length) Slot.unset).toArray = ls at hl ⊢
  have hl : lv_has ls 5 [(0, .ref (g 11 5)), (1, .int a), (2, .int b)] := hl
  refine lv_aload_n hx hb dX3_weighUp_0 rfl (lv_at hl 0 rfl) ?_
  refine lv_iload_n hx hb dX3_weighUp_1 rfl (lv_at hl 1 rfl) ?_
  refine lv_iload_n hx hb dX3_weighUp_2 rfl (lv_at hl 2 rfl) ?_
  have hFc := free_all hD hS hA
  refine va_callv (va_runV (As := [.int a, .int b]) (rest := []) ⟨hx, hb, hml, hown, ht⟩ (c_X3_gather l dC dI s.heap.size h g ca iv lv fa la hI a b) (kV 2 ht m_599 m_565 m_566 m_83 m_567 rfl rfl hd_X3_gather_v ⟨Nat.le_of_ble_eq_true rfl, Nat.le_of_ble_eq_true rfl⟩) (vW hP hK hD (rX_3 hK hP)) rfl rfl hl.1 rfl (lv_room (Nat.le_of_ble_eq_true rfl)) dX3_weighUp_3 ⟨Nat.le_of_ble_eq_true rfl, Nat.le_of_ble_eq_true rfl⟩) hS (fun q _ h => hFc q h) hFc (fun u t H1 locs ht9 hvm hr1 hB hz1 hk1 hS => ?_)
  obtain ⟨n2, n3, n4, rfl⟩ := hr1
  have hn2 : ∀ j, inb (bA 30 2 j) (n2 j) := fun j => full_i _
  obtain ⟨hP, hD⟩ := hB
  rw [ht9] at hP
  generalize H1 = H at hP hS ⊢
  have hP : va_P (dC, dI) classes (WX h g ca iv lv (u2 fa 30 2 n2) (u2 (u2 la 30 0 n3) 30 1 n4)) H := hP
  have hD : va_D A (WX h g ca iv lv (u2 fa 30 2 n2) (u2 (u2 la 30 0 n3) 30 1 n4)) := (show va_D _ (WX h g ca iv lv (u2 fa 30 2 n2) (u2 (u2 la 30 0 n3) 30 1 n4)) from hD).weaken (fun _ _ _ h => hFc _ h)
  refine lv_aload_n hx hb dX3_weighUp_6 rfl (lv_at hl 0 rfl) ?_
  refine gX_3_1 hx hb ht hown hK hP m_280 dX3_weighUp_7 ?_
  refine lv_iconst (v := 1) hx hb dX3_weighUp_10 (by decide) ?_
  refine lv_iload_n hx hb dX3_weighUp_11 rfl (lv_at hl 2 rfl) ?_
  have hFc := free_all hD hS hA
  refine va_calli (va_runV (As := [.int 1, .int b]) (rest := []) ⟨hx, hb, hml, hown, ht⟩ (c_X1_holding l dC dI H.size ak av h g ca iv lv (u2 fa 30 2 n2) (u2 (u2 la 30 0 n3) 30 1 n4) (IX_a (c := 30) (k := 2) hI hn2) 1 b ⟨by decide, by decide⟩) (kV 2 ht m_600 m_601 m_602 m_81 m_603 rfl rfl hd_X1_holding_v ⟨Nat.le_of_ble_eq_true rfl, Nat.le_of_ble_eq_true rfl⟩) (vWZ hP hK hD ((hZ.kept hS.2.1).narrow (free_all hD hS hA)) (rX_1 hK hP)) rfl rfl hl.1 rfl (lv_room (Nat.le_of_ble_eq_true rfl)) dX3_weighUp_12 ⟨Nat.le_of_ble_eq_true rfl, Nat.le_of_ble_eq_true rfl⟩) hS (fun q _ h => hFc q h) hFc (fun r5 u t H1 locs ht9 hvm hr5 hB hz1 hk1 hS => ?_)
  obtain ⟨n6, hn6, hr5, rfl⟩ := hr5
  obtain ⟨hP, hD⟩ := hB
  rw [ht9] at hP
  generalize H1 = H at hP hS ⊢
  have hP : va_P (dC, dI) classes (WX h g ca iv lv (u2 (u2 fa 30 2 n2) 1 6 n6) (u2 (u2 la 30 0 n3) 30 1 n4)) H := hP
  have hD : va_D A (WX h g ca iv lv (u2 (u2 fa 30 2 n2) 1 6 n6) (u2 (u2 la 30 0 n3) 30 1 n4)) := (show va_D _ (WX h g ca iv lv (u2 (u2 fa 30 2 n2) 1 6 n6) (u2 (u2 la 30 0 n3) 30 1 n4)) from hD).weaken (fun _ _ _ h => hFc _ h)
  refine lv_istore_n (lv' := [(3, .int r5), (0, .ref (g 11 5)), (1, .int a), (2, .int b)]) hx hb dX3_weighUp_15 rfl hl (by decide) rfl (fun ls hl => ?_)
  refine lv_aload_n hx hb dX3_weighUp_16 rfl (lv_at hl 1 rfl) ?_
  refine gX_3_2 hx hb ht hown hK hP m_281 dX3_weighUp_17 ?_
  refine gX_30_2 hx hb ht hown hK hP m_268 dX3_weighUp_20 ?_
  refine lv_iconst (v := 0) hx hb dX3_weighUp_23 (by decide) ?_
  refine lX_30_2 hx hb hK hP (f := n2) rfl (vp_in_iff.mpr (by decide)) dX3_weighUp_24 ?_
  refine lv_topi (fun v7 ev7 => ?_)
  refine lv_iload_n hx hb dX3_weighUp_25 rfl (lv_at hl 0 rfl) ?_
  refine lv_icmp_ge (tgt := 31) hx hb dX3_weighUp_26 (by decide) (fun c8 => ?_) (fun c8 => ?_)
  · have fc8 := z_le (rfl : (r5).toInt = _) (rfl : (v7).toInt = _) c8
    refine lv_aload_n hx hb dX3_weighUp_31 rfl (lv_at hl 1 rfl) ?_
    refine gX_3_1 hx hb ht hown hK hP m_280 dX3_weighUp_32 ?_
    refine lv_iconst (v := 3) hx hb dX3_weighUp_35 (by decide) ?_
    refine lv_iload_n hx hb dX3_weighUp_36 rfl (lv_at hl 3 rfl) ?_
    have hFc := free_all hD hS hA
    refine va_calli (va_runV (As := [.int 3, .int b]) (rest := []) ⟨hx, hb, hml, hown, ht⟩ (c_X1_holding l dC dI H.size ak av h g ca iv lv (u2 (u2 fa 30 2 n2) 1 6 n6) (u2 (u2 la 30 0 n3) 30 1 n4) (IX_a (c := 1) (k := 6) (IX_a (c := 30) (k := 2) hI hn2) hn6) 3 b ⟨by decide, by decide⟩) (kV 2 ht m_600 m_601 m_602 m_81 m_603 rfl rfl hd_X1_holding_v ⟨Nat.le_of_ble_eq_true rfl, Nat.le_of_ble_eq_true rfl⟩) (vWZ hP hK hD ((hZ.kept hS.2.1).narrow (free_all hD hS hA)) (rX_1 hK hP)) rfl rfl hl.1 rfl (lv_room (Nat.le_of_ble_eq_true rfl)) dX3_weighUp_37 ⟨Nat.le_of_ble_eq_true rfl, Nat.le_of_ble_eq_true rfl⟩) hS (fun q _ h => hFc q h) hFc (fun r9 u t H1 locs ht9 hvm hr9 hB hz1 hk1 hS => ?_)
    obtain ⟨n10, hn10, hr9, rfl⟩ := hr9
    obtain ⟨hP, hD⟩ := hB
    rw [ht9] at hP
    generalize H1 = H at hP hS ⊢
    have hP : va_P (dC, dI) classes (WX h g ca iv lv (u2 (u2 fa 30 2 n2) 1 6 n10) (u2 (u2 la 30 0 n3) 30 1 n4)) H := hP
    have hD : va_D A (WX h g ca iv lv (u2 (u2 fa 30 2 n2) 1 6 n10) (u2 (u2 la 30 0 n3) 30 1 n4)) := (show va_D _ (WX h g ca iv lv (u2 (u2 fa 30 2 n2) 1 6 n10) (u2 (u2 la 30 0 n3) 30 1 n4)) from hD).weaken (fun _ _ _ h => hFc _ h)
    refine lv_iconst (v := 1) hx hb dX3_weighUp_40 (by decide) ?_
    refine lv_icmp_ne (tgt := 51) hx hb dX3_weighUp_41 (by decide) (fun c11 => ?_) (fun c11 => ?_)
    · have fc11 := z_ne (rfl : (r9).toInt = _) (by decide : (1 : Int32).toInt = 1) c11
      refine lv_aload_n hx hb dX3_weighUp_51 rfl (lv_at hl 1 rfl) ?_
      refine gX_3_2 hx hb ht hown hK hP m_281 dX3_weighUp_52 ?_
      refine gX_30_2 hx hb ht hown hK hP m_268 dX3_weighUp_55 ?_
      refine lv_iconst (v := 1) hx hb dX3_weighUp_58 (by decide) ?_
      refine lX_30_2 hx hb hK hP (f := n2) rfl (vp_in_iff.mpr (by decide)) dX3_weighUp_59 ?_
      refine lv_topi (fun v12 ev12 => ?_)
      refine lv_iload_n hx hb dX3_weighUp_60 rfl (lv_at hl 0 rfl) ?_
      refine lv_icmp_ge (tgt := 66) hx hb dX3_weighUp_61 (by decide) (fun c13 => ?_) (fun c13 => ?_)
      · have fc13 := z_le (rfl : (r5).toInt = _) (rfl : (v12).toInt = _) c13
        refine lv_aload_n hx hb dX3_weighUp_66 rfl (lv_at hl 1 rfl) ?_
        refine gX_3_1 hx hb ht hown hK hP m_280 dX3_weighUp_67 ?_
        refine lv_iconst (v := 5) hx hb dX3_weighUp_70 (by decide) ?_
        refine lv_iload_n hx hb dX3_weighUp_71 rfl (lv_at hl 3 rfl) ?_
        have hFc := free_all hD hS hA
        refine va_calli (va_runV (As := [.int 5, .int b]) (rest := []) ⟨hx, hb, hml, hown, ht⟩ (c_X1_holding l dC dI H.size ak av h g ca iv lv (u2 (u2 fa 30 2 n2) 1 6 n10) (u2 (u2 la 30 0 n3) 30 1 n4) (IX_a (c := 1) (k := 6) (IX_a (c := 30) (k := 2) hI hn2) hn10) 5 b ⟨by decide, by decide⟩) (kV 2 ht m_600 m_601 m_602 m_81 m_603 rfl rfl hd_X1_holding_v ⟨Nat.le_of_ble_eq_true rfl, Nat.le_of_ble_eq_true rfl⟩) (vWZ hP hK hD ((hZ.kept hS.2.1).narrow (free_all hD hS hA)) (rX_1 hK hP)) rfl rfl hl.1 rfl (lv_room (Nat.le_of_ble_eq_true rfl)) dX3_weighUp_72 ⟨Nat.le_of_ble_eq_true rfl, Nat.le_of_ble_eq_true rfl⟩) hS (fun q _ h => hFc q h) hFc (fun r14 u t H1 locs ht9 hvm hr14 hB hz1 hk1 hS => ?_)
        obtain ⟨n15, hn15, hr14, rfl⟩ := hr14
        obtain ⟨hP, hD⟩ := hB
        rw [ht9] at hP
        generalize H1 = H at hP hS ⊢
        have hP : va_P (dC, dI) classes (WX h g ca iv lv (u2 (u2 fa 30 2 n2) 1 6 n15) (u2 (u2 la 30 0 n3) 30 1 n4)) H := hP
        have hD : va_D A (WX h g ca iv lv (u2 (u2 fa 30 2 n2) 1 6 n15) (u2 (u2 la 30 0 n3) 30 1 n4)) := (show va_D _ (WX h g ca iv lv (u2 (u2 fa 30 2 n2) 1 6 n15) (u2 (u2 la 30 0 n3) 30 1 n4)) from hD).weaken (fun _ _ _ h => hFc _ h)
        refine lv_istore (lv' := [(4, .int r14), (3, .int r5), (0, .ref (g 11 5)), (1, .int a), (2, .int b)]) hx hb dX3_weighUp_75 hl (by decide) rfl (fun ls hl => ?_)
        refine lv_aload_n hx hb dX3_weighUp_77 rfl (lv_at hl 2 rfl) ?_
        refine gX_3_2 hx hb ht hown hK hP m_281 dX3_weighUp_78 ?_
        refine lv_iconst (v := 0) hx hb dX3_weighUp_81 (by decide) ?_
        refine lv_iconst (v := 1) hx hb dX3_weighUp_82 (by decide) ?_
        refine lv_aload_n hx hb dX3_weighUp_83 rfl (lv_at hl 2 rfl) ?_
        refine gX_3_1 hx hb ht hown hK hP m_280 dX3_weighUp_84 ?_
        refine lv_iconst (v := 2) hx hb dX3_weighUp_87 (by decide) ?_
        refine lv_iload_n hx hb dX3_weighUp_88 rfl (lv_at hl 4 rfl) ?_
        have hFc := free_all hD hS hA
        refine va_calli (va_runV (As := [.int 2, .int b]) (rest := [.int 1, .int 0, .ref (g 3 2)]) ⟨hx, hb, hml, hown, ht⟩ (c_X1_holding l dC dI H.size ak av h g ca iv lv (u2 (u2 fa 30 2 n2) 1 6 n15) (u2 (u2 la 30 0 n3) 30 1 n4) (IX_a (c := 1) (k := 6) (IX_a (c := 30) (k := 2) hI hn2) hn15) 2 b ⟨by decide, by decide⟩) (kV 2 ht m_600 m_601 m_602 m_81 m_603 rfl rfl hd_X1_holding_v ⟨Nat.le_of_ble_eq_true rfl, Nat.le_of_ble_eq_true rfl⟩) (vWZ hP hK hD ((hZ.kept hS.2.1).narrow (free_all hD hS hA)) (rX_1 hK hP)) rfl rfl hl.1 rfl (lv_room (Nat.le_of_ble_eq_true rfl)) dX3_weighUp_89 ⟨Nat.le_of_ble_eq_true rfl, Nat.le_of_ble_eq_true rfl⟩) hS (fun q _ h => hFc q h) hFc (fun r16 u t H1 locs ht9 hvm hr16 hB hz1 hk1 hS => ?_)
        obtain ⟨n17, hn17, hr16, rfl⟩ := hr16
        obtain ⟨hP, hD⟩ := hB
        rw [ht9] at hP
        generalize H1 = H at hP hS ⊢
        have hP : va_P (dC, dI) classes (WX h g ca iv lv (u2 (u2 fa 30 2 n2) 1 6 n17) (u2 (u2 la 30 0 n3) 30 1 n4)) H := hP
        have hD : va_D A (WX h g ca iv lv (u2 (u2 fa 30 2 n2) 1 6 n17) (u2 (u2 la 30 0 n3) 30 1 n4)) := (show va_D _ (WX h g ca iv lv (u2 (u2 fa 30 2 n2) 1 6 n17) (u2 (u2 la 30 0 n3) 30 1 n4)) from hD).weaken (fun _ _ _ h => hFc _ h)
        refine vp_callSi (W.runV (As := [.int 0, .int 1, .int r16]) (rest := []) ⟨hx, hb, hml, hown, ht⟩ (c_X7_differ_30 l dC dI h g ca iv lv (u2 (u2 fa 30 2 n2) 1 6 n17) (u2 (u2 la 30 0 n3) 30 1 n4) (IX_a (c := 1) (k := 6) (IX_a (c := 30) (k := 2) hI hn2) hn17) 0 1 r16 ⟨by decide, by decide⟩ ⟨by decide, by decide⟩) (kV 3 ht m_626 m_627 m_628 m_84 m_629 rfl rfl hd_X7_differ_v ⟨Nat.le_of_ble_eq_true rfl, Nat.le_of_ble_eq_true rfl⟩) (vR hP hK (rX_30 hK hP)) rfl rfl hl.1 rfl (lv_room (Nat.le_of_ble_eq_true rfl)) dX3_weighUp_92 ⟨Nat.le_of_ble_eq_true rfl, Nat.le_of_ble_eq_true rfl⟩) (fun r18 hr18 => ?_)
        refine lv_if_ne (tgt := 105) hx hb dX3_weighUp_95 (by decide) (fun c19 => ?_) (fun c19 => ?_)
        · have fc19 := z_ne (rfl : (r18).toInt = _) (by decide : (0 : Int32).toInt = 0) c19
          refine lv_aload_n hx hb dX3_weighUp_105 rfl (lv_at hl 2 rfl) ?_
          refine gX_3_2 hx hb ht hown hK hP m_281 dX3_weighUp_106 ?_
          refine gX_30_2 hx hb ht hown hK hP m_268 dX3_weighUp_109 ?_
          refine lv_iconst (v := 2) hx hb dX3_weighUp_112 (by decide) ?_
          refine lX_30_2 hx hb hK hP (f := n2) rfl (vp_in_iff.mpr (by decide)) dX3_weighUp_113 ?_
          refine lv_topi (fun v20 ev20 => ?_)
          refine lv_iload_n hx hb dX3_weighUp_114 rfl (lv_at hl 1 rfl) ?_
          refine lv_icmp_ge (tgt := 122) hx hb dX3_weighUp_115 (by decide) (fun c21 => ?_) (fun c21 => ?_)
          · have fc21 := z_le (rfl : (r5).toInt = _) (rfl : (v20).toInt = _) c21
            refine lv_aload_n hx hb dX3_weighUp_122 rfl (lv_at hl 2 rfl) ?_
            refine lv_iload hx hb dX3_weighUp_123 (lv_at hl 0 rfl) ?_
            have hFc := free_all hD hS hA
            refine va_calli (va_runV (As := [.int r14]) (rest := []) ⟨hx, hb, hml, hown, ht⟩ (c_X3_settleByThree l dC dI H.size h g ca iv lv (u2 (u2 fa 30 2 n2) 1 6 n17) (u2 (u2 la 30 0 n3) 30 1 n4) (IX_a (c := 1) (k := 6) (IX_a (c := 30) (k := 2) hI hn2) hn17) r14) (kV 1 ht m_642 m_644 m_12 m_83 m_645 rfl rfl hd_X3_settleByThree_v ⟨Nat.le_of_ble_eq_true rfl, Nat.le_of_ble_eq_true rfl⟩) (vW hP hK hD (rX_3 hK hP)) rfl rfl hl.1 rfl (lv_room (Nat.le_of_ble_eq_true rfl)) dX3_weighUp_125 ⟨Nat.le_of_ble_eq_true rfl, Nat.le_of_ble_eq_true rfl⟩) hS (fun q _ h => hFc q h) hFc (fun r22 u t H1 locs ht9 hvm hr22 hB hz1 hk1 hS => ?_)
            obtain ⟨n23, n24, hn23, hn24, hr22, rfl⟩ := hr22
            have hn23 : 0 ≤ n23.toInt ∧ n23.toInt ≤ 2 := hn23
            have hn24 : 0 ≤ n24.toInt ∧ n24.toInt ≤ 2 := hn24
            obtain ⟨hP, hD⟩ := hB
            rw [ht9] at hP
            generalize H1 = H at hP hS ⊢
            have hP : va_P (dC, dI) classes (WX h g ca (u2 (u2 iv 3 3 n23) 3 4 n24) lv (u2 (u2 fa 30 2 n2) 1 6 n17) (u2 (u2 la 30 0 n3) 30 1 n4)) H := hP
            have hD : va_D A (WX h g ca (u2 (u2 iv 3 3 n23) 3 4 n24) lv (u2 (u2 fa 30 2 n2) 1 6 n17) (u2 (u2 la 30 0 n3) 30 1 n4)) := (show va_D _ (WX h g ca (u2 (u2 iv 3 3 n23) 3 4 n24) lv (u2 (u2 fa 30 2 n2) 1 6 n17) (u2 (u2 la 30 0 n3) 30 1 n4)) from hD).weaken (fun _ _ _ h => hFc _ h)
            have hP9 : va_P (dC, dI) classes (WX h g ca (u2 (u2 iv 3 3 n23) 3 4 n24) lv (u2 (u2 fa 1 6 n17) 30 2 n2) (u2 (u2 la 30 0 n3) 30 1 n4)) H := hP
            have hD9 : va_D A (WX h g ca (u2 (u2 iv 3 3 n23) 3 4 n24) lv (u2 (u2 fa 1 6 n17) 30 2 n2) (u2 (u2 la 30 0 n3) 30 1 n4)) := hD
            exact W.iret (v := r22) hx hb hr (fun t ht9 hW => ⟨⟨r22, ((u2 (u2 iv 3 3 n23) 3 4 n24), lv, (u2 (u2 fa 1 6 n17) 30 2 n2), (u2 (u2 la 30 0 n3) 30 1 n4)), rfl, ⟨n17, n2, n3, n4, n23, n24, hn17, (show inb (0, 2) n23 from ⟨by omega, by omega⟩), (show inb (0, 2) n24 from ⟨by omega, by omega⟩), ⟨by omega, by omega⟩, rfl⟩, by rw [ht9]; exact hP9, hD9⟩, hS.F ht9⟩) hS.2.2 dX3_weighUp_128
          · have fc21 := z_nle (rfl : (r5).toInt = _) (rfl : (v20).toInt = _) c21
            refine lv_iconst (v := 2) hx hb dX3_weighUp_118 (by decide) ?_
            refine lv_goto (tgt := 128) hx hb dX3_weighUp_119 (by decide) ?_
            have hP9 : va_P (dC, dI) classes (WX h g ca (u2 (u2 iv 3 3 (iv 3 3)) 3 4 (iv 3 4)) lv (u2 (u2 fa 1 6 n17) 30 2 n2) (u2 (u2 la 30 0 n3) 30 1 n4)) H := hP
            have hD9 : va_D A (WX h g ca (u2 (u2 iv 3 3 (iv 3 3)) 3 4 (iv 3 4)) lv (u2 (u2 fa 1 6 n17) 30 2 n2) (u2 (u2 la 30 0 n3) 30 1 n4)) := hD
            exact W.iret (v := 2) hx hb hr (fun t ht9 hW => ⟨⟨2, ((u2 (u2 iv 3 3 (iv 3 3)) 3 4 (iv 3 4)), lv, (u2 (u2 fa 1 6 n17) 30 2 n2), (u2 (u2 la 30 0 n3) 30 1 n4)), rfl, ⟨n17, n2, n3, n4, (iv 3 3), (iv 3 4), hn17, (hI.1 3 3), (hI.1 3 4), ⟨by decide, by decide⟩, rfl⟩, by rw [ht9]; exact hP9, hD9⟩, hS.F ht9⟩) hS.2.2 dX3_weighUp_128
        · have fc19 := z_eq (rfl : (r18).toInt = _) (by decide : (0 : Int32).toInt = 0) c19
          refine lv_aload_n hx hb dX3_weighUp_98 rfl (lv_at hl 2 rfl) ?_
          refine lv_iload hx hb dX3_weighUp_99 (lv_at hl 0 rfl) ?_
          have hFc := free_all hD hS hA
          refine va_calli (va_runV (As := [.int r14]) (rest := []) ⟨hx, hb, hml, hown, ht⟩ (c_X3_settleByTwo l dC dI H.size h g ca iv lv (u2 (u2 fa 30 2 n2) 1 6 n17) (u2 (u2 la 30 0 n3) 30 1 n4) (IX_a (c := 1) (k := 6) (IX_a (c := 30) (k := 2) hI hn2) hn17) r14) (kV 1 ht m_634 m_636 m_10 m_83 m_637 rfl rfl hd_X3_settleByTwo_v ⟨Nat.le_of_ble_eq_true rfl, Nat.le_of_ble_eq_true rfl⟩) (vW hP hK hD (rX_3 hK hP)) rfl rfl hl.1 rfl (lv_room (Nat.le_of_ble_eq_true rfl)) dX3_weighUp_101 ⟨Nat.le_of_ble_eq_true rfl, Nat.le_of_ble_eq_true rfl⟩) hS (fun q _ h => hFc q h) hFc (fun r25 u t H1 locs ht9 hvm hr25 hB hz1 hk1 hS => ?_)
          obtain ⟨n26, n27, hn26, hn27, hr25, rfl⟩ := hr25
          have hn26 : 0 ≤ n26.toInt ∧ n26.toInt ≤ 2 := hn26
          have hn27 : 0 ≤ n27.toInt ∧ n27.toInt ≤ 2 := hn27
          obtain ⟨hP, hD⟩ := hB
          rw [ht9] at hP
          generalize H1 = H at hP hS ⊢
          have hP : va_P (dC, dI) classes (WX h g ca (u2 (u2 iv 3 3 n26) 3 4 n27) lv (u2 (u2 fa 30 2 n2) 1 6 n17) (u2 (u2 la 30 0 n3) 30 1 n4)) H := hP
          have hD : va_D A (WX h g ca (u2 (u2 iv 3 3 n26) 3 4 n27) lv (u2 (u2 fa 30 2 n2) 1 6 n17) (u2 (u2 la 30 0 n3) 30 1 n4)) := (show va_D _ (WX h g ca (u2 (u2 iv 3 3 n26) 3 4 n27) lv (u2 (u2 fa 30 2 n2) 1 6 n17) (u2 (u2 la 30 0 n3) 30 1 n4)) from hD).weaken (fun _ _ _ h => hFc _ h)
          have hP9 : va_P (dC, dI) classes (WX h g ca (u2 (u2 iv 3 3 n26) 3 4 n27) lv (u2 (u2 fa 1 6 n17) 30 2 n2) (u2 (u2 la 30 0 n3) 30 1 n4)) H := hP
          have hD9 : va_D A (WX h g ca (u2 (u2 iv 3 3 n26) 3 4 n27) lv (u2 (u2 fa 1 6 n17) 30 2 n2) (u2 (u2 la 30 0 n3) 30 1 n4)) := hD
          exact W.iret (v := r25) hx hb hr (fun t ht9 hW => ⟨⟨r25, ((u2 (u2 iv 3 3 n26) 3 4 n27), lv, (u2 (u2 fa 1 6 n17) 30 2 n2), (u2 (u2 la 30 0 n3) 30 1 n4)), rfl, ⟨n17, n2, n3, n4, n26, n27, hn17, (show inb (0, 2) n26 from ⟨by omega, by omega⟩), (show inb (0, 2) n27 from ⟨by omega, by omega⟩), ⟨by omega, by omega⟩, rfl⟩, by rw [ht9]; exact hP9, hD9⟩, hS.F ht9⟩) hS.2.2 dX3_weighUp_104
      · have fc13 := z_nle (rfl : (r5).toInt = _) (rfl : (v12).toInt = _) c13
        refine lv_iconst (v := 0) hx hb dX3_weighUp_64 (by decide) ?_
        have hP9 : va_P (dC, dI) classes (WX h g ca (u2 (u2 iv 3 3 (iv 3 3)) 3 4 (iv 3 4)) lv (u2 (u2 fa 1 6 n10) 30 2 n2) (u2 (u2 la 30 0 n3) 30 1 n4)) H := hP
        have hD9 : va_D A (WX h g ca (u2 (u2 iv 3 3 (iv 3 3)) 3 4 (iv 3 4)) lv (u2 (u2 fa 1 6 n10) 30 2 n2) (u2 (u2 la 30 0 n3) 30 1 n4)) := hD
        exact W.iret (v := 0) hx hb hr (fun t ht9 hW => ⟨⟨0, ((u2 (u2 iv 3 3 (iv 3 3)) 3 4 (iv 3 4)), lv, (u2 (u2 fa 1 6 n10) 30 2 n2), (u2 (u2 la 30 0 n3) 30 1 n4)), rfl, ⟨n10, n2, n3, n4, (iv 3 3), (iv 3 4), hn10, (hI.1 3 3), (hI.1 3 4), ⟨by decide, by decide⟩, rfl⟩, by rw [ht9]; exact hP9, hD9⟩, hS.F ht9⟩) hS.2.2 dX3_weighUp_65
    · have fc11 := z_eq (rfl : (r9).toInt = _) (by decide : (1 : Int32).toInt = 1) c11
      refine lv_aload_n hx hb dX3_weighUp_44 rfl (lv_at hl 1 rfl) ?_
      refine lv_iconst (v := 0) hx hb dX3_weighUp_45 (by decide) ?_
      refine lv_iconst (v := 0) hx hb dX3_weighUp_46 (by decide) ?_
      have hFc := free_all hD hS hA
      refine va_calli (va_runV (As := [.int 0, .int 0]) (rest := []) ⟨hx, hb, hml, hown, ht⟩ (c_X3_settle l dC dI H.size h g ca iv lv (u2 (u2 fa 30 2 n2) 1 6 n10) (u2 (u2 la 30 0 n3) 30 1 n4) (IX_a (c := 1) (k := 6) (IX_a (c := 30) (k := 2) hI hn2) hn10) 0 0 ⟨by decide, by decide⟩ ⟨by decide, by decide⟩) (kV 2 ht m_622 m_624 m_9 m_83 m_625 rfl rfl hd_X3_settle_v ⟨Nat.le_of_ble_eq_true rfl, Nat.le_of_ble_eq_true rfl⟩) (vW hP hK hD (rX_3 hK hP)) rfl rfl hl.1 rfl (lv_room (Nat.le_of_ble_eq_true rfl)) dX3_weighUp_47 ⟨Nat.le_of_ble_eq_true rfl, Nat.le_of_ble_eq_true rfl⟩) hS (fun q _ h => hFc q h) hFc (fun r28 u t H1 locs ht9 hvm hr28 hB hz1 hk1 hS => ?_)
      obtain ⟨n29, n30, hn29, hn30, hr28, rfl⟩ := hr28
      have hn29 : 0 ≤ n29.toInt ∧ n29.toInt ≤ 2 := hn29
      have hn30 : 0 ≤ n30.toInt ∧ n30.toInt ≤ 2 := hn30
      obtain ⟨hP, hD⟩ := hB
      rw [ht9] at hP
      generalize H1 = H at hP hS ⊢
      have hP : va_P (dC, dI) classes (WX h g ca (u2 (u2 iv 3 3 n29) 3 4 n30) lv (u2 (u2 fa 30 2 n2) 1 6 n10) (u2 (u2 la 30 0 n3) 30 1 n4)) H := hP
      have hD : va_D A (WX h g ca (u2 (u2 iv 3 3 n29) 3 4 n30) lv (u2 (u2 fa 30 2 n2) 1 6 n10) (u2 (u2 la 30 0 n3) 30 1 n4)) := (show va_D _ (WX h g ca (u2 (u2 iv 3 3 n29) 3 4 n30) lv (u2 (u2 fa 30 2 n2) 1 6 n10) (u2 (u2 la 30 0 n3) 30 1 n4)) from hD).weaken (fun _ _ _ h => hFc _ h)
      have hP9 : va_P (dC, dI) classes (WX h g ca (u2 (u2 iv 3 3 n29) 3 4 n30) lv (u2 (u2 fa 1 6 n10) 30 2 n2) (u2 (u2 la 30 0 n3) 30 1 n4)) H := hP
      have hD9 : va_D A (WX h g ca (u2 (u2 iv 3 3 n29) 3 4 n30) lv (u2 (u2 fa 1 6 n10) 30 2 n2) (u2 (u2 la 30 0 n3) 30 1 n4)) := hD
      exact W.iret (v := r28) hx hb hr (fun t ht9 hW => ⟨⟨r28, ((u2 (u2 iv 3 3 n29) 3 4 n30), lv, (u2 (u2 fa 1 6 n10) 30 2 n2), (u2 (u2 la 30 0 n3) 30 1 n4)), rfl, ⟨n10, n2, n3, n4, n29, n30, hn10, (show inb (0, 2) n29 from ⟨by omega, by omega⟩), (show inb (0, 2) n30 from ⟨by omega, by omega⟩), ⟨by omega, by omega⟩, rfl⟩, by rw [ht9]; exact hP9, hD9⟩, hS.F ht9⟩) hS.2.2 dX3_weighUp_50
  · have fc8 := z_nle (rfl : (r5).toInt = _) (rfl : (v7).toInt = _) c8
    refine lv_iconst (v := 0) hx hb dX3_weighUp_29 (by decide) ?_
    have hP9 : va_P (dC, dI) classes (WX h g ca (u2 (u2 iv 3 3 (iv 3 3)) 3 4 (iv 3 4)) lv (u2 (u2 fa 1 6 n6) 30 2 n2) (u2 (u2 la 30 0 n3) 30 1 n4)) H := hP
    have hD9 : va_D A (WX h g ca (u2 (u2 iv 3 3 (iv 3 3)) 3 4 (iv 3 4)) lv (u2 (u2 fa 1 6 n6) 30 2 n2) (u2 (u2 la 30 0 n3) 30 1 n4)) := hD
    exact W.iret (v := 0) hx hb hr (fun t ht9 hW => ⟨⟨0, ((u2 (u2 iv 3 3 (iv 3 3)) 3 4 (iv 3 4)), lv, (u2 (u2 fa 1 6 n6) 30 2 n2), (u2 (u2 la 30 0 n3) 30 1 n4)), rfl, ⟨n6, n2, n3, n4, (iv 3 3), (iv 3 4), hn6, (hI.1 3 3), (hI.1 3 4), ⟨by decide, by decide⟩, rfl⟩, by rw [ht9]; exact hP9, hD9⟩, hS.F ht9⟩) hS.2.2 dX3_weighUp_30
set_option maxHeartbeats 4000000 in
set_option maxRecDepth 100000 in
/-- X4_leastLeftOut -/
theorem c_X4_leastLeftOut (l : Launch) (dC : Nat → ClassId) (dI : Nat → Nat → Nat) (h : Nat) (g : Nat → Nat → Nat) (ca : Nat → Nat → ClassId) (iv : Nat → Nat → Int32) (lv : Nat → Nat → Int64) (fa : Nat → Nat → Nat → Int32) (la : Nat → Nat → Nat → Int64) (hI : IX iv fa) : Met l yX4_leastLeftOut (wc yX4_leastLeftOut cX4_leastLeftOut 4 (some .int)) ({ frames := 2, cells := 0, slots := 0, locals := 63 } : Room) (pR (dC, dI) classes (WX h g ca iv lv fa la) (TX ca) [.ref (g 11 8)]) (vp_Si (fun r => 0 ≤ r.toInt ∧ r.toInt ≤ 255)) 0 0 (fun _ => False) := by
  refine Met.ofW (cc := cX4_leastLeftOut) (maxL := 4) (ret := (some .int)) (by decide) rfl ?_
  intro p e s m args below meth c s₁ B hml hv
  obtain ⟨rfl, hP, hK⟩ := hv
  have hx := B.exec
  have hb := B.bytes
  have hr := B.returns
  have ht := tb_tl (atoms_spec (ws := wc yX4_leastLeftOut cX4_leastLeftOut 4 (some .int)) B.pre)
  have hown : s.vm.findClass RX4 = some m.cls := findClass_of_methodNamed B.named
  have hlocks := B.notSynchronized
  have hl := lv_entry [.ref (g 11 8)] (n := 4) (Nat.le_of_ble_eq_true rfl)
  rw [lg_entry_eq]
  generalize (lg_sl [.ref (g 11 8)] ++ List.replicate (4 - (lg_sl [.ref (g 11 8)]).length) Slot.unset).toArray = ls at hl ⊢
  have hl : lv_has ls 4 [(0, .ref (g 11 8))] := hl
  refine lv_iconst (v := 1) hx hb dX4_leastLeftOut_0 (by decide) ?_
  refine lv_aload_n hx hb dX4_leastLeftOut_1 rfl (lv_at hl 0 rfl) ?_
  have i_4_2 : 0 ≤ (iv 4 2).toInt ∧ (iv 4 2).toInt ≤ 8 := hI.1 4 2
  refine gX_4_2 hx hb ht hown hK hP m_368 (v := (iv 4 2)) rfl dX4_leastLeftOut_2 ?_
  refine lv_ishl hx hb dX4_leastLeftOut_5 ?_
  refine lv_topi (fun v1 ev1 => ?_)
  have tv1 := shl1 ev1 ⟨by omega, by omega⟩
  refine lv_iconst (v := 1) hx hb dX4_leastLeftOut_6 (by decide) ?_
  refine lv_isub hx hb dX4_leastLeftOut_7 ?_
  refine lv_topi (fun v2 ev2 => ?_)
  have tv2 := z_sub ev2 (rfl : (v1).toInt = _) (by decide : (1 : Int32).toInt = 1) (by omega) (by omega)
  refine lv_istore_n (lv' := [(1, .int v2), (0, .ref (g 11 8))]) hx hb dX4_leastLeftOut_8 rfl hl (by decide) rfl (fun ls hl => ?_)
  refine lv_iload_n hx hb dX4_leastLeftOut_9 rfl (lv_at hl 0 rfl) ?_
  refine lv_iconst (v := 1) hx hb dX4_leastLeftOut_10 (by decide) ?_
  refine lv_isub hx hb dX4_leastLeftOut_11 ?_
  refine lv_topi (fun v3 ev3 => ?_)
  have tv3 := z_sub ev3 (rfl : (v2).toInt = _) (by decide : (1 : Int32).toInt = 1) (by omega) (by omega)
  refine lv_istore_n (lv' := [(2, .int v3), (1, .int v2), (0, .ref (g 11 8))]) hx hb dX4_leastLeftOut_12 rfl hl (by decide) rfl (fun ls hl => ?_)
  have lp18 : ∀ (nn18 : Nat) (x17_2 : Int32) (x17_1 : Int32), (-1) ≤ x17_2.toInt ∧ x17_2.toInt ≤ 254 → 0 ≤ x17_1.toInt ∧ x17_1.toInt ≤ 255 → x17_2.toInt - (-1) < (nn18 : Int) → ∀ (ls : Array Slot), lv_has ls 4 [(2, .int x17_2), (1, .int x17_1), (0, .ref (g 11 8))] → W p l e ({ frames := 2, cells := 0, slots := 0, locals := 63 } : Room) s m ([.ref (g 11 8)] : List Value).toArray below meth c s.heap [] 0 0 (MQ below (vp_Si (fun r => 0 ≤ r.toInt ∧ r.toInt ≤ 255)) ([.ref (g 11 8)] : List Value).toArray s 0 0 (fun _ => False)) (F0 m 13 ls []) := by
    intro nn18
    induction nn18 with
    | zero => intro x17_2 x17_1 hx17_2 hx17_1 hm18; exfalso; omega
    | succ nn18 ih18 =>
      intro x17_2 x17_1 hx17_2 hx17_1 hm18 ls hl
      refine lv_iload_n hx hb dX4_leastLeftOut_13 rfl (lv_at hl 0 rfl) ?_
      refine lv_if_lt (tgt := 59) hx hb dX4_leastLeftOut_14 (by decide) (fun c19 => ?_) (fun c19 => ?_)
      · have fc19 := z_lt (rfl : (x17_2).toInt = _) (by decide : (0 : Int32).toInt = 0) c19
        refine lv_iload_n hx hb dX4_leastLeftOut_59 rfl (lv_at hl 1 rfl) ?_
        exact W.iret (v := x17_1) hx hb hr (fun t ht9 hW => ⟨x17_1, rfl, ⟨by omega, by omega⟩, ht9⟩) (fun q hq => by cases hq) dX4_leastLeftOut_60
      · have fc19 := z_nlt (rfl : (x17_2).toInt = _) (by decide : (0 : Int32).toInt = 0) c19
        refine lv_iload_n hx hb dX4_leastLeftOut_17 rfl (lv_at hl 0 rfl) ?_
        refine vp_callSi (W.runS (As := [.int x17_2]) (rest := []) ⟨hx, hb, hml, hown, ht⟩ (c_J6_bitCount_0f7a4 l dC dI x17_2) (kS2 1 ht m_1050 m_1051 m_96 m_1052 rfl rfl hd_J6_bitCount_0f7a4_i ⟨Nat.le_of_ble_eq_true rfl, Nat.le_of_ble_eq_true rfl⟩) (sR noP (hK.sub (tys' := []) [] rfl)) rfl rfl hl.1 rfl (lv_room (Nat.le_of_ble_eq_true rfl)) dX4_leastLeftOut_18 ⟨Nat.le_of_ble_eq_true rfl, Nat.le_of_ble_eq_true rfl⟩) (fun r20 hr20 => ?_)
        refine lv_iload_n hx hb dX4_leastLeftOut_21 rfl (lv_at hl 1 rfl) ?_
        refine vp_callSi (W.runS (As := [.int x17_1]) (rest := [.int r20]) ⟨hx, hb, hml, hown, ht⟩ (c_J6_bitCount_0f7a4 l dC dI x17_1) (kS2 1 ht m_1050 m_1051 m_96 m_1052 rfl rfl hd_J6_bitCount_0f7a4_i ⟨Nat.le_of_ble_eq_true rfl, Nat.le_of_ble_eq_true rfl⟩) (sR noP (hK.sub (tys' := []) [] rfl)) rfl rfl hl.1 rfl (lv_room (Nat.le_of_ble_eq_true rfl)) dX4_leastLeftOut_22 ⟨Nat.le_of_ble_eq_true rfl, Nat.le_of_ble_eq_true rfl⟩) (fun r21 hr21 => ?_)
        refine lv_icmp_gt (tgt := 32) hx hb dX4_leastLeftOut_25 (by decide) (fun c22 => ?_) (fun c22 => ?_)
        · have fc22 := z_lt (rfl : (r21).toInt = _) (rfl : (r20).toInt = _) c22
          refine lv_iconst (v := 0) hx hb dX4_leastLeftOut_32 (by decide) ?_
          refine lv_istore_n (lv' := [(3, .int 0), (2, .int x17_2), (1, .int x17_1), (0, .ref (g 11 8))]) hx hb dX4_leastLeftOut_33 rfl hl (by decide) rfl (fun ls hl => ?_)
          refine lv_iload_n hx hb dX4_leastLeftOut_34 rfl (lv_at hl 0 rfl) ?_
          refine lv_if_eq (tgt := 53) hx hb dX4_leastLeftOut_35 (by decide) (fun c23 => ?_) (fun c23 => ?_)
          · skip
            obtain ⟨v24, ev24⟩ : ∃ y : Int32, y = x17_2 + (-1) := ⟨_, rfl⟩
            have tv24 := z_add ev24 rfl (by decide : ((-1) : Int32).toInt = (-1)) (by omega) (by omega)
            refine lv_iinc (v := v24) (lv' := [(2, .int v24), (3, .int 0), (1, .int x17_1), (0, .ref (g 11 8))]) hx hb dX4_leastLeftOut_53 hl (k := 1) rfl (by rw [ev24]; rfl) (by decide) rfl (fun ls hl => ?_)
            refine lv_goto (tgt := 13) hx hb dX4_leastLeftOut_56 (by decide) ?_
            exact ih18 v24 x17_1 ⟨by omega, by omega⟩ ⟨by omega, by omega⟩ (by omega) ls (lv_sub hl [0, 2, 3] rfl)
          · exact absurd rfl c23
        · have fc22 := z_nlt (rfl : (r21).toInt = _) (rfl : (r20).toInt = _) c22
          refine lv_iconst (v := 1) hx hb dX4_leastLeftOut_28 (by decide) ?_
          refine lv_goto (tgt := 33) hx hb dX4_leastLeftOut_29 (by decide) ?_
          refine lv_istore_n (lv' := [(3, .int 1), (2, .int x17_2), (1, .int x17_1), (0, .ref (g 11 8))]) hx hb dX4_leastLeftOut_33 rfl hl (by decide) rfl (fun ls hl => ?_)
          refine lv_iload_n hx hb dX4_leastLeftOut_34 rfl (lv_at hl 0 rfl) ?_
          refine lv_if_eq (tgt := 53) hx hb dX4_leastLeftOut_35 (by decide) (fun c25 => ?_) (fun c25 => ?_)
          · exact absurd c25 (by decide)
          · skip
            refine lv_aload_n hx hb dX4_leastLeftOut_38 rfl (lv_at hl 3 rfl) ?_
            refine lv_iload_n hx hb dX4_leastLeftOut_39 rfl (lv_at hl 1 rfl) ?_
            refine vp_callSi (W.runV (As := [.int x17_2]) (rest := []) ⟨hx, hb, hml, hown, ht⟩ (c_X4_leastWithout l dC dI h g ca iv lv fa la hI x17_2) (kV 1 ht m_1056 m_1057 m_1058 m_87 m_1059 rfl rfl hd_X4_leastWithout_v ⟨Nat.le_of_ble_eq_true rfl, Nat.le_of_ble_eq_true rfl⟩) (vR hP hK (rX_4 hK hP)) rfl rfl hl.1 rfl (lv_room (Nat.le_of_ble_eq_true rfl)) dX4_leastLeftOut_40 ⟨Nat.le_of_ble_eq_true rfl, Nat.le_of_ble_eq_true rfl⟩) (fun r26 hr26 => ?_)
            refine lv_aload_n hx hb dX4_leastLeftOut_43 rfl (lv_at hl 3 rfl) ?_
            refine lv_iload_n hx hb dX4_leastLeftOut_44 rfl (lv_at hl 1 rfl) ?_
            refine vp_callSi (W.runV (As := [.int x17_2]) (rest := [.int r26]) ⟨hx, hb, hml, hown, ht⟩ (c_X4_greatestWithout l dC dI h g ca iv lv fa la hI x17_2) (kV 1 ht m_1062 m_1063 m_1064 m_87 m_1065 rfl rfl hd_X4_greatestWithout_v ⟨Nat.le_of_ble_eq_true rfl, Nat.le_of_ble_eq_true rfl⟩) (vR hP hK (rX_4 hK hP)) rfl rfl hl.1 rfl (lv_room (Nat.le_of_ble_eq_true rfl)) dX4_leastLeftOut_45 ⟨Nat.le_of_ble_eq_true rfl, Nat.le_of_ble_eq_true rfl⟩) (fun r27 hr27 => ?_)
            refine lv_icmp_gt (tgt := 53) hx hb dX4_leastLeftOut_48 (by decide) (fun c28 => ?_) (fun c28 => ?_)
            · have fc28 := z_lt (rfl : (r27).toInt = _) (rfl : (r26).toInt = _) c28
              obtain ⟨v29, ev29⟩ : ∃ y : Int32, y = x17_2 + (-1) := ⟨_, rfl⟩
              have tv29 := z_add ev29 rfl (by decide : ((-1) : Int32).toInt = (-1)) (by omega) (by omega)
              refine lv_iinc (v := v29) (lv' := [(2, .int v29), (3, .int 1), (1, .int x17_1), (0, .ref (g 11 8))]) hx hb dX4_leastLeftOut_53 hl (k := 1) rfl (by rw [ev29]; rfl) (by decide) rfl (fun ls hl => ?_)
              refine lv_goto (tgt := 13) hx hb dX4_leastLeftOut_56 (by decide) ?_
              exact ih18 v29 x17_1 ⟨by omega, by omega⟩ ⟨by omega, by omega⟩ (by omega) ls (lv_sub hl [0, 2, 3] rfl)
            · have fc28 := z_nlt (rfl : (r27).toInt = _) (rfl : (r26).toInt = _) c28
              refine lv_iload_n hx hb dX4_leastLeftOut_51 rfl (lv_at hl 1 rfl) ?_
              refine lv_istore_n (lv' := [(1, .int x17_2), (3, .int 1), (2, .int x17_2), (0, .ref (g 11 8))]) hx hb dX4_leastLeftOut_52 rfl hl (by decide) rfl (fun ls hl => ?_)
              obtain ⟨v30, ev30⟩ : ∃ y : Int32, y = x17_2 + (-1) := ⟨_, rfl⟩
              have tv30 := z_add ev30 rfl (by decide : ((-1) : Int32).toInt = (-1)) (by omega) (by omega)
              refine lv_iinc (v := v30) (lv' := [(2, .int v30), (1, .int x17_2), (3, .int 1), (0, .ref (g 11 8))]) hx hb dX4_leastLeftOut_53 hl (k := 2) rfl (by rw [ev30]; rfl) (by decide) rfl (fun ls hl => ?_)
              refine lv_goto (tgt := 13) hx hb dX4_leastLeftOut_56 (by decide) ?_
              exact ih18 v30 x17_2 ⟨by omega, by omega⟩ ⟨by omega, by omega⟩ (by omega) ls (lv_sub hl [0, 1, 3] rfl)
  exact lp18 256 v3 v2 ⟨by omega, by omega⟩ ⟨by omega, by omega⟩ (by first | decide | omega) ls (lv_sub hl [0, 1, 2] rfl)
set_option maxHeartbeats 4000000 in
set_option maxRecDepth 100000 in
/-- X5_place -/
theorem c_X5_place_8 (l : Launch) (dC : Nat → ClassId) (dI : Nat → Nat → Nat) (sz : Nat) (h : Nat) (g : Nat → Nat → Nat) (ca : Nat → Nat → ClassId) (iv : Nat → Nat → Int32) (lv : Nat → Nat → Int64) (fa : Nat → Nat → Nat → Int32) (la : Nat → Nat → Nat → Int64) (hI : IX iv fa) (mm : Int32) (q : Int32) (h_mm : 1 ≤ mm.toInt ∧ mm.toInt ≤ 3) : Met l yX5_place (wc yX5_place cX5_place 5 none) ({ frames := 1, cells := 0, slots := 0, locals := 60 } : Room) (pW (dC, dI) classes (WX h g ca iv lv fa la) (TX ca) sz [.ref (g 11 7), .int 8, .int mm, .int q]) (va_Qv (fun (u : SS) => ∃ (na_5_3 : Nat → Int32) (ni_5_5 : Int32), u = ((u2 iv 5 5 ni_5_5), lv, (u2 fa 5 3 na_5_3), la)) (bX (dC, dI) h g ca (va_A (WX h g ca iv lv fa la) sz)) (va_A (WX h g ca iv lv fa la) sz)) 0 0 (va_A (WX h g ca iv lv fa la) sz) := by
  refine Met.ofW (cc := cX5_place) (maxL := 5) (ret := none) (by decide) rfl ?_
  intro p e s m args below meth c s₁ B hml hv
  obtain ⟨rfl, hsz, hP, hK, hD0⟩ := hv
  have hx := B.exec
  have hb := B.bytes
  have hr := B.returns
  have ht := tb_tl (atoms_spec (ws := wc yX5_place cX5_place 5 none) B.pre)
  have hown : s.vm.findClass RX5 = some m.cls := findClass_of_methodNamed B.named
  have hlocks := B.notSynchronized
  subst hsz
  have hD := hD0.self (sz := s.heap.size)
  generalize hAe : va_A (WX h g ca iv lv fa la) s.heap.size = A at hD ⊢
  have hA : ∀ q : Nat, s.heap.size ≤ q → A q := fun q h => by rw [← hAe]; exact Or.inr h
  have hS : va_S A s.heap s.heap [] := va_S.rf
  have hl := lv_entry [.ref (g 11 7), .int 8, .int mm, .int q] (n := 5) (Nat.le_of_ble_eq_true rfl)
  rw [lg_entry_eq]
  generalize (lg_sl [.ref (g 11 7), .int 8, .int mm, .int q] ++ List.replicate (5 - (lg_sl [.ref (g 11 7), .int 8, .int mm, .int q]).length) Slot.unset).toArray = ls at hl ⊢
  have hl : lv_has ls 5 [(0, .ref (g 11 7)), (1, .int 8), (2, .int mm), (3, .int q)] := hl
  refine lv_iload_n hx hb dX5_place_0 rfl (lv_at hl 3 rfl) ?_
  refine lv_aload_n hx hb dX5_place_1 rfl (lv_at hl 0 rfl) ?_
  refine gX_5_5 hx hb ht hown hK hP m_342 (v := (iv 5 5)) rfl dX5_place_2 ?_
  refine lv_icmp_lt (tgt := 9) hx hb dX5_place_5 (by decide) (fun c1 => ?_) (fun c1 => ?_)
  · have fc1 := z_lt (rfl : (q).toInt = _) (rfl : ((iv 5 5)).toInt = _) c1
    refine lv_iload_n hx hb dX5_place_9 rfl (lv_at hl 1 rfl) ?_
    refine lv_aload_n hx hb dX5_place_10 rfl (lv_at hl 0 rfl) ?_
    have i_5_4 : 0 ≤ (iv 5 4).toInt ∧ (iv 5 4).toInt ≤ 8 := hI.1 5 4
    refine gX_5_4 hx hb ht hown hK hP m_340 (v := (iv 5 4)) rfl dX5_place_11 ?_
    refine lv_icmp_lt (tgt := 40) hx hb dX5_place_14 (by decide) (fun c2 => ?_) (fun c2 => ?_)
    · have fc2 := z_lt (by decide : (8 : Int32).toInt = 8) (rfl : ((iv 5 4)).toInt = _) c2; exfalso; omega
    · skip
      refine lv_aload_n hx hb dX5_place_17 rfl (lv_at hl 0 rfl) ?_
      refine lv_iload_n hx hb dX5_place_18 rfl (lv_at hl 3 rfl) ?_
      refine pX_5_5 (v := q) hx hb ht hown hK hP hD hS m_342 dX5_place_19 (fun H locs hP hD hS => ?_)
      refine lv_aload_n hx hb dX5_place_22 rfl (lv_at hl 0 rfl) ?_
      refine gX_5_1 hx hb ht hown hK hP m_336 dX5_place_23 ?_
      refine lv_iconst (v := 0) hx hb dX5_place_26 (by decide) ?_
      refine lv_aload_n hx hb dX5_place_27 rfl (lv_at hl 0 rfl) ?_
      refine gX_5_3 hx hb ht hown hK hP m_338 dX5_place_28 ?_
      refine lv_iconst (v := 0) hx hb dX5_place_31 (by decide) ?_
      refine lv_aload_n hx hb dX5_place_32 rfl (lv_at hl 0 rfl) ?_
      refine gX_5_4 hx hb ht hown hK hP m_340 (v := (iv 5 4)) rfl dX5_place_33 ?_
      have hn9 : ((iv 5 4) : Int32).toNatClampNeg ≤ 8 := by show ((((iv 5 4) : Int32).toInt).toNat : Nat) ≤ 8; omega
      refine va_copyi (D := (dC, dI)) (ty := .int) (f := (fa 5 1)) (g := (fa 5 3)) hx hb (hml.trans hl.1.symm) hown (ht _ m_1022) (ht _ m_1024) (ht _ m_1023) (ht _ m_95) hK hP hD hS 34 36 21 23 rfl rfl rfl rfl rfl (by decide) (by decide) (fun q9 => by have := Int32.lt_iff_toInt_lt.mp q9; have h0 : (0 : Int32).toInt = 0 := rfl; omega) (by show (0 : Nat) + _ ≤ 8; omega) (by show (0 : Nat) + _ ≤ 8; omega) (fun i hi => rfl) (Nat.le_of_ble_eq_true rfl) (by rw [nfw]; exact Nat.le_of_ble_eq_true rfl) dX5_place_36 (fun H locs hP hD hS => ?_)
      rw [aX_5_3] at hP hD
      obtain ⟨f3, ef3⟩ : ∃ f : Nat → Int32, f = va_cpy (fa 5 1) (fa 5 3) (0 : Int32).toNatClampNeg (0 : Int32).toNatClampNeg ((iv 5 4) : Int32).toNatClampNeg := ⟨_, rfl⟩
      rw [← ef3] at hP hD
      have hf3 : ∀ j, inb (bA 5 3 j) (f3 j) := fun j => full_i _
      have hP9 : va_P (dC, dI) classes (WX h g ca (u2 iv 5 5 q) lv (u2 fa 5 3 f3) la) H := hP
      have hD9 : va_D A (WX h g ca (u2 iv 5 5 q) lv (u2 fa 5 3 f3) la) := hD
      exact W.vret hx hb hr (fun t ht9 hW => ⟨⟨((u2 iv 5 5 q), lv, (u2 fa 5 3 f3), la), rfl, ⟨f3, q, rfl⟩, by rw [ht9]; exact hP9, hD9⟩, hS.F ht9⟩) hS.2.2 dX5_place_39
  · have fc1 := z_nlt (rfl : (q).toInt = _) (rfl : ((iv 5 5)).toInt = _) c1
    have hP9 : va_P (dC, dI) classes (WX h g ca (u2 iv 5 5 (iv 5 5)) lv (u2 fa 5 3 (fa 5 3)) la) s.heap := hP
    have hD9 : va_D A (WX h g ca (u2 iv 5 5 (iv 5 5)) lv (u2 fa 5 3 (fa 5 3)) la) := hD
    exact W.vret hx hb hr (fun t ht9 hW => ⟨⟨((u2 iv 5 5 (iv 5 5)), lv, (u2 fa 5 3 (fa 5 3)), la), rfl, ⟨(fa 5 3), (iv 5 5), rfl⟩, by rw [ht9]; exact hP9, hD9⟩, hS.F ht9⟩) hS.2.2 dX5_place_8
set_option maxHeartbeats 4000000 in
set_option maxRecDepth 100000 in
/-- X5_place -/
theorem c_X5_place_7 (l : Launch) (dC : Nat → ClassId) (dI : Nat → Nat → Nat) (sz : Nat) (h : Nat) (g : Nat → Nat → Nat) (ca : Nat → Nat → ClassId) (iv : Nat → Nat → Int32) (lv : Nat → Nat → Int64) (fa : Nat → Nat → Nat → Int32) (la : Nat → Nat → Nat → Int64) (hI : IX iv fa) (mm : Int32) (q : Int32) (h_mm : 1 ≤ mm.toInt ∧ mm.toInt ≤ 3) : Met l yX5_place (wc yX5_place cX5_place 5 none) ({ frames := 2, cells := 0, slots := 0, locals := 84 } : Room) (pW (dC, dI) classes (WX h g ca iv lv fa la) (TX ca) sz [.ref (g 11 7), .int 7, .int mm, .int q]) (va_Qv (fun (u : SS) => ∃ (na_5_1 : Nat → Int32) (na_5_2 : Nat → Int32) (na_5_3 : Nat → Int32) (ni_5_5 : Int32), u = ((u2 iv 5 5 ni_5_5), lv, (u2 (u2 (u2 fa 5 1 na_5_1) 5 2 na_5_2) 5 3 na_5_3), la)) (bX (dC, dI) h g ca (va_A (WX h g ca iv lv fa la) sz)) (va_A (WX h g ca iv lv fa la) sz)) 0 0 (va_A (WX h g ca iv lv fa la) sz) := by
  refine Met.ofW (cc := cX5_place) (maxL := 5) (ret := none) (by decide) rfl ?_
  intro p e s m args below meth c s₁ B hml hv
  obtain ⟨rfl, hsz, hP, hK, hD0⟩ := hv
  have hx := B.exec
  have hb := B.bytes
  have hr := B.returns
  have ht := tb_tl (atoms_spec (ws := wc yX5_place cX5_place 5 none) B.pre)
  have hown : s.vm.findClass RX5 = some m.cls := findClass_of_methodNamed B.named
  have hlocks := B.notSynchronized
  subst hsz
  have hD := hD0.self (sz := s.heap.size)
  generalize hAe : va_A (WX h g ca iv lv fa la) s.heap.size = A at hD ⊢
  have hA : ∀ q : Nat, s.heap.size ≤ q → A q := fun q h => by rw [← hAe]; exact Or.inr h
  have hS : va_S A s.heap s.heap [] := va_S.rf
  have hl := lv_entry [.ref (g 11 7), .int 7, .int mm, .int q] (n := 5) (Nat.le_of_ble_eq_true rfl)
  rw [lg_entry_eq]
  generalize (lg_sl [.ref (g 11 7), .int 7, .int mm, .int q] ++ List.replicate (5 - (lg_sl [.ref (g 11 7), .int 7, .int mm, .int q]).length) Slot.unset).toArray = ls at hl ⊢
  have hl : lv_has ls 5 [(0, .ref (g 11 7)), (1, .int 7), (2, .int mm), (3, .int q)] := hl
  refine lv_iload_n hx hb dX5_place_0 rfl (lv_at hl 3 rfl) ?_
  refine lv_aload_n hx hb dX5_place_1 rfl (lv_at hl 0 rfl) ?_
  refine gX_5_5 hx hb ht hown hK hP m_342 (v := (iv 5 5)) rfl dX5_place_2 ?_
  refine lv_icmp_lt (tgt := 9) hx hb dX5_place_5 (by decide) (fun c1 => ?_) (fun c1 => ?_)
  · have fc1 := z_lt (rfl : (q).toInt = _) (rfl : ((iv 5 5)).toInt = _) c1
    refine lv_iload_n hx hb dX5_place_9 rfl (lv_at hl 1 rfl) ?_
    refine lv_aload_n hx hb dX5_place_10 rfl (lv_at hl 0 rfl) ?_
    have i_5_4 : 0 ≤ (iv 5 4).toInt ∧ (iv 5 4).toInt ≤ 8 := hI.1 5 4
    refine gX_5_4 hx hb ht hown hK hP m_340 (v := (iv 5 4)) rfl dX5_place_11 ?_
    refine lv_icmp_lt (tgt := 40) hx hb dX5_place_14 (by decide) (fun c2 => ?_) (fun c2 => ?_)
    · have fc2 := z_lt (by decide : (7 : Int32).toInt = 7) (rfl : ((iv 5 4)).toInt = _) c2
      refine lv_iconst (v := 0) hx hb dX5_place_40 (by decide) ?_
      refine lv_istore (lv' := [(4, .int 0), (0, .ref (g 11 7)), (1, .int 7), (2, .int mm), (3, .int q)]) hx hb dX5_place_41 hl (by decide) rfl (fun ls hl => ?_)
      have lp76 : ∀ (nn76 : Nat) (x75_4 : Int32) (w75_i_5_5 : Int32) (w75_a_5_1 : Nat → Int32) (w75_a_5_2 : Nat → Int32) (w75_a_5_3 : Nat → Int32), 0 ≤ x75_4.toInt ∧ x75_4.toInt ≤ 3 → (∀ j, inb (bA 5 1 j) (w75_a_5_1 j)) → (∀ j, inb (bA 5 2 j) (w75_a_5_2 j)) → (∀ j, inb (bA 5 3 j) (w75_a_5_3 j)) → 3 - x75_4.toInt < (nn76 : Int) → ∀ (H : Heap) (locs : List Loc), ∀ (ls : Array Slot), va_P (dC, dI) classes (WX h g ca (u2 iv 5 5 w75_i_5_5) lv (u2 (u2 (u2 fa 5 1 w75_a_5_1) 5 2 w75_a_5_2) 5 3 w75_a_5_3) la) H → va_D A (WX h g ca (u2 iv 5 5 w75_i_5_5) lv (u2 (u2 (u2 fa 5 1 w75_a_5_1) 5 2 w75_a_5_2) 5 3 w75_a_5_3) la) → va_S A s.heap H locs → lv_has ls 5 [(4, .int x75_4), (0, .ref (g 11 7)), (1, .int 7), (2, .int mm), (3, .int q)] → W p l e ({ frames := 2, cells := 0, slots := 0, locals := 84 } : Room) s m ([.ref (g 11 7), .int 7, .int mm, .int q] : List Value).toArray below meth c H locs 0 0 (MQ below (va_Qv (fun (u : SS) => ∃ (na_5_1 : Nat → Int32) (na_5_2 : Nat → Int32) (na_5_3 : Nat → Int32) (ni_5_5 : Int32), u = ((u2 iv 5 5 ni_5_5), lv, (u2 (u2 (u2 fa 5 1 na_5_1) 5 2 na_5_2) 5 3 na_5_3), la)) (bX (dC, dI) h g ca A) A) ([.ref (g 11 7), .int 7, .int mm, .int q] : List Value).toArray s 0 0 A) (F0 m 43 ls []) := by
        intro nn76
        induction nn76 with
        | zero => intro x75_4 w75_i_5_5 w75_a_5_1 w75_a_5_2 w75_a_5_3 hx75_4 hw75_a_5_1 hw75_a_5_2 hw75_a_5_3 hm76; exfalso; omega
        | succ nn76 ih76 =>
          intro x75_4 w75_i_5_5 w75_a_5_1 w75_a_5_2 w75_a_5_3 hx75_4 hw75_a_5_1 hw75_a_5_2 hw75_a_5_3 hm76 H locs ls hP hD hS hl
          refine lv_iload hx hb dX5_place_43 (lv_at hl 0 rfl) ?_
          refine lv_iload_n hx hb dX5_place_45 rfl (lv_at hl 3 rfl) ?_
          refine lv_icmp_ge (tgt := 114) hx hb dX5_place_46 (by decide) (fun c77 => ?_) (fun c77 => ?_)
          · have fc77 := z_le (rfl : (mm).toInt = _) (rfl : (x75_4).toInt = _) c77
            have hP9 : va_P (dC, dI) classes (WX h g ca (u2 iv 5 5 w75_i_5_5) lv (u2 (u2 (u2 fa 5 1 w75_a_5_1) 5 2 w75_a_5_2) 5 3 w75_a_5_3) la) H := hP
            have hD9 : va_D A (WX h g ca (u2 iv 5 5 w75_i_5_5) lv (u2 (u2 (u2 fa 5 1 w75_a_5_1) 5 2 w75_a_5_2) 5 3 w75_a_5_3) la) := hD
            exact W.vret hx hb hr (fun t ht9 hW => ⟨⟨((u2 iv 5 5 w75_i_5_5), lv, (u2 (u2 (u2 fa 5 1 w75_a_5_1) 5 2 w75_a_5_2) 5 3 w75_a_5_3), la), rfl, ⟨w75_a_5_1, w75_a_5_2, w75_a_5_3, w75_i_5_5, rfl⟩, by rw [ht9]; exact hP9, hD9⟩, hS.F ht9⟩) hS.2.2 dX5_place_114
          · have fc77 := z_nle (rfl : (mm).toInt = _) (rfl : (x75_4).toInt = _) c77
            refine lv_aload_n hx hb dX5_place_49 rfl (lv_at hl 1 rfl) ?_
            refine gX_5_1 hx hb ht hown hK hP m_336 dX5_place_50 ?_
            refine lv_iload_n hx hb dX5_place_53 rfl (lv_at hl 2 rfl) ?_
            refine lv_iload hx hb dX5_place_54 (lv_at hl 0 rfl) ?_
            refine tX_5_1 hx hb hK hP hD hS (f0 := w75_a_5_1) rfl (i := 7) (x := x75_4) (vp_in_iff.mpr (by decide)) dX5_place_56 (fun f78 ef78 H locs hP hD hS => ?_)
            have hf78 : ∀ j, inb (bA 5 1 j) (f78 j) := fun j => full_i _
            have hP : va_P (dC, dI) classes (WX h g ca (u2 iv 5 5 w75_i_5_5) lv (u2 (u2 (u2 fa 5 1 f78) 5 2 w75_a_5_2) 5 3 w75_a_5_3) la) H := hP
            have hD : va_D A (WX h g ca (u2 iv 5 5 w75_i_5_5) lv (u2 (u2 (u2 fa 5 1 f78) 5 2 w75_a_5_2) 5 3 w75_a_5_3) la) := hD
            refine lv_aload_n hx hb dX5_place_57 rfl (lv_at hl 1 rfl) ?_
            refine gX_5_2 hx hb ht hown hK hP m_337 dX5_place_58 ?_
            refine lv_iload hx hb dX5_place_61 (lv_at hl 0 rfl) ?_
            refine lv_dup2_11 hx hb dX5_place_63 rfl rfl ?_
            refine lX_5_2 hx hb hK hP (f := w75_a_5_2) rfl (vp_in_iff.mpr ⟨by omega, by omega⟩) dX5_place_64 ?_
            refine lv_topi (fun v79 ev79 => ?_)
            refine lv_aload_n hx hb dX5_place_65 rfl (lv_at hl 1 rfl) ?_
            refine gX_5_0 hx hb ht hown hK hP m_335 dX5_place_66 ?_
            refine lv_iload_n hx hb dX5_place_69 rfl (lv_at hl 2 rfl) ?_
            refine lX_5_0 hx hb hK hP (f := (fa 5 0)) rfl (vp_in_iff.mpr (by decide)) dX5_place_70 ?_
            refine lv_topi (fun v80 ev80 => ?_)
            refine lv_iadd hx hb dX5_place_71 ?_
            refine lv_topi (fun v81 ev81 => ?_)
            refine tX_5_2 hx hb hK hP hD hS (f0 := w75_a_5_2) rfl (i := x75_4) (x := v81) (vp_in_iff.mpr ⟨by omega, by omega⟩) dX5_place_72 (fun f82 ef82 H locs hP hD hS => ?_)
            have hf82 : ∀ j, inb (bA 5 2 j) (f82 j) := fun j => full_i _
            have hP : va_P (dC, dI) classes (WX h g ca (u2 iv 5 5 w75_i_5_5) lv (u2 (u2 (u2 fa 5 1 f78) 5 2 f82) 5 3 w75_a_5_3) la) H := hP
            have hD : va_D A (WX h g ca (u2 iv 5 5 w75_i_5_5) lv (u2 (u2 (u2 fa 5 1 f78) 5 2 f82) 5 3 w75_a_5_3) la) := hD
            refine lv_aload_n hx hb dX5_place_73 rfl (lv_at hl 1 rfl) ?_
            refine lv_iload_n hx hb dX5_place_74 rfl (lv_at hl 2 rfl) ?_
            refine lv_iconst (v := 1) hx hb dX5_place_75 (by decide) ?_
            refine lv_iadd hx hb dX5_place_76 ?_
            refine lv_topi (fun v83 ev83 => ?_)
            obtain rfl : 8 = v83 := (ev83.trans (by decide)).symm
            refine lv_iload_n hx hb dX5_place_77 rfl (lv_at hl 3 rfl) ?_
            refine lv_iload_n hx hb dX5_place_78 rfl (lv_at hl 4 rfl) ?_
            refine lv_aload_n hx hb dX5_place_79 rfl (lv_at hl 1 rfl) ?_
            refine gX_5_2 hx hb ht hown hK hP m_337 dX5_place_80 ?_
            refine lv_iload hx hb dX5_place_83 (lv_at hl 0 rfl) ?_
            refine lX_5_2 hx hb hK hP (f := f82) rfl (vp_in_iff.mpr ⟨by omega, by omega⟩) dX5_place_85 ?_
            refine lv_topi (fun v84 ev84 => ?_)
            refine va_mmax hx hb (hml.trans hl.1.symm) hown (ht _ m_1025) (ht _ m_558) (ht _ m_90) (ht _ m_559) (Nat.le_of_ble_eq_true rfl) (Nat.le_of_ble_eq_true rfl) (Nat.le_of_ble_eq_true rfl) (Nat.le_of_ble_eq_true rfl) dX5_place_86 ?_
            refine lv_topi (fun v85 ev85 => ?_)
            have tv85 := mm_or ev85
            have uv85 := mm_max ev85 (rfl : (q).toInt = _) (rfl : (v84).toInt = _)
            have hFc := free_all hD hS hA
            refine va_callv (va_runV (As := [.int 8, .int mm, .int v85]) (rest := []) ⟨hx, hb, hml, hown, ht⟩ (c_X5_place_8 l dC dI H.size h g ca (u2 iv 5 5 w75_i_5_5) lv (u2 (u2 (u2 fa 5 1 f78) 5 2 f82) 5 3 w75_a_5_3) la (IX_a (c := 5) (k := 3) (IX_a (c := 5) (k := 2) (IX_a (c := 5) (k := 1) (IX_i (c := 5) (k := 5) hI (full_i _)) hf78) hf82) hw75_a_5_3) mm v85 ⟨by omega, by omega⟩) (kV 3 ht m_1018 m_1020 m_41 m_86 m_1021 rfl rfl hd_X5_place_v ⟨Nat.le_of_ble_eq_true rfl, Nat.le_of_ble_eq_true rfl⟩) (vW hP hK hD (rX_5 hK hP)) rfl rfl hl.1 rfl (lv_room (Nat.le_of_ble_eq_true rfl)) dX5_place_89 ⟨Nat.le_of_ble_eq_true rfl, Nat.le_of_ble_eq_true rfl⟩) hS (fun q _ h => hFc q h) hFc (fun u t H1 locs ht9 hvm hr86 hB hz1 hk1 hS => ?_)
            obtain ⟨n87, n88, rfl⟩ := hr86
            have hn87 : ∀ j, inb (bA 5 3 j) (n87 j) := fun j => full_i _
            obtain ⟨hP, hD⟩ := hB
            rw [ht9] at hP
            generalize H1 = H at hP hS ⊢
            have hP : va_P (dC, dI) classes (WX h g ca (u2 iv 5 5 n88) lv (u2 (u2 (u2 fa 5 1 f78) 5 2 f82) 5 3 n87) la) H := hP
            have hD : va_D A (WX h g ca (u2 iv 5 5 n88) lv (u2 (u2 (u2 fa 5 1 f78) 5 2 f82) 5 3 n87) la) := (show va_D _ (WX h g ca (u2 iv 5 5 n88) lv (u2 (u2 (u2 fa 5 1 f78) 5 2 f82) 5 3 n87) la) from hD).weaken (fun _ _ _ h => hFc _ h)
            refine lv_aload_n hx hb dX5_place_92 rfl (lv_at hl 1 rfl) ?_
            refine gX_5_2 hx hb ht hown hK hP m_337 dX5_place_93 ?_
            refine lv_iload hx hb dX5_place_96 (lv_at hl 0 rfl) ?_
            refine lv_dup2_11 hx hb dX5_place_98 rfl rfl ?_
            refine lX_5_2 hx hb hK hP (f := f82) rfl (vp_in_iff.mpr ⟨by omega, by omega⟩) dX5_place_99 ?_
            refine lv_topi (fun v89 ev89 => ?_)
            obtain rfl : v84 = v89 := ev84.trans ev89.symm
            refine lv_aload_n hx hb dX5_place_100 rfl (lv_at hl 1 rfl) ?_
            refine gX_5_0 hx hb ht hown hK hP m_335 dX5_place_101 ?_
            refine lv_iload_n hx hb dX5_place_104 rfl (lv_at hl 2 rfl) ?_
            refine lX_5_0 hx hb hK hP (f := (fa 5 0)) rfl (vp_in_iff.mpr (by decide)) dX5_place_105 ?_
            refine lv_topi (fun v90 ev90 => ?_)
            obtain rfl : v80 = v90 := ev80.trans ev90.symm
            refine lv_isub hx hb dX5_place_106 ?_
            refine lv_topi (fun v91 ev91 => ?_)
            refine tX_5_2 hx hb hK hP hD hS (f0 := f82) rfl (i := x75_4) (x := v91) (vp_in_iff.mpr ⟨by omega, by omega⟩) dX5_place_107 (fun f92 ef92 H locs hP hD hS => ?_)
            have hf92 : ∀ j, inb (bA 5 2 j) (f92 j) := fun j => full_i _
            have hP : va_P (dC, dI) classes (WX h g ca (u2 iv 5 5 n88) lv (u2 (u2 (u2 fa 5 1 f78) 5 2 f92) 5 3 n87) la) H := hP
            have hD : va_D A (WX h g ca (u2 iv 5 5 n88) lv (u2 (u2 (u2 fa 5 1 f78) 5 2 f92) 5 3 n87) la) := hD
            obtain ⟨v93, ev93⟩ : ∃ y : Int32, y = x75_4 + 1 := ⟨_, rfl⟩
            have tv93 := z_add ev93 rfl (by decide : (1 : Int32).toInt = 1) (by omega) (by omega)
            refine lv_iinc (v := v93) (lv' := [(4, .int v93), (0, .ref (g 11 7)), (1, .int 7), (2, .int mm), (3, .int q)]) hx hb dX5_place_108 hl (k := 0) rfl (by rw [ev93]; rfl) (by decide) rfl (fun ls hl => ?_)
            refine lv_goto (tgt := 43) hx hb dX5_place_111 (by decide) ?_
            exact ih76 v93 n88 f78 f92 n87 ⟨by omega, by omega⟩ hf78 hf92 hn87 (by omega) _ _ ls hP hD hS (lv_sub hl [0, 1, 2, 3, 4] rfl)
      exact lp76 4 0 (iv 5 5) (fa 5 1) (fa 5 2) (fa 5 3) ⟨by decide, by decide⟩ (hI.2 5 1) (hI.2 5 2) (hI.2 5 3) (by first | decide | omega) _ _ ls hP hD hS (lv_sub hl [0, 1, 2, 3, 4] rfl)
    · have fc2 := z_nlt (by decide : (7 : Int32).toInt = 7) (rfl : ((iv 5 4)).toInt = _) c2
      refine lv_aload_n hx hb dX5_place_17 rfl (lv_at hl 0 rfl) ?_
      refine lv_iload_n hx hb dX5_place_18 rfl (lv_at hl 3 rfl) ?_
      refine pX_5_5 (v := q) hx hb ht hown hK hP hD hS m_342 dX5_place_19 (fun H locs hP hD hS => ?_)
      refine lv_aload_n hx hb dX5_place_22 rfl (lv_at hl 0 rfl) ?_
      refine gX_5_1 hx hb ht hown hK hP m_336 dX5_place_23 ?_
      refine lv_iconst (v := 0) hx hb dX5_place_26 (by decide) ?_
      refine lv_aload_n hx hb dX5_place_27 rfl (lv_at hl 0 rfl) ?_
      refine gX_5_3 hx hb ht hown hK hP m_338 dX5_place_28 ?_
      refine lv_iconst (v := 0) hx hb dX5_place_31 (by decide) ?_
      refine lv_aload_n hx hb dX5_place_32 rfl (lv_at hl 0 rfl) ?_
      refine gX_5_4 hx hb ht hown hK hP m_340 (v := (iv 5 4)) rfl dX5_place_33 ?_
      have hn9 : ((iv 5 4) : Int32).toNatClampNeg ≤ 8 := by show ((((iv 5 4) : Int32).toInt).toNat : Nat) ≤ 8; omega
      refine va_copyi (D := (dC, dI)) (ty := .int) (f := (fa 5 1)) (g := (fa 5 3)) hx hb (hml.trans hl.1.symm) hown (ht _ m_1022) (ht _ m_1024) (ht _ m_1023) (ht _ m_95) hK hP hD hS 34 36 21 23 rfl rfl rfl rfl rfl (by decide) (by decide) (fun q9 => by have := Int32.lt_iff_toInt_lt.mp q9; have h0 : (0 : Int32).toInt = 0 := rfl; omega) (by show (0 : Nat) + _ ≤ 8; omega) (by show (0 : Nat) + _ ≤ 8; omega) (fun i hi => rfl) (Nat.le_of_ble_eq_true rfl) (by rw [nfw]; exact Nat.le_of_ble_eq_true rfl) dX5_place_36 (fun H locs hP hD hS => ?_)
      rw [aX_5_3] at hP hD
      obtain ⟨f94, ef94⟩ : ∃ f : Nat → Int32, f = va_cpy (fa 5 1) (fa 5 3) (0 : Int32).toNatClampNeg (0 : Int32).toNatClampNeg ((iv 5 4) : Int32).toNatClampNeg := ⟨_, rfl⟩
      rw [← ef94] at hP hD
      have hf94 : ∀ j, inb (bA 5 3 j) (f94 j) := fun j => full_i _
      have hP9 : va_P (dC, dI) classes (WX h g ca (u2 iv 5 5 q) lv (u2 (u2 (u2 fa 5 1 (fa 5 1)) 5 2 (fa 5 2)) 5 3 f94) la) H := hP
      have hD9 : va_D A (WX h g ca (u2 iv 5 5 q) lv (u2 (u2 (u2 fa 5 1 (fa 5 1)) 5 2 (fa 5 2)) 5 3 f94) la) := hD
      exact W.vret hx hb hr (fun t ht9 hW => ⟨⟨((u2 iv 5 5 q), lv, (u2 (u2 (u2 fa 5 1 (fa 5 1)) 5 2 (fa 5 2)) 5 3 f94), la), rfl, ⟨(fa 5 1), (fa 5 2), f94, q, rfl⟩, by rw [ht9]; exact hP9, hD9⟩, hS.F ht9⟩) hS.2.2 dX5_place_39
  · have fc1 := z_nlt (rfl : (q).toInt = _) (rfl : ((iv 5 5)).toInt = _) c1
    have hP9 : va_P (dC, dI) classes (WX h g ca (u2 iv 5 5 (iv 5 5)) lv (u2 (u2 (u2 fa 5 1 (fa 5 1)) 5 2 (fa 5 2)) 5 3 (fa 5 3)) la) s.heap := hP
    have hD9 : va_D A (WX h g ca (u2 iv 5 5 (iv 5 5)) lv (u2 (u2 (u2 fa 5 1 (fa 5 1)) 5 2 (fa 5 2)) 5 3 (fa 5 3)) la) := hD
    exact W.vret hx hb hr (fun t ht9 hW => ⟨⟨((u2 iv 5 5 (iv 5 5)), lv, (u2 (u2 (u2 fa 5 1 (fa 5 1)) 5 2 (fa 5 2)) 5 3 (fa 5 3)), la), rfl, ⟨(fa 5 1), (fa 5 2), (fa 5 3), (iv 5 5), rfl⟩, by rw [ht9]; exact hP9, hD9⟩, hS.F ht9⟩) hS.2.2 dX5_place_8
set_option maxHeartbeats 4000000 in
set_option maxRecDepth 100000 in
/-- X5_place -/
theorem c_X5_place_6 (l : Launch) (dC : Nat → ClassId) (dI : Nat → Nat → Nat) (sz : Nat) (h : Nat) (g : Nat → Nat → Nat) (ca : Nat → Nat → ClassId) (iv : Nat → Nat → Int32) (lv : Nat → Nat → Int64) (fa : Nat → Nat → Nat → Int32) (la : Nat → Nat → Nat → Int64) (hI : IX iv fa) (mm : Int32) (q : Int32) (h_mm : 1 ≤ mm.toInt ∧ mm.toInt ≤ 3) : Met l yX5_place (wc yX5_place cX5_place 5 none) ({ frames := 3, cells := 0, slots := 0, locals := 108 } : Room) (pW (dC, dI) classes (WX h g ca iv lv fa la) (TX ca) sz [.ref (g 11 7), .int 6, .int mm, .int q]) (va_Qv (fun (u : SS) => ∃ (na_5_1 : Nat → Int32) (na_5_2 : Nat → Int32) (na_5_3 : Nat → Int32) (ni_5_5 : Int32), u = ((u2 iv 5 5 ni_5_5), lv, (u2 (u2 (u2 fa 5 1 na_5_1) 5 2 na_5_2) 5 3 na_5_3), la)) (bX (dC, dI) h g ca (va_A (WX h g ca iv lv fa la) sz)) (va_A (WX h g ca iv lv fa la) sz)) 0 0 (va_A (WX h g ca iv lv fa la) sz) := by
  refine Met.ofW (cc := cX5_place) (maxL := 5) (ret := none) (by decide) rfl ?_
  intro p e s m args below meth c s₁ B hml hv
  obtain ⟨rfl, hsz, hP, hK, hD0⟩ := hv
  have hx := B.exec
  have hb := B.bytes
  have hr := B.returns
  have ht := tb_tl (atoms_spec (ws := wc yX5_place cX5_place 5 none) B.pre)
  have hown : s.vm.findClass RX5 = some m.cls := findClass_of_methodNamed B.named
  have hlocks := B.notSynchronized
  subst hsz
  have hD := hD0.self (sz := s.heap.size)
  generalize hAe : va_A (WX h g ca iv lv fa la) s.heap.size = A at hD ⊢
  have hA : ∀ q : Nat, s.heap.size ≤ q → A q := fun q h => by rw [← hAe]; exact Or.inr h
  have hS : va_S A s.heap s.heap [] := va_S.rf
  have hl := lv_entry [.ref (g 11 7), .int 6, .int mm, .int q] (n := 5) (Nat.le_of_ble_eq_true rfl)
  rw [lg_entry_eq]
  generalize (lg_sl [.ref (g 11 7), .int 6, .int mm, .int q] ++ List.replicate (5 - (lg_sl [.ref (g 11 7), .int 6, .int mm, .int q]).length) Slot.unset).toArray = ls at hl ⊢
  have hl : lv_has ls 5 [(0, .ref (g 11 7)), (1, .int 6), (2, .int mm), (3, .int q)] := hl
  refine lv_iload_n hx hb dX5_place_0 rfl (lv_at hl 3 rfl) ?_
  refine lv_aload_n hx hb dX5_place_1 rfl (lv_at hl 0 rfl) ?_
  refine gX_5_5 hx hb ht hown hK hP m_342 (v := (iv 5 5)) rfl dX5_place_2 ?_
  refine lv_icmp_lt (tgt := 9) hx hb dX5_place_5 (by decide) (fun c1 => ?_) (fun c1 => ?_)
  · have fc1 := z_lt (rfl : (q).toInt = _) (rfl : ((iv 5 5)).toInt = _) c1
    refine lv_iload_n hx hb dX5_place_9 rfl (lv_at hl 1 rfl) ?_
    refine lv_aload_n hx hb dX5_place_10 rfl (lv_at hl 0 rfl) ?_
    have i_5_4 : 0 ≤ (iv 5 4).toInt ∧ (iv 5 4).toInt ≤ 8 := hI.1 5 4
    refine gX_5_4 hx hb ht hown hK hP m_340 (v := (iv 5 4)) rfl dX5_place_11 ?_
    refine lv_icmp_lt (tgt := 40) hx hb dX5_place_14 (by decide) (fun c2 => ?_) (fun c2 => ?_)
    · have fc2 := z_lt (by decide : (6 : Int32).toInt = 6) (rfl : ((iv 5 4)).toInt = _) c2
      refine lv_iconst (v := 0) hx hb dX5_place_40 (by decide) ?_
      refine lv_istore (lv' := [(4, .int 0), (0, .ref (g 11 7)), (1, .int 6), (2, .int mm), (3, .int q)]) hx hb dX5_place_41 hl (by decide) rfl (fun ls hl => ?_)
      have lp84 : ∀ (nn84 : Nat) (x83_4 : Int32) (w83_i_5_5 : Int32) (w83_a_5_1 : Nat → Int32) (w83_a_5_2 : Nat → Int32) (w83_a_5_3 : Nat → Int32), 0 ≤ x83_4.toInt ∧ x83_4.toInt ≤ 3 → (∀ j, inb (bA 5 1 j) (w83_a_5_1 j)) → (∀ j, inb (bA 5 2 j) (w83_a_5_2 j)) → (∀ j, inb (bA 5 3 j) (w83_a_5_3 j)) → 3 - x83_4.toInt < (nn84 : Int) → ∀ (H : Heap) (locs : List Loc), ∀ (ls : Array Slot), va_P (dC, dI) classes (WX h g ca (u2 iv 5 5 w83_i_5_5) lv (u2 (u2 (u2 fa 5 1 w83_a_5_1) 5 2 w83_a_5_2) 5 3 w83_a_5_3) la) H → va_D A (WX h g ca (u2 iv 5 5 w83_i_5_5) lv (u2 (u2 (u2 fa 5 1 w83_a_5_1) 5 2 w83_a_5_2) 5 3 w83_a_5_3) la) → va_S A s.heap H locs → lv_has ls 5 [(4, .int x83_4), (0, .ref (g 11 7)), (1, .int 6), (2, .int mm), (3, .int q)] → W p l e ({ frames := 3, cells := 0, slots := 0, locals := 108 } : Room) s m ([.ref (g 11 7), .int 6, .int mm, .int q] : List Value).toArray below meth c H locs 0 0 (MQ below (va_Qv (fun (u : SS) => ∃ (na_5_1 : Nat → Int32) (na_5_2 : Nat → Int32) (na_5_3 : Nat → Int32) (ni_5_5 : Int32), u = ((u2 iv 5 5 ni_5_5), lv, (u2 (u2 (u2 fa 5 1 na_5_1) 5 2 na_5_2) 5 3 na_5_3), la)) (bX (dC, dI) h g ca A) A) ([.ref (g 11 7), .int 6, .int mm, .int q] : List Value).toArray s 0 0 A) (F0 m 43 ls []) := by
        intro nn84
        induction nn84 with
        | zero => intro x83_4 w83_i_5_5 w83_a_5_1 w83_a_5_2 w83_a_5_3 hx83_4 hw83_a_5_1 hw83_a_5_2 hw83_a_5_3 hm84; exfalso; omega
        | succ nn84 ih84 =>
          intro x83_4 w83_i_5_5 w83_a_5_1 w83_a_5_2 w83_a_5_3 hx83_4 hw83_a_5_1 hw83_a_5_2 hw83_a_5_3 hm84 H locs ls hP hD hS hl
          refine lv_iload hx hb dX5_place_43 (lv_at hl 0 rfl) ?_
          refine lv_iload_n hx hb dX5_place_45 rfl (lv_at hl 3 rfl) ?_
          refine lv_icmp_ge (tgt := 114) hx hb dX5_place_46 (by decide) (fun c85 => ?_) (fun c85 => ?_)
          · have fc85 := z_le (rfl : (mm).toInt = _) (rfl : (x83_4).toInt = _) c85
            have hP9 : va_P (dC, dI) classes (WX h g ca (u2 iv 5 5 w83_i_5_5) lv (u2 (u2 (u2 fa 5 1 w83_a_5_1) 5 2 w83_a_5_2) 5 3 w83_a_5_3) la) H := hP
            have hD9 : va_D A (WX h g ca (u2 iv 5 5 w83_i_5_5) lv (u2 (u2 (u2 fa 5 1 w83_a_5_1) 5 2 w83_a_5_2) 5 3 w83_a_5_3) la) := hD
            exact W.vret hx hb hr (fun t ht9 hW => ⟨⟨((u2 iv 5 5 w83_i_5_5), lv, (u2 (u2 (u2 fa 5 1 w83_a_5_1) 5 2 w83_a_5_2) 5 3 w83_a_5_3), la), rfl, ⟨w83_a_5_1, w83_a_5_2, w83_a_5_3, w83_i_5_5, rfl⟩, by rw [ht9]; exact hP9, hD9⟩, hS.F ht9⟩) hS.2.2 dX5_place_114
          · have fc85 := z_nle (rfl : (mm).toInt = _) (rfl : (x83_4).toInt = _) c85
            refine lv_aload_n hx hb dX5_place_49 rfl (lv_at hl 1 rfl) ?_
            refine gX_5_1 hx hb ht hown hK hP m_336 dX5_place_50 ?_
            refine lv_iload_n hx hb dX5_place_53 rfl (lv_at hl 2 rfl) ?_
            refine lv_iload hx hb dX5_place_54 (lv_at hl 0 rfl) ?_
            refine tX_5_1 hx hb hK hP hD hS (f0 := w83_a_5_1) rfl (i := 6) (x := x83_4) (vp_in_iff.mpr (by decide)) dX5_place_56 (fun f86 ef86 H locs hP hD hS => ?_)
            have hf86 : ∀ j, inb (bA 5 1 j) (f86 j) := fun j => full_i _
            have hP : va_P (dC, dI) classes (WX h g ca (u2 iv 5 5 w83_i_5_5) lv (u2 (u2 (u2 fa 5 1 f86) 5 2 w83_a_5_2) 5 3 w83_a_5_3) la) H := hP
            have hD : va_D A (WX h g ca (u2 iv 5 5 w83_i_5_5) lv (u2 (u2 (u2 fa 5 1 f86) 5 2 w83_a_5_2) 5 3 w83_a_5_3) la) := hD
            refine lv_aload_n hx hb dX5_place_57 rfl (lv_at hl 1 rfl) ?_
            refine gX_5_2 hx hb ht hown hK hP m_337 dX5_place_58 ?_
            refine lv_iload hx hb dX5_place_61 (lv_at hl 0 rfl) ?_
            refine lv_dup2_11 hx hb dX5_place_63 rfl rfl ?_
            refine lX_5_2 hx hb hK hP (f := w83_a_5_2) rfl (vp_in_iff.mpr ⟨by omega, by omega⟩) dX5_place_64 ?_
            refine lv_topi (fun v87 ev87 => ?_)
            refine lv_aload_n hx hb dX5_place_65 rfl (lv_at hl 1 rfl) ?_
            refine gX_5_0 hx hb ht hown hK hP m_335 dX5_place_66 ?_
            refine lv_iload_n hx hb dX5_place_69 rfl (lv_at hl 2 rfl) ?_
            refine lX_5_0 hx hb hK hP (f := (fa 5 0)) rfl (vp_in_iff.mpr (by decide)) dX5_place_70 ?_
            refine lv_topi (fun v88 ev88 => ?_)
            refine lv_iadd hx hb dX5_place_71 ?_
            refine lv_topi (fun v89 ev89 => ?_)
            refine tX_5_2 hx hb hK hP hD hS (f0 := w83_a_5_2) rfl (i := x83_4) (x := v89) (vp_in_iff.mpr ⟨by omega, by omega⟩) dX5_place_72 (fun f90 ef90 H locs hP hD hS => ?_)
            have hf90 : ∀ j, inb (bA 5 2 j) (f90 j) := fun j => full_i _
            have hP : va_P (dC, dI) classes (WX h g ca (u2 iv 5 5 w83_i_5_5) lv (u2 (u2 (u2 fa 5 1 f86) 5 2 f90) 5 3 w83_a_5_3) la) H := hP
            have hD : va_D A (WX h g ca (u2 iv 5 5 w83_i_5_5) lv (u2 (u2 (u2 fa 5 1 f86) 5 2 f90) 5 3 w83_a_5_3) la) := hD
            refine lv_aload_n hx hb dX5_place_73 rfl (lv_at hl 1 rfl) ?_
            refine lv_iload_n hx hb dX5_place_74 rfl (lv_at hl 2 rfl) ?_
            refine lv_iconst (v := 1) hx hb dX5_place_75 (by decide) ?_
            refine lv_iadd hx hb dX5_place_76 ?_
            refine lv_topi (fun v91 ev91 => ?_)
            obtain rfl : 7 = v91 := (ev91.trans (by decide)).symm
            refine lv_iload_n hx hb dX5_place_77 rfl (lv_at hl 3 rfl) ?_
            refine lv_iload_n hx hb dX5_place_78 rfl (lv_at hl 4 rfl) ?_
            refine lv_aload_n hx hb dX5_place_79 rfl (lv_at hl 1 rfl) ?_
            refine gX_5_2 hx hb ht hown hK hP m_337 dX5_place_80 ?_
            refine lv_iload hx hb dX5_place_83 (lv_at hl 0 rfl) ?_
            refine lX_5_2 hx hb hK hP (f := f90) rfl (vp_in_iff.mpr ⟨by omega, by omega⟩) dX5_place_85 ?_
            refine lv_topi (fun v92 ev92 => ?_)
            refine va_mmax hx hb (hml.trans hl.1.symm) hown (ht _ m_1025) (ht _ m_558) (ht _ m_90) (ht _ m_559) (Nat.le_of_ble_eq_true rfl) (Nat.le_of_ble_eq_true rfl) (Nat.le_of_ble_eq_true rfl) (Nat.le_of_ble_eq_true rfl) dX5_place_86 ?_
            refine lv_topi (fun v93 ev93 => ?_)
            have tv93 := mm_or ev93
            have uv93 := mm_max ev93 (rfl : (q).toInt = _) (rfl : (v92).toInt = _)
            have hFc := free_all hD hS hA
            refine va_callv (va_runV (As := [.int 7, .int mm, .int v93]) (rest := []) ⟨hx, hb, hml, hown, ht⟩ (c_X5_place_7 l dC dI H.size h g ca (u2 iv 5 5 w83_i_5_5) lv (u2 (u2 (u2 fa 5 1 f86) 5 2 f90) 5 3 w83_a_5_3) la (IX_a (c := 5) (k := 3) (IX_a (c := 5) (k := 2) (IX_a (c := 5) (k := 1) (IX_i (c := 5) (k := 5) hI (full_i _)) hf86) hf90) hw83_a_5_3) mm v93 ⟨by omega, by omega⟩) (kV 3 ht m_1018 m_1020 m_41 m_86 m_1021 rfl rfl hd_X5_place_v ⟨Nat.le_of_ble_eq_true rfl, Nat.le_of_ble_eq_true rfl⟩) (vW hP hK hD (rX_5 hK hP)) rfl rfl hl.1 rfl (lv_room (Nat.le_of_ble_eq_true rfl)) dX5_place_89 ⟨Nat.le_of_ble_eq_true rfl, Nat.le_of_ble_eq_true rfl⟩) hS (fun q _ h => hFc q h) hFc (fun u t H1 locs ht9 hvm hr94 hB hz1 hk1 hS => ?_)
            obtain ⟨n95, n96, n97, n98, rfl⟩ := hr94
            have hn95 : ∀ j, inb (bA 5 1 j) (n95 j) := fun j => full_i _
            have hn96 : ∀ j, inb (bA 5 2 j) (n96 j) := fun j => full_i _
            have hn97 : ∀ j, inb (bA 5 3 j) (n97 j) := fun j => full_i _
            obtain ⟨hP, hD⟩ := hB
            rw [ht9] at hP
            generalize H1 = H at hP hS ⊢
            have hP : va_P (dC, dI) classes (WX h g ca (u2 iv 5 5 n98) lv (u2 (u2 (u2 fa 5 1 n95) 5 2 n96) 5 3 n97) la) H := hP
            have hD : va_D A (WX h g ca (u2 iv 5 5 n98) lv (u2 (u2 (u2 fa 5 1 n95) 5 2 n96) 5 3 n97) la) := (show va_D _ (WX h g ca (u2 iv 5 5 n98) lv (u2 (u2 (u2 fa 5 1 n95) 5 2 n96) 5 3 n97) la) from hD).weaken (fun _ _ _ h => hFc _ h)
            refine lv_aload_n hx hb dX5_place_92 rfl (lv_at hl 1 rfl) ?_
            refine gX_5_2 hx hb ht hown hK hP m_337 dX5_place_93 ?_
            refine lv_iload hx hb dX5_place_96 (lv_at hl 0 rfl) ?_
            refine lv_dup2_11 hx hb dX5_place_98 rfl rfl ?_
            refine lX_5_2 hx hb hK hP (f := n96) rfl (vp_in_iff.mpr ⟨by omega, by omega⟩) dX5_place_99 ?_
            refine lv_topi (fun v99 ev99 => ?_)
            refine lv_aload_n hx hb dX5_place_100 rfl (lv_at hl 1 rfl) ?_
            refine gX_5_0 hx hb ht hown hK hP m_335 dX5_place_101 ?_
            refine lv_iload_n hx hb dX5_place_104 rfl (lv_at hl 2 rfl) ?_
            refine lX_5_0 hx hb hK hP (f := (fa 5 0)) rfl (vp_in_iff.mpr (by decide)) dX5_place_105 ?_
            refine lv_topi (fun v100 ev100 => ?_)
            obtain rfl : v88 = v100 := ev88.trans ev100.symm
            refine lv_isub hx hb dX5_place_106 ?_
            refine lv_topi (fun v101 ev101 => ?_)
            refine tX_5_2 hx hb hK hP hD hS (f0 := n96) rfl (i := x83_4) (x := v101) (vp_in_iff.mpr ⟨by omega, by omega⟩) dX5_place_107 (fun f102 ef102 H locs hP hD hS => ?_)
            have hf102 : ∀ j, inb (bA 5 2 j) (f102 j) := fun j => full_i _
            have hP : va_P (dC, dI) classes (WX h g ca (u2 iv 5 5 n98) lv (u2 (u2 (u2 fa 5 1 n95) 5 2 f102) 5 3 n97) la) H := hP
            have hD : va_D A (WX h g ca (u2 iv 5 5 n98) lv (u2 (u2 (u2 fa 5 1 n95) 5 2 f102) 5 3 n97) la) := hD
            obtain ⟨v103, ev103⟩ : ∃ y : Int32, y = x83_4 + 1 := ⟨_, rfl⟩
            have tv103 := z_add ev103 rfl (by decide : (1 : Int32).toInt = 1) (by omega) (by omega)
            refine lv_iinc (v := v103) (lv' := [(4, .int v103), (0, .ref (g 11 7)), (1, .int 6), (2, .int mm), (3, .int q)]) hx hb dX5_place_108 hl (k := 0) rfl (by rw [ev103]; rfl) (by decide) rfl (fun ls hl => ?_)
            refine lv_goto (tgt := 43) hx hb dX5_place_111 (by decide) ?_
            exact ih84 v103 n98 n95 f102 n97 ⟨by omega, by omega⟩ hn95 hf102 hn97 (by omega) _ _ ls hP hD hS (lv_sub hl [0, 1, 2, 3, 4] rfl)
      exact lp84 4 0 (iv 5 5) (fa 5 1) (fa 5 2) (fa 5 3) ⟨by decide, by decide⟩ (hI.2 5 1) (hI.2 5 2) (hI.2 5 3) (by first | decide | omega) _ _ ls hP hD hS (lv_sub hl [0, 1, 2, 3, 4] rfl)
    · have fc2 := z_nlt (by decide : (6 : Int32).toInt = 6) (rfl : ((iv 5 4)).toInt = _) c2
      refine lv_aload_n hx hb dX5_place_17 rfl (lv_at hl 0 rfl) ?_
      refine lv_iload_n hx hb dX5_place_18 rfl (lv_at hl 3 rfl) ?_
      refine pX_5_5 (v := q) hx hb ht hown hK hP hD hS m_342 dX5_place_19 (fun H locs hP hD hS => ?_)
      refine lv_aload_n hx hb dX5_place_22 rfl (lv_at hl 0 rfl) ?_
      refine gX_5_1 hx hb ht hown hK hP m_336 dX5_place_23 ?_
      refine lv_iconst (v := 0) hx hb dX5_place_26 (by decide) ?_
      refine lv_aload_n hx hb dX5_place_27 rfl (lv_at hl 0 rfl) ?_
      refine gX_5_3 hx hb ht hown hK hP m_338 dX5_place_28 ?_
      refine lv_iconst (v := 0) hx hb dX5_place_31 (by decide) ?_
      refine lv_aload_n hx hb dX5_place_32 rfl (lv_at hl 0 rfl) ?_
      refine gX_5_4 hx hb ht hown hK hP m_340 (v := (iv 5 4)) rfl dX5_place_33 ?_
      have hn9 : ((iv 5 4) : Int32).toNatClampNeg ≤ 8 := by show ((((iv 5 4) : Int32).toInt).toNat : Nat) ≤ 8; omega
      refine va_copyi (D := (dC, dI)) (ty := .int) (f := (fa 5 1)) (g := (fa 5 3)) hx hb (hml.trans hl.1.symm) hown (ht _ m_1022) (ht _ m_1024) (ht _ m_1023) (ht _ m_95) hK hP hD hS 34 36 21 23 rfl rfl rfl rfl rfl (by decide) (by decide) (fun q9 => by have := Int32.lt_iff_toInt_lt.mp q9; have h0 : (0 : Int32).toInt = 0 := rfl; omega) (by show (0 : Nat) + _ ≤ 8; omega) (by show (0 : Nat) + _ ≤ 8; omega) (fun i hi => rfl) (Nat.le_of_ble_eq_true rfl) (by rw [nfw]; exact Nat.le_of_ble_eq_true rfl) dX5_place_36 (fun H locs hP hD hS => ?_)
      rw [aX_5_3] at hP hD
      obtain ⟨f104, ef104⟩ : ∃ f : Nat → Int32, f = va_cpy (fa 5 1) (fa 5 3) (0 : Int32).toNatClampNeg (0 : Int32).toNatClampNeg ((iv 5 4) : Int32).toNatClampNeg := ⟨_, rfl⟩
      rw [← ef104] at hP hD
      have hf104 : ∀ j, inb (bA 5 3 j) (f104 j) := fun j => full_i _
      have hP9 : va_P (dC, dI) classes (WX h g ca (u2 iv 5 5 q) lv (u2 (u2 (u2 fa 5 1 (fa 5 1)) 5 2 (fa 5 2)) 5 3 f104) la) H := hP
      have hD9 : va_D A (WX h g ca (u2 iv 5 5 q) lv (u2 (u2 (u2 fa 5 1 (fa 5 1)) 5 2 (fa 5 2)) 5 3 f104) la) := hD
      exact W.vret hx hb hr (fun t ht9 hW => ⟨⟨((u2 iv 5 5 q), lv, (u2 (u2 (u2 fa 5 1 (fa 5 1)) 5 2 (fa 5 2)) 5 3 f104), la), rfl, ⟨(fa 5 1), (fa 5 2), f104, q, rfl⟩, by rw [ht9]; exact hP9, hD9⟩, hS.F ht9⟩) hS.2.2 dX5_place_39
  · have fc1 := z_nlt (rfl : (q).toInt = _) (rfl : ((iv 5 5)).toInt = _) c1
    have hP9 : va_P (dC, dI) classes (WX h g ca (u2 iv 5 5 (iv 5 5)) lv (u2 (u2 (u2 fa 5 1 (fa 5 1)) 5 2 (fa 5 2)) 5 3 (fa 5 3)) la) s.heap := hP
    have hD9 : va_D A (WX h g ca (u2 iv 5 5 (iv 5 5)) lv (u2 (u2 (u2 fa 5 1 (fa 5 1)) 5 2 (fa 5 2)) 5 3 (fa 5 3)) la) := hD
    exact W.vret hx hb hr (fun t ht9 hW => ⟨⟨((u2 iv 5 5 (iv 5 5)), lv, (u2 (u2 (u2 fa 5 1 (fa 5 1)) 5 2 (fa 5 2)) 5 3 (fa 5 3)), la), rfl, ⟨(fa 5 1), (fa 5 2), (fa 5 3), (iv 5 5), rfl⟩, by rw [ht9]; exact hP9, hD9⟩, hS.F ht9⟩) hS.2.2 dX5_place_8
set_option maxHeartbeats 4000000 in
set_option maxRecDepth 100000 in
/-- X5_place -/
theorem c_X5_place_5 (l : Launch) (dC : Nat → ClassId) (dI : Nat → Nat → Nat) (sz : Nat) (h : Nat) (g : Nat → Nat → Nat) (ca : Nat → Nat → ClassId) (iv : Nat → Nat → Int32) (lv : Nat → Nat → Int64) (fa : Nat → Nat → Nat → Int32) (la : Nat → Nat → Nat → Int64) (hI : IX iv fa) (mm : Int32) (q : Int32) (h_mm : 1 ≤ mm.toInt ∧ mm.toInt ≤ 3) : Met l yX5_place (wc yX5_place cX5_place 5 none) ({ frames := 4, cells := 0, slots := 0, locals := 132 } : Room) (pW (dC, dI) classes (WX h g ca iv lv fa la) (TX ca) sz [.ref (g 11 7), .int 5, .int mm, .int q]) (va_Qv (fun (u : SS) => ∃ (na_5_1 : Nat → Int32) (na_5_2 : Nat → Int32) (na_5_3 : Nat → Int32) (ni_5_5 : Int32), u = ((u2 iv 5 5 ni_5_5), lv, (u2 (u2 (u2 fa 5 1 na_5_1) 5 2 na_5_2) 5 3 na_5_3), la)) (bX (dC, dI) h g ca (va_A (WX h g ca iv lv fa la) sz)) (va_A (WX h g ca iv lv fa la) sz)) 0 0 (va_A (WX h g ca iv lv fa la) sz) := by
  refine Met.ofW (cc := cX5_place) (maxL := 5) (ret := none) (by decide) rfl ?_
  intro p e s m args below meth c s₁ B hml hv
  obtain ⟨rfl, hsz, hP, hK, hD0⟩ := hv
  have hx := B.exec
  have hb := B.bytes
  have hr := B.returns
  have ht := tb_tl (atoms_spec (ws := wc yX5_place cX5_place 5 none) B.pre)
  have hown : s.vm.findClass RX5 = some m.cls := findClass_of_methodNamed B.named
  have hlocks := B.notSynchronized
  subst hsz
  have hD := hD0.self (sz := s.heap.size)
  generalize hAe : va_A (WX h g ca iv lv fa la) s.heap.size = A at hD ⊢
  have hA : ∀ q : Nat, s.heap.size ≤ q → A q := fun q h => by rw [← hAe]; exact Or.inr h
  have hS : va_S A s.heap s.heap [] := va_S.rf
  have hl := lv_entry [.ref (g 11 7), .int 5, .int mm, .int q] (n := 5) (Nat.le_of_ble_eq_true rfl)
  rw [lg_entry_eq]
  generalize (lg_sl [.ref (g 11 7), .int 5, .int mm, .int q] ++ List.replicate (5 - (lg_sl [.ref (g 11 7), .int 5, .int mm, .int q]).length) Slot.unset).toArray = ls at hl ⊢
  have hl : lv_has ls 5 [(0, .ref (g 11 7)), (1, .int 5), (2, .int mm), (3, .int q)] := hl
  refine lv_iload_n hx hb dX5_place_0 rfl (lv_at hl 3 rfl) ?_
  refine lv_aload_n hx hb dX5_place_1 rfl (lv_at hl 0 rfl) ?_
  refine gX_5_5 hx hb ht hown hK hP m_342 (v := (iv 5 5)) rfl dX5_place_2 ?_
  refine lv_icmp_lt (tgt := 9) hx hb dX5_place_5 (by decide) (fun c1 => ?_) (fun c1 => ?_)
  · have fc1 := z_lt (rfl : (q).toInt = _) (rfl : ((iv 5 5)).toInt = _) c1
    refine lv_iload_n hx hb dX5_place_9 rfl (lv_at hl 1 rfl) ?_
    refine lv_aload_n hx hb dX5_place_10 rfl (lv_at hl 0 rfl) ?_
    have i_5_4 : 0 ≤ (iv 5 4).toInt ∧ (iv 5 4).toInt ≤ 8 := hI.1 5 4
    refine gX_5_4 hx hb ht hown hK hP m_340 (v := (iv 5 4)) rfl dX5_place_11 ?_
    refine lv_icmp_lt (tgt := 40) hx hb dX5_place_14 (by decide) (fun c2 => ?_) (fun c2 => ?_)
    · have fc2 := z_lt (by decide : (5 : Int32).toInt = 5) (rfl : ((iv 5 4)).toInt = _) c2
      refine lv_iconst (v := 0) hx hb dX5_place_40 (by decide) ?_
      refine lv_istore (lv' := [(4, .int 0), (0, .ref (g 11 7)), (1, .int 5), (2, .int mm), (3, .int q)]) hx hb dX5_place_41 hl (by decide) rfl (fun ls hl => ?_)
      have lp84 : ∀ (nn84 : Nat) (x83_4 : Int32) (w83_i_5_5 : Int32) (w83_a_5_1 : Nat → Int32) (w83_a_5_2 : Nat → Int32) (w83_a_5_3 : Nat → Int32), 0 ≤ x83_4.toInt ∧ x83_4.toInt ≤ 3 → (∀ j, inb (bA 5 1 j) (w83_a_5_1 j)) → (∀ j, inb (bA 5 2 j) (w83_a_5_2 j)) → (∀ j, inb (bA 5 3 j) (w83_a_5_3 j)) → 3 - x83_4.toInt < (nn84 : Int) → ∀ (H : Heap) (locs : List Loc), ∀ (ls : Array Slot), va_P (dC, dI) classes (WX h g ca (u2 iv 5 5 w83_i_5_5) lv (u2 (u2 (u2 fa 5 1 w83_a_5_1) 5 2 w83_a_5_2) 5 3 w83_a_5_3) la) H → va_D A (WX h g ca (u2 iv 5 5 w83_i_5_5) lv (u2 (u2 (u2 fa 5 1 w83_a_5_1) 5 2 w83_a_5_2) 5 3 w83_a_5_3) la) → va_S A s.heap H locs → lv_has ls 5 [(4, .int x83_4), (0, .ref (g 11 7)), (1, .int 5), (2, .int mm), (3, .int q)] → W p l e ({ frames := 4, cells := 0, slots := 0, locals := 132 } : Room) s m ([.ref (g 11 7), .int 5, .int mm, .int q] : List Value).toArray below meth c H locs 0 0 (MQ below (va_Qv (fun (u : SS) => ∃ (na_5_1 : Nat → Int32) (na_5_2 : Nat → Int32) (na_5_3 : Nat → Int32) (ni_5_5 : Int32), u = ((u2 iv 5 5 ni_5_5), lv, (u2 (u2 (u2 fa 5 1 na_5_1) 5 2 na_5_2) 5 3 na_5_3), la)) (bX (dC, dI) h g ca A) A) ([.ref (g 11 7), .int 5, .int mm, .int q] : List Value).toArray s 0 0 A) (F0 m 43 ls []) := by
        intro nn84
        induction nn84 with
        | zero => intro x83_4 w83_i_5_5 w83_a_5_1 w83_a_5_2 w83_a_5_3 hx83_4 hw83_a_5_1 hw83_a_5_2 hw83_a_5_3 hm84; exfalso; omega
        | succ nn84 ih84 =>
          intro x83_4 w83_i_5_5 w83_a_5_1 w83_a_5_2 w83_a_5_3 hx83_4 hw83_a_5_1 hw83_a_5_2 hw83_a_5_3 hm84 H locs ls hP hD hS hl
          refine lv_iload hx hb dX5_place_43 (lv_at hl 0 rfl) ?_
          refine lv_iload_n hx hb dX5_place_45 rfl (lv_at hl 3 rfl) ?_
          refine lv_icmp_ge (tgt := 114) hx hb dX5_place_46 (by decide) (fun c85 => ?_) (fun c85 => ?_)
          · have fc85 := z_le (rfl : (mm).toInt = _) (rfl : (x83_4).toInt = _) c85
            have hP9 : va_P (dC, dI) classes (WX h g ca (u2 iv 5 5 w83_i_5_5) lv (u2 (u2 (u2 fa 5 1 w83_a_5_1) 5 2 w83_a_5_2) 5 3 w83_a_5_3) la) H := hP
            have hD9 : va_D A (WX h g ca (u2 iv 5 5 w83_i_5_5) lv (u2 (u2 (u2 fa 5 1 w83_a_5_1) 5 2 w83_a_5_2) 5 3 w83_a_5_3) la) := hD
            exact W.vret hx hb hr (fun t ht9 hW => ⟨⟨((u2 iv 5 5 w83_i_5_5), lv, (u2 (u2 (u2 fa 5 1 w83_a_5_1) 5 2 w83_a_5_2) 5 3 w83_a_5_3), la), rfl, ⟨w83_a_5_1, w83_a_5_2, w83_a_5_3, w83_i_5_5, rfl⟩, by rw [ht9]; exact hP9, hD9⟩, hS.F ht9⟩) hS.2.2 dX5_place_114
          · have fc85 := z_nle (rfl : (mm).toInt = _) (rfl : (x83_4).toInt = _) c85
            refine lv_aload_n hx hb dX5_place_49 rfl (lv_at hl 1 rfl) ?_
            refine gX_5_1 hx hb ht hown hK hP m_336 dX5_place_50 ?_
            refine lv_iload_n hx hb dX5_place_53 rfl (lv_at hl 2 rfl) ?_
            refine lv_iload hx hb dX5_place_54 (lv_at hl 0 rfl) ?_
            refine tX_5_1 hx hb hK hP hD hS (f0 := w83_a_5_1) rfl (i := 5) (x := x83_4) (vp_in_iff.mpr (by decide)) dX5_place_56 (fun f86 ef86 H locs hP hD hS => ?_)
            have hf86 : ∀ j, inb (bA 5 1 j) (f86 j) := fun j => full_i _
            have hP : va_P (dC, dI) classes (WX h g ca (u2 iv 5 5 w83_i_5_5) lv (u2 (u2 (u2 fa 5 1 f86) 5 2 w83_a_5_2) 5 3 w83_a_5_3) la) H := hP
            have hD : va_D A (WX h g ca (u2 iv 5 5 w83_i_5_5) lv (u2 (u2 (u2 fa 5 1 f86) 5 2 w83_a_5_2) 5 3 w83_a_5_3) la) := hD
            refine lv_aload_n hx hb dX5_place_57 rfl (lv_at hl 1 rfl) ?_
            refine gX_5_2 hx hb ht hown hK hP m_337 dX5_place_58 ?_
            refine lv_iload hx hb dX5_place_61 (lv_at hl 0 rfl) ?_
            refine lv_dup2_11 hx hb dX5_place_63 rfl rfl ?_
            refine lX_5_2 hx hb hK hP (f := w83_a_5_2) rfl (vp_in_iff.mpr ⟨by omega, by omega⟩) dX5_place_64 ?_
            refine lv_topi (fun v87 ev87 => ?_)
            refine lv_aload_n hx hb dX5_place_65 rfl (lv_at hl 1 rfl) ?_
            refine gX_5_0 hx hb ht hown hK hP m_335 dX5_place_66 ?_
            refine lv_iload_n hx hb dX5_place_69 rfl (lv_at hl 2 rfl) ?_
            refine lX_5_0 hx hb hK hP (f := (fa 5 0)) rfl (vp_in_iff.mpr (by decide)) dX5_place_70 ?_
            refine lv_topi (fun v88 ev88 => ?_)
            refine lv_iadd hx hb dX5_place_71 ?_
            refine lv_topi (fun v89 ev89 => ?_)
            refine tX_5_2 hx hb hK hP hD hS (f0 := w83_a_5_2) rfl (i := x83_4) (x := v89) (vp_in_iff.mpr ⟨by omega, by omega⟩) dX5_place_72 (fun f90 ef90 H locs hP hD hS => ?_)
            have hf90 : ∀ j, inb (bA 5 2 j) (f90 j) := fun j => full_i _
            have hP : va_P (dC, dI) classes (WX h g ca (u2 iv 5 5 w83_i_5_5) lv (u2 (u2 (u2 fa 5 1 f86) 5 2 f90) 5 3 w83_a_5_3) la) H := hP
            have hD : va_D A (WX h g ca (u2 iv 5 5 w83_i_5_5) lv (u2 (u2 (u2 fa 5 1 f86) 5 2 f90) 5 3 w83_a_5_3) la) := hD
            refine lv_aload_n hx hb dX5_place_73 rfl (lv_at hl 1 rfl) ?_
            refine lv_iload_n hx hb dX5_place_74 rfl (lv_at hl 2 rfl) ?_
            refine lv_iconst (v := 1) hx hb dX5_place_75 (by decide) ?_
            refine lv_iadd hx hb dX5_place_76 ?_
            refine lv_topi (fun v91 ev91 => ?_)
            obtain rfl : 6 = v91 := (ev91.trans (by decide)).symm
            refine lv_iload_n hx hb dX5_place_77 rfl (lv_at hl 3 rfl) ?_
            refine lv_iload_n hx hb dX5_place_78 rfl (lv_at hl 4 rfl) ?_
            refine lv_aload_n hx hb dX5_place_79 rfl (lv_at hl 1 rfl) ?_
            refine gX_5_2 hx hb ht hown hK hP m_337 dX5_place_80 ?_
            refine lv_iload hx hb dX5_place_83 (lv_at hl 0 rfl) ?_
            refine lX_5_2 hx hb hK hP (f := f90) rfl (vp_in_iff.mpr ⟨by omega, by omega⟩) dX5_place_85 ?_
            refine lv_topi (fun v92 ev92 => ?_)
            refine va_mmax hx hb (hml.trans hl.1.symm) hown (ht _ m_1025) (ht _ m_558) (ht _ m_90) (ht _ m_559) (Nat.le_of_ble_eq_true rfl) (Nat.le_of_ble_eq_true rfl) (Nat.le_of_ble_eq_true rfl) (Nat.le_of_ble_eq_true rfl) dX5_place_86 ?_
            refine lv_topi (fun v93 ev93 => ?_)
            have tv93 := mm_or ev93
            have uv93 := mm_max ev93 (rfl : (q).toInt = _) (rfl : (v92).toInt = _)
            have hFc := free_all hD hS hA
            refine va_callv (va_runV (As := [.int 6, .int mm, .int v93]) (rest := []) ⟨hx, hb, hml, hown, ht⟩ (c_X5_place_6 l dC dI H.size h g ca (u2 iv 5 5 w83_i_5_5) lv (u2 (u2 (u2 fa 5 1 f86) 5 2 f90) 5 3 w83_a_5_3) la (IX_a (c := 5) (k := 3) (IX_a (c := 5) (k := 2) (IX_a (c := 5) (k := 1) (IX_i (c := 5) (k := 5) hI (full_i _)) hf86) hf90) hw83_a_5_3) mm v93 ⟨by omega, by omega⟩) (kV 3 ht m_1018 m_1020 m_41 m_86 m_1021 rfl rfl hd_X5_place_v ⟨Nat.le_of_ble_eq_true rfl, Nat.le_of_ble_eq_true rfl⟩) (vW hP hK hD (rX_5 hK hP)) rfl rfl hl.1 rfl (lv_room (Nat.le_of_ble_eq_true rfl)) dX5_place_89 ⟨Nat.le_of_ble_eq_true rfl, Nat.le_of_ble_eq_true rfl⟩) hS (fun q _ h => hFc q h) hFc (fun u t H1 locs ht9 hvm hr94 hB hz1 hk1 hS => ?_)
            obtain ⟨n95, n96, n97, n98, rfl⟩ := hr94
            have hn95 : ∀ j, inb (bA 5 1 j) (n95 j) := fun j => full_i _
            have hn96 : ∀ j, inb (bA 5 2 j) (n96 j) := fun j => full_i _
            have hn97 : ∀ j, inb (bA 5 3 j) (n97 j) := fun j => full_i _
            obtain ⟨hP, hD⟩ := hB
            rw [ht9] at hP
            generalize H1 = H at hP hS ⊢
            have hP : va_P (dC, dI) classes (WX h g ca (u2 iv 5 5 n98) lv (u2 (u2 (u2 fa 5 1 n95) 5 2 n96) 5 3 n97) la) H := hP
            have hD : va_D A (WX h g ca (u2 iv 5 5 n98) lv (u2 (u2 (u2 fa 5 1 n95) 5 2 n96) 5 3 n97) la) := (show va_D _ (WX h g ca (u2 iv 5 5 n98) lv (u2 (u2 (u2 fa 5 1 n95) 5 2 n96) 5 3 n97) la) from hD).weaken (fun _ _ _ h => hFc _ h)
            refine lv_aload_n hx hb dX5_place_92 rfl (lv_at hl 1 rfl) ?_
            refine gX_5_2 hx hb ht hown hK hP m_337 dX5_place_93 ?_
            refine lv_iload hx hb dX5_place_96 (lv_at hl 0 rfl) ?_
            refine lv_dup2_11 hx hb dX5_place_98 rfl rfl ?_
            refine lX_5_2 hx hb hK hP (f := n96) rfl (vp_in_iff.mpr ⟨by omega, by omega⟩) dX5_place_99 ?_
            refine lv_topi (fun v99 ev99 => ?_)
            refine lv_aload_n hx hb dX5_place_100 rfl (lv_at hl 1 rfl) ?_
            refine gX_5_0 hx hb ht hown hK hP m_335 dX5_place_101 ?_
            refine lv_iload_n hx hb dX5_place_104 rfl (lv_at hl 2 rfl) ?_
            refine lX_5_0 hx hb hK hP (f := (fa 5 0)) rfl (vp_in_iff.mpr (by decide)) dX5_place_105 ?_
            refine lv_topi (fun v100 ev100 => ?_)
            obtain rfl : v88 = v100 := ev88.trans ev100.symm
            refine lv_isub hx hb dX5_place_106 ?_
            refine lv_topi (fun v101 ev101 => ?_)
            refine tX_5_2 hx hb hK hP hD hS (f0 := n96) rfl (i := x83_4) (x := v101) (vp_in_iff.mpr ⟨by omega, by omega⟩) dX5_place_107 (fun f102 ef102 H locs hP hD hS => ?_)
            have hf102 : ∀ j, inb (bA 5 2 j) (f102 j) := fun j => full_i _
            have hP : va_P (dC, dI) classes (WX h g ca (u2 iv 5 5 n98) lv (u2 (u2 (u2 fa 5 1 n95) 5 2 f102) 5 3 n97) la) H := hP
            have hD : va_D A (WX h g ca (u2 iv 5 5 n98) lv (u2 (u2 (u2 fa 5 1 n95) 5 2 f102) 5 3 n97) la) := hD
            obtain ⟨v103, ev103⟩ : ∃ y : Int32, y = x83_4 + 1 := ⟨_, rfl⟩
            have tv103 := z_add ev103 rfl (by decide : (1 : Int32).toInt = 1) (by omega) (by omega)
            refine lv_iinc (v := v103) (lv' := [(4, .int v103), (0, .ref (g 11 7)), (1, .int 5), (2, .int mm), (3, .int q)]) hx hb dX5_place_108 hl (k := 0) rfl (by rw [ev103]; rfl) (by decide) rfl (fun ls hl => ?_)
            refine lv_goto (tgt := 43) hx hb dX5_place_111 (by decide) ?_
            exact ih84 v103 n98 n95 f102 n97 ⟨by omega, by omega⟩ hn95 hf102 hn97 (by omega) _ _ ls hP hD hS (lv_sub hl [0, 1, 2, 3, 4] rfl)
      exact lp84 4 0 (iv 5 5) (fa 5 1) (fa 5 2) (fa 5 3) ⟨by decide, by decide⟩ (hI.2 5 1) (hI.2 5 2) (hI.2 5 3) (by first | decide | omega) _ _ ls hP hD hS (lv_sub hl [0, 1, 2, 3, 4] rfl)
    · have fc2 := z_nlt (by decide : (5 : Int32).toInt = 5) (rfl : ((iv 5 4)).toInt = _) c2
      refine lv_aload_n hx hb dX5_place_17 rfl (lv_at hl 0 rfl) ?_
      refine lv_iload_n hx hb dX5_place_18 rfl (lv_at hl 3 rfl) ?_
      refine pX_5_5 (v := q) hx hb ht hown hK hP hD hS m_342 dX5_place_19 (fun H locs hP hD hS => ?_)
      refine lv_aload_n hx hb dX5_place_22 rfl (lv_at hl 0 rfl) ?_
      refine gX_5_1 hx hb ht hown hK hP m_336 dX5_place_23 ?_
      refine lv_iconst (v := 0) hx hb dX5_place_26 (by decide) ?_
      refine lv_aload_n hx hb dX5_place_27 rfl (lv_at hl 0 rfl) ?_
      refine gX_5_3 hx hb ht hown hK hP m_338 dX5_place_28 ?_
      refine lv_iconst (v := 0) hx hb dX5_place_31 (by decide) ?_
      refine lv_aload_n hx hb dX5_place_32 rfl (lv_at hl 0 rfl) ?_
      refine gX_5_4 hx hb ht hown hK hP m_340 (v := (iv 5 4)) rfl dX5_place_33 ?_
      have hn9 : ((iv 5 4) : Int32).toNatClampNeg ≤ 8 := by show ((((iv 5 4) : Int32).toInt).toNat : Nat) ≤ 8; omega
      refine va_copyi (D := (dC, dI)) (ty := .int) (f := (fa 5 1)) (g := (fa 5 3)) hx hb (hml.trans hl.1.symm) hown (ht _ m_1022) (ht _ m_1024) (ht _ m_1023) (ht _ m_95) hK hP hD hS 34 36 21 23 rfl rfl rfl rfl rfl (by decide) (by decide) (fun q9 => by have := Int32.lt_iff_toInt_lt.mp q9; have h0 : (0 : Int32).toInt = 0 := rfl; omega) (by show (0 : Nat) + _ ≤ 8; omega) (by show (0 : Nat) + _ ≤ 8; omega) (fun i hi => rfl) (Nat.le_of_ble_eq_true rfl) (by rw [nfw]; exact Nat.le_of_ble_eq_true rfl) dX5_place_36 (fun H locs hP hD hS => ?_)
      rw [aX_5_3] at hP hD
      obtain ⟨f104, ef104⟩ : ∃ f : Nat → Int32, f = va_cpy (fa 5 1) (fa 5 3) (0 : Int32).toNatClampNeg (0 : Int32).toNatClampNeg ((iv 5 4) : Int32).toNatClampNeg := ⟨_, rfl⟩
      rw [← ef104] at hP hD
      have hf104 : ∀ j, inb (bA 5 3 j) (f104 j) := fun j => full_i _
      have hP9 : va_P (dC, dI) classes (WX h g ca (u2 iv 5 5 q) lv (u2 (u2 (u2 fa 5 1 (fa 5 1)) 5 2 (fa 5 2)) 5 3 f104) la) H := hP
      have hD9 : va_D A (WX h g ca (u2 iv 5 5 q) lv (u2 (u2 (u2 fa 5 1 (fa 5 1)) 5 2 (fa 5 2)) 5 3 f104) la) := hD
      exact W.vret hx hb hr (fun t ht9 hW => ⟨⟨((u2 iv 5 5 q), lv, (u2 (u2 (u2 fa 5 1 (fa 5 1)) 5 2 (fa 5 2)) 5 3 f104), la), rfl, ⟨(fa 5 1), (fa 5 2), f104, q, rfl⟩, by rw [ht9]; exact hP9, hD9⟩, hS.F ht9⟩) hS.2.2 dX5_place_39
  · have fc1 := z_nlt (rfl : (q).toInt = _) (rfl : ((iv 5 5)).toInt = _) c1
    have hP9 : va_P (dC, dI) classes (WX h g ca (u2 iv 5 5 (iv 5 5)) lv (u2 (u2 (u2 fa 5 1 (fa 5 1)) 5 2 (fa 5 2)) 5 3 (fa 5 3)) la) s.heap := hP
    have hD9 : va_D A (WX h g ca (u2 iv 5 5 (iv 5 5)) lv (u2 (u2 (u2 fa 5 1 (fa 5 1)) 5 2 (fa 5 2)) 5 3 (fa 5 3)) la) := hD
    exact W.vret hx hb hr (fun t ht9 hW => ⟨⟨((u2 iv 5 5 (iv 5 5)), lv, (u2 (u2 (u2 fa 5 1 (fa 5 1)) 5 2 (fa 5 2)) 5 3 (fa 5 3)), la), rfl, ⟨(fa 5 1), (fa 5 2), (fa 5 3), (iv 5 5), rfl⟩, by rw [ht9]; exact hP9, hD9⟩, hS.F ht9⟩) hS.2.2 dX5_place_8
set_option maxHeartbeats 4000000 in
set_option maxRecDepth 100000 in
/-- X5_place -/
theorem c_X5_place_4 (l : Launch) (dC : Nat → ClassId) (dI : Nat → Nat → Nat) (sz : Nat) (h : Nat) (g : Nat → Nat → Nat) (ca : Nat → Nat → ClassId) (iv : Nat → Nat → Int32) (lv : Nat → Nat → Int64) (fa : Nat → Nat → Nat → Int32) (la : Nat → Nat → Nat → Int64) (hI : IX iv fa) (mm : Int32) (q : Int32) (h_mm : 1 ≤ mm.toInt ∧ mm.toInt ≤ 3) : Met l yX5_place (wc yX5_place cX5_place 5 none) ({ frames := 5, cells := 0, slots := 0, locals := 156 } : Room) (pW (dC, dI) classes (WX h g ca iv lv fa la) (TX ca) sz [.ref (g 11 7), .int 4, .int mm, .int q]) (va_Qv (fun (u : SS) => ∃ (na_5_1 : Nat → Int32) (na_5_2 : Nat → Int32) (na_5_3 : Nat → Int32) (ni_5_5 : Int32), u = ((u2 iv 5 5 ni_5_5), lv, (u2 (u2 (u2 fa 5 1 na_5_1) 5 2 na_5_2) 5 3 na_5_3), la)) (bX (dC, dI) h g ca (va_A (WX h g ca iv lv fa la) sz)) (va_A (WX h g ca iv lv fa la) sz)) 0 0 (va_A (WX h g ca iv lv fa la) sz) := by
  refine Met.ofW (cc := cX5_place) (maxL := 5) (ret := none) (by decide) rfl ?_
  intro p e s m args below meth c s₁ B hml hv
  obtain ⟨rfl, hsz, hP, hK, hD0⟩ := hv
  have hx := B.exec
  have hb := B.bytes
  have hr := B.returns
  have ht := tb_tl (atoms_spec (ws := wc yX5_place cX5_place 5 none) B.pre)
  have hown : s.vm.findClass RX5 = some m.cls := findClass_of_methodNamed B.named
  have hlocks := B.notSynchronized
  subst hsz
  have hD := hD0.self (sz := s.heap.size)
  generalize hAe : va_A (WX h g ca iv lv fa la) s.heap.size = A at hD ⊢
  have hA : ∀ q : Nat, s.heap.size ≤ q → A q := fun q h => by rw [← hAe]; exact Or.inr h
  have hS : va_S A s.heap s.heap [] := va_S.rf
  have hl := lv_entry [.ref (g 11 7), .int 4, .int mm, .int q] (n := 5) (Nat.le_of_ble_eq_true rfl)
  rw [lg_entry_eq]
  generalize (lg_sl [.ref (g 11 7), .int 4, .int mm, .int q] ++ List.replicate (5 - (lg_sl [.ref (g 11 7), .int 4, .int mm, .int q]).length) Slot.unset).toArray = ls at hl ⊢
  have hl : lv_has ls 5 [(0, .ref (g 11 7)), (1, .int 4), (2, .int mm), (3, .int q)] := hl
  refine lv_iload_n hx hb dX5_place_0 rfl (lv_at hl 3 rfl) ?_
  refine lv_aload_n hx hb dX5_place_1 rfl (lv_at hl 0 rfl) ?_
  refine gX_5_5 hx hb ht hown hK hP m_342 (v := (iv 5 5)) rfl dX5_place_2 ?_
  refine lv_icmp_lt (tgt := 9) hx hb dX5_place_5 (by decide) (fun c1 => ?_) (fun c1 => ?_)
  · have fc1 := z_lt (rfl : (q).toInt = _) (rfl : ((iv 5 5)).toInt = _) c1
    refine lv_iload_n hx hb dX5_place_9 rfl (lv_at hl 1 rfl) ?_
    refine lv_aload_n hx hb dX5_place_10 rfl (lv_at hl 0 rfl) ?_
    have i_5_4 : 0 ≤ (iv 5 4).toInt ∧ (iv 5 4).toInt ≤ 8 := hI.1 5 4
    refine gX_5_4 hx hb ht hown hK hP m_340 (v := (iv 5 4)) rfl dX5_place_11 ?_
    refine lv_icmp_lt (tgt := 40) hx hb dX5_place_14 (by decide) (fun c2 => ?_) (fun c2 => ?_)
    · have fc2 := z_lt (by decide : (4 : Int32).toInt = 4) (rfl : ((iv 5 4)).toInt = _) c2
      refine lv_iconst (v := 0) hx hb dX5_place_40 (by decide) ?_
      refine lv_istore (lv' := [(4, .int 0), (0, .ref (g 11 7)), (1, .int 4), (2, .int mm), (3, .int q)]) hx hb dX5_place_41 hl (by decide) rfl (fun ls hl => ?_)
      have lp84 : ∀ (nn84 : Nat) (x83_4 : Int32) (w83_i_5_5 : Int32) (w83_a_5_1 : Nat → Int32) (w83_a_5_2 : Nat → Int32) (w83_a_5_3 : Nat → Int32), 0 ≤ x83_4.toInt ∧ x83_4.toInt ≤ 3 → (∀ j, inb (bA 5 1 j) (w83_a_5_1 j)) → (∀ j, inb (bA 5 2 j) (w83_a_5_2 j)) → (∀ j, inb (bA 5 3 j) (w83_a_5_3 j)) → 3 - x83_4.toInt < (nn84 : Int) → ∀ (H : Heap) (locs : List Loc), ∀ (ls : Array Slot), va_P (dC, dI) classes (WX h g ca (u2 iv 5 5 w83_i_5_5) lv (u2 (u2 (u2 fa 5 1 w83_a_5_1) 5 2 w83_a_5_2) 5 3 w83_a_5_3) la) H → va_D A (WX h g ca (u2 iv 5 5 w83_i_5_5) lv (u2 (u2 (u2 fa 5 1 w83_a_5_1) 5 2 w83_a_5_2) 5 3 w83_a_5_3) la) → va_S A s.heap H locs → lv_has ls 5 [(4, .int x83_4), (0, .ref (g 11 7)), (1, .int 4), (2, .int mm), (3, .int q)] → W p l e ({ frames := 5, cells := 0, slots := 0, locals := 156 } : Room) s m ([.ref (g 11 7), .int 4, .int mm, .int q] : List Value).toArray below meth c H locs 0 0 (MQ below (va_Qv (fun (u : SS) => ∃ (na_5_1 : Nat → Int32) (na_5_2 : Nat → Int32) (na_5_3 : Nat → Int32) (ni_5_5 : Int32), u = ((u2 iv 5 5 ni_5_5), lv, (u2 (u2 (u2 fa 5 1 na_5_1) 5 2 na_5_2) 5 3 na_5_3), la)) (bX (dC, dI) h g ca A) A) ([.ref (g 11 7), .int 4, .int mm, .int q] : List Value).toArray s 0 0 A) (F0 m 43 ls []) := by
        intro nn84
        induction nn84 with
        | zero => intro x83_4 w83_i_5_5 w83_a_5_1 w83_a_5_2 w83_a_5_3 hx83_4 hw83_a_5_1 hw83_a_5_2 hw83_a_5_3 hm84; exfalso; omega
        | succ nn84 ih84 =>
          intro x83_4 w83_i_5_5 w83_a_5_1 w83_a_5_2 w83_a_5_3 hx83_4 hw83_a_5_1 hw83_a_5_2 hw83_a_5_3 hm84 H locs ls hP hD hS hl
          refine lv_iload hx hb dX5_place_43 (lv_at hl 0 rfl) ?_
          refine lv_iload_n hx hb dX5_place_45 rfl (lv_at hl 3 rfl) ?_
          refine lv_icmp_ge (tgt := 114) hx hb dX5_place_46 (by decide) (fun c85 => ?_) (fun c85 => ?_)
          · have fc85 := z_le (rfl : (mm).toInt = _) (rfl : (x83_4).toInt = _) c85
            have hP9 : va_P (dC, dI) classes (WX h g ca (u2 iv 5 5 w83_i_5_5) lv (u2 (u2 (u2 fa 5 1 w83_a_5_1) 5 2 w83_a_5_2) 5 3 w83_a_5_3) la) H := hP
            have hD9 : va_D A (WX h g ca (u2 iv 5 5 w83_i_5_5) lv (u2 (u2 (u2 fa 5 1 w83_a_5_1) 5 2 w83_a_5_2) 5 3 w83_a_5_3) la) := hD
            exact W.vret hx hb hr (fun t ht9 hW => ⟨⟨((u2 iv 5 5 w83_i_5_5), lv, (u2 (u2 (u2 fa 5 1 w83_a_5_1) 5 2 w83_a_5_2) 5 3 w83_a_5_3), la), rfl, ⟨w83_a_5_1, w83_a_5_2, w83_a_5_3, w83_i_5_5, rfl⟩, by rw [ht9]; exact hP9, hD9⟩, hS.F ht9⟩) hS.2.2 dX5_place_114
          · have fc85 := z_nle (rfl : (mm).toInt = _) (rfl : (x83_4).toInt = _) c85
            refine lv_aload_n hx hb dX5_place_49 rfl (lv_at hl 1 rfl) ?_
            refine gX_5_1 hx hb ht hown hK hP m_336 dX5_place_50 ?_
            refine lv_iload_n hx hb dX5_place_53 rfl (lv_at hl 2 rfl) ?_
            refine lv_iload hx hb dX5_place_54 (lv_at hl 0 rfl) ?_
            refine tX_5_1 hx hb hK hP hD hS (f0 := w83_a_5_1) rfl (i := 4) (x := x83_4) (vp_in_iff.mpr (by decide)) dX5_place_56 (fun f86 ef86 H locs hP hD hS => ?_)
            have hf86 : ∀ j, inb (bA 5 1 j) (f86 j) := fun j => full_i _
            have hP : va_P (dC, dI) classes (WX h g ca (u2 iv 5 5 w83_i_5_5) lv (u2 (u2 (u2 fa 5 1 f86) 5 2 w83_a_5_2) 5 3 w83_a_5_3) la) H := hP
            have hD : va_D A (WX h g ca (u2 iv 5 5 w83_i_5_5) lv (u2 (u2 (u2 fa 5 1 f86) 5 2 w83_a_5_2) 5 3 w83_a_5_3) la) := hD
            refine lv_aload_n hx hb dX5_place_57 rfl (lv_at hl 1 rfl) ?_
            refine gX_5_2 hx hb ht hown hK hP m_337 dX5_place_58 ?_
            refine lv_iload hx hb dX5_place_61 (lv_at hl 0 rfl) ?_
            refine lv_dup2_11 hx hb dX5_place_63 rfl rfl ?_
            refine lX_5_2 hx hb hK hP (f := w83_a_5_2) rfl (vp_in_iff.mpr ⟨by omega, by omega⟩) dX5_place_64 ?_
            refine lv_topi (fun v87 ev87 => ?_)
            refine lv_aload_n hx hb dX5_place_65 rfl (lv_at hl 1 rfl) ?_
            refine gX_5_0 hx hb ht hown hK hP m_335 dX5_place_66 ?_
            refine lv_iload_n hx hb dX5_place_69 rfl (lv_at hl 2 rfl) ?_
            refine lX_5_0 hx hb hK hP (f := (fa 5 0)) rfl (vp_in_iff.mpr (by decide)) dX5_place_70 ?_
            refine lv_topi (fun v88 ev88 => ?_)
            refine lv_iadd hx hb dX5_place_71 ?_
            refine lv_topi (fun v89 ev89 => ?_)
            refine tX_5_2 hx hb hK hP hD hS (f0 := w83_a_5_2) rfl (i := x83_4) (x := v89) (vp_in_iff.mpr ⟨by omega, by omega⟩) dX5_place_72 (fun f90 ef90 H locs hP hD hS => ?_)
            have hf90 : ∀ j, inb (bA 5 2 j) (f90 j) := fun j => full_i _
            have hP : va_P (dC, dI) classes (WX h g ca (u2 iv 5 5 w83_i_5_5) lv (u2 (u2 (u2 fa 5 1 f86) 5 2 f90) 5 3 w83_a_5_3) la) H := hP
            have hD : va_D A (WX h g ca (u2 iv 5 5 w83_i_5_5) lv (u2 (u2 (u2 fa 5 1 f86) 5 2 f90) 5 3 w83_a_5_3) la) := hD
            refine lv_aload_n hx hb dX5_place_73 rfl (lv_at hl 1 rfl) ?_
            refine lv_iload_n hx hb dX5_place_74 rfl (lv_at hl 2 rfl) ?_
            refine lv_iconst (v := 1) hx hb dX5_place_75 (by decide) ?_
            refine lv_iadd hx hb dX5_place_76 ?_
            refine lv_topi (fun v91 ev91 => ?_)
            obtain rfl : 5 = v91 := (ev91.trans (by decide)).symm
            refine lv_iload_n hx hb dX5_place_77 rfl (lv_at hl 3 rfl) ?_
            refine lv_iload_n hx hb dX5_place_78 rfl (lv_at hl 4 rfl) ?_
            refine lv_aload_n hx hb dX5_place_79 rfl (lv_at hl 1 rfl) ?_
            refine gX_5_2 hx hb ht hown hK hP m_337 dX5_place_80 ?_
            refine lv_iload hx hb dX5_place_83 (lv_at hl 0 rfl) ?_
            refine lX_5_2 hx hb hK hP (f := f90) rfl (vp_in_iff.mpr ⟨by omega, by omega⟩) dX5_place_85 ?_
            refine lv_topi (fun v92 ev92 => ?_)
            refine va_mmax hx hb (hml.trans hl.1.symm) hown (ht _ m_1025) (ht _ m_558) (ht _ m_90) (ht _ m_559) (Nat.le_of_ble_eq_true rfl) (Nat.le_of_ble_eq_true rfl) (Nat.le_of_ble_eq_true rfl) (Nat.le_of_ble_eq_true rfl) dX5_place_86 ?_
            refine lv_topi (fun v93 ev93 => ?_)
            have tv93 := mm_or ev93
            have uv93 := mm_max ev93 (rfl : (q).toInt = _) (rfl : (v92).toInt = _)
            have hFc := free_all hD hS hA
            refine va_callv (va_runV (As := [.int 5, .int mm, .int v93]) (rest := []) ⟨hx, hb, hml, hown, ht⟩ (c_X5_place_5 l dC dI H.size h g ca (u2 iv 5 5 w83_i_5_5) lv (u2 (u2 (u2 fa 5 1 f86) 5 2 f90) 5 3 w83_a_5_3) la (IX_a (c := 5) (k := 3) (IX_a (c := 5) (k := 2) (IX_a (c := 5) (k := 1) (IX_i (c := 5) (k := 5) hI (full_i _)) hf86) hf90) hw83_a_5_3) mm v93 ⟨by omega, by omega⟩) (kV 3 ht m_1018 m_1020 m_41 m_86 m_1021 rfl rfl hd_X5_place_v ⟨Nat.le_of_ble_eq_true rfl, Nat.le_of_ble_eq_true rfl⟩) (vW hP hK hD (rX_5 hK hP)) rfl rfl hl.1 rfl (lv_room (Nat.le_of_ble_eq_true rfl)) dX5_place_89 ⟨Nat.le_of_ble_eq_true rfl, Nat.le_of_ble_eq_true rfl⟩) hS (fun q _ h => hFc q h) hFc (fun u t H1 locs ht9 hvm hr94 hB hz1 hk1 hS => ?_)
            obtain ⟨n95, n96, n97, n98, rfl⟩ := hr94
            have hn95 : ∀ j, inb (bA 5 1 j) (n95 j) := fun j => full_i _
            have hn96 : ∀ j, inb (bA 5 2 j) (n96 j) := fun j => full_i _
            have hn97 : ∀ j, inb (bA 5 3 j) (n97 j) := fun j => full_i _
            obtain ⟨hP, hD⟩ := hB
            rw [ht9] at hP
            generalize H1 = H at hP hS ⊢
            have hP : va_P (dC, dI) classes (WX h g ca (u2 iv 5 5 n98) lv (u2 (u2 (u2 fa 5 1 n95) 5 2 n96) 5 3 n97) la) H := hP
            have hD : va_D A (WX h g ca (u2 iv 5 5 n98) lv (u2 (u2 (u2 fa 5 1 n95) 5 2 n96) 5 3 n97) la) := (show va_D _ (WX h g ca (u2 iv 5 5 n98) lv (u2 (u2 (u2 fa 5 1 n95) 5 2 n96) 5 3 n97) la) from hD).weaken (fun _ _ _ h => hFc _ h)
            refine lv_aload_n hx hb dX5_place_92 rfl (lv_at hl 1 rfl) ?_
            refine gX_5_2 hx hb ht hown hK hP m_337 dX5_place_93 ?_
            refine lv_iload hx hb dX5_place_96 (lv_at hl 0 rfl) ?_
            refine lv_dup2_11 hx hb dX5_place_98 rfl rfl ?_
            refine lX_5_2 hx hb hK hP (f := n96) rfl (vp_in_iff.mpr ⟨by omega, by omega⟩) dX5_place_99 ?_
            refine lv_topi (fun v99 ev99 => ?_)
            refine lv_aload_n hx hb dX5_place_100 rfl (lv_at hl 1 rfl) ?_
            refine gX_5_0 hx hb ht hown hK hP m_335 dX5_place_101 ?_
            refine lv_iload_n hx hb dX5_place_104 rfl (lv_at hl 2 rfl) ?_
            refine lX_5_0 hx hb hK hP (f := (fa 5 0)) rfl (vp_in_iff.mpr (by decide)) dX5_place_105 ?_
            refine lv_topi (fun v100 ev100 => ?_)
            obtain rfl : v88 = v100 := ev88.trans ev100.symm
            refine lv_isub hx hb dX5_place_106 ?_
            refine lv_topi (fun v101 ev101 => ?_)
            refine tX_5_2 hx hb hK hP hD hS (f0 := n96) rfl (i := x83_4) (x := v101) (vp_in_iff.mpr ⟨by omega, by omega⟩) dX5_place_107 (fun f102 ef102 H locs hP hD hS => ?_)
            have hf102 : ∀ j, inb (bA 5 2 j) (f102 j) := fun j => full_i _
            have hP : va_P (dC, dI) classes (WX h g ca (u2 iv 5 5 n98) lv (u2 (u2 (u2 fa 5 1 n95) 5 2 f102) 5 3 n97) la) H := hP
            have hD : va_D A (WX h g ca (u2 iv 5 5 n98) lv (u2 (u2 (u2 fa 5 1 n95) 5 2 f102) 5 3 n97) la) := hD
            obtain ⟨v103, ev103⟩ : ∃ y : Int32, y = x83_4 + 1 := ⟨_, rfl⟩
            have tv103 := z_add ev103 rfl (by decide : (1 : Int32).toInt = 1) (by omega) (by omega)
            refine lv_iinc (v := v103) (lv' := [(4, .int v103), (0, .ref (g 11 7)), (1, .int 4), (2, .int mm), (3, .int q)]) hx hb dX5_place_108 hl (k := 0) rfl (by rw [ev103]; rfl) (by decide) rfl (fun ls hl => ?_)
            refine lv_goto (tgt := 43) hx hb dX5_place_111 (by decide) ?_
            exact ih84 v103 n98 n95 f102 n97 ⟨by omega, by omega⟩ hn95 hf102 hn97 (by omega) _ _ ls hP hD hS (lv_sub hl [0, 1, 2, 3, 4] rfl)
      exact lp84 4 0 (iv 5 5) (fa 5 1) (fa 5 2) (fa 5 3) ⟨by decide, by decide⟩ (hI.2 5 1) (hI.2 5 2) (hI.2 5 3) (by first | decide | omega) _ _ ls hP hD hS (lv_sub hl [0, 1, 2, 3, 4] rfl)
    · have fc2 := z_nlt (by decide : (4 : Int32).toInt = 4) (rfl : ((iv 5 4)).toInt = _) c2
      refine lv_aload_n hx hb dX5_place_17 rfl (lv_at hl 0 rfl) ?_
      refine lv_iload_n hx hb dX5_place_18 rfl (lv_at hl 3 rfl) ?_
      refine pX_5_5 (v := q) hx hb ht hown hK hP hD hS m_342 dX5_place_19 (fun H locs hP hD hS => ?_)
      refine lv_aload_n hx hb dX5_place_22 rfl (lv_at hl 0 rfl) ?_
      refine gX_5_1 hx hb ht hown hK hP m_336 dX5_place_23 ?_
      refine lv_iconst (v := 0) hx hb dX5_place_26 (by decide) ?_
      refine lv_aload_n hx hb dX5_place_27 rfl (lv_at hl 0 rfl) ?_
      refine gX_5_3 hx hb ht hown hK hP m_338 dX5_place_28 ?_
      refine lv_iconst (v := 0) hx hb dX5_place_31 (by decide) ?_
      refine lv_aload_n hx hb dX5_place_32 rfl (lv_at hl 0 rfl) ?_
      refine gX_5_4 hx hb ht hown hK hP m_340 (v := (iv 5 4)) rfl dX5_place_33 ?_
      have hn9 : ((iv 5 4) : Int32).toNatClampNeg ≤ 8 := by show ((((iv 5 4) : Int32).toInt).toNat : Nat) ≤ 8; omega
      refine va_copyi (D := (dC, dI)) (ty := .int) (f := (fa 5 1)) (g := (fa 5 3)) hx hb (hml.trans hl.1.symm) hown (ht _ m_1022) (ht _ m_1024) (ht _ m_1023) (ht _ m_95) hK hP hD hS 34 36 21 23 rfl rfl rfl rfl rfl (by decide) (by decide) (fun q9 => by have := Int32.lt_iff_toInt_lt.mp q9; have h0 : (0 : Int32).toInt = 0 := rfl; omega) (by show (0 : Nat) + _ ≤ 8; omega) (by show (0 : Nat) + _ ≤ 8; omega) (fun i hi => rfl) (Nat.le_of_ble_eq_true rfl) (by rw [nfw]; exact Nat.le_of_ble_eq_true rfl) dX5_place_36 (fun H locs hP hD hS => ?_)
      rw [aX_5_3] at hP hD
      obtain ⟨f104, ef104⟩ : ∃ f : Nat → Int32, f = va_cpy (fa 5 1) (fa 5 3) (0 : Int32).toNatClampNeg (0 : Int32).toNatClampNeg ((iv 5 4) : Int32).toNatClampNeg := ⟨_, rfl⟩
      rw [← ef104] at hP hD
      have hf104 : ∀ j, inb (bA 5 3 j) (f104 j) := fun j => full_i _
      have hP9 : va_P (dC, dI) classes (WX h g ca (u2 iv 5 5 q) lv (u2 (u2 (u2 fa 5 1 (fa 5 1)) 5 2 (fa 5 2)) 5 3 f104) la) H := hP
      have hD9 : va_D A (WX h g ca (u2 iv 5 5 q) lv (u2 (u2 (u2 fa 5 1 (fa 5 1)) 5 2 (fa 5 2)) 5 3 f104) la) := hD
      exact W.vret hx hb hr (fun t ht9 hW => ⟨⟨((u2 iv 5 5 q), lv, (u2 (u2 (u2 fa 5 1 (fa 5 1)) 5 2 (fa 5 2)) 5 3 f104), la), rfl, ⟨(fa 5 1), (fa 5 2), f104, q, rfl⟩, by rw [ht9]; exact hP9, hD9⟩, hS.F ht9⟩) hS.2.2 dX5_place_39
  · have fc1 := z_nlt (rfl : (q).toInt = _) (rfl : ((iv 5 5)).toInt = _) c1
    have hP9 : va_P (dC, dI) classes (WX h g ca (u2 iv 5 5 (iv 5 5)) lv (u2 (u2 (u2 fa 5 1 (fa 5 1)) 5 2 (fa 5 2)) 5 3 (fa 5 3)) la) s.heap := hP
    have hD9 : va_D A (WX h g ca (u2 iv 5 5 (iv 5 5)) lv (u2 (u2 (u2 fa 5 1 (fa 5 1)) 5 2 (fa 5 2)) 5 3 (fa 5 3)) la) := hD
    exact W.vret hx hb hr (fun t ht9 hW => ⟨⟨((u2 iv 5 5 (iv 5 5)), lv, (u2 (u2 (u2 fa 5 1 (fa 5 1)) 5 2 (fa 5 2)) 5 3 (fa 5 3)), la), rfl, ⟨(fa 5 1), (fa 5 2), (fa 5 3), (iv 5 5), rfl⟩, by rw [ht9]; exact hP9, hD9⟩, hS.F ht9⟩) hS.2.2 dX5_place_8
set_option maxHeartbeats 4000000 in
set_option maxRecDepth 100000 in
/-- X5_place -/
theorem c_X5_place_3 (l : Launch) (dC : Nat → ClassId) (dI : Nat → Nat → Nat) (sz : Nat) (h : Nat) (g : Nat → Nat → Nat) (ca : Nat → Nat → ClassId) (iv : Nat → Nat → Int32) (lv : Nat → Nat → Int64) (fa : Nat → Nat → Nat → Int32) (la : Nat → Nat → Nat → Int64) (hI : IX iv fa) (mm : Int32) (q : Int32) (h_mm : 1 ≤ mm.toInt ∧ mm.toInt ≤ 3) : Met l yX5_place (wc yX5_place cX5_place 5 none) ({ frames := 6, cells := 0, slots := 0, locals := 180 } : Room) (pW (dC, dI) classes (WX h g ca iv lv fa la) (TX ca) sz [.ref (g 11 7), .int 3, .int mm, .int q]) (va_Qv (fun (u : SS) => ∃ (na_5_1 : Nat → Int32) (na_5_2 : Nat → Int32) (na_5_3 : Nat → Int32) (ni_5_5 : Int32), u = ((u2 iv 5 5 ni_5_5), lv, (u2 (u2 (u2 fa 5 1 na_5_1) 5 2 na_5_2) 5 3 na_5_3), la)) (bX (dC, dI) h g ca (va_A (WX h g ca iv lv fa la) sz)) (va_A (WX h g ca iv lv fa la) sz)) 0 0 (va_A (WX h g ca iv lv fa la) sz) := by
  refine Met.ofW (cc := cX5_place) (maxL := 5) (ret := none) (by decide) rfl ?_
  intro p e s m args below meth c s₁ B hml hv
  obtain ⟨rfl, hsz, hP, hK, hD0⟩ := hv
  have hx := B.exec
  have hb := B.bytes
  have hr := B.returns
  have ht := tb_tl (atoms_spec (ws := wc yX5_place cX5_place 5 none) B.pre)
  have hown : s.vm.findClass RX5 = some m.cls := findClass_of_methodNamed B.named
  have hlocks := B.notSynchronized
  subst hsz
  have hD := hD0.self (sz := s.heap.size)
  generalize hAe : va_A (WX h g ca iv lv fa la) s.heap.size = A at hD ⊢
  have hA : ∀ q : Nat, s.heap.size ≤ q → A q := fun q h => by rw [← hAe]; exact Or.inr h
  have hS : va_S A s.heap s.heap [] := va_S.rf
  have hl := lv_entry [.ref (g 11 7), .int 3, .int mm, .int q] (n := 5) (Nat.le_of_ble_eq_true rfl)
  rw [lg_entry_eq]
  generalize (lg_sl [.ref (g 11 7), .int 3, .int mm, .int q] ++ List.replicate (5 - (lg_sl [.ref (g 11 7), .int 3, .int mm, .int q]).length) Slot.unset).toArray = ls at hl ⊢
  have hl : lv_has ls 5 [(0, .ref (g 11 7)), (1, .int 3), (2, .int mm), (3, .int q)] := hl
  refine lv_iload_n hx hb dX5_place_0 rfl (lv_at hl 3 rfl) ?_
  refine lv_aload_n hx hb dX5_place_1 rfl (lv_at hl 0 rfl) ?_
  refine gX_5_5 hx hb ht hown hK hP m_342 (v := (iv 5 5)) rfl dX5_place_2 ?_
  refine lv_icmp_lt (tgt := 9) hx hb dX5_place_5 (by decide) (fun c1 => ?_) (fun c1 => ?_)
  · have fc1 := z_lt (rfl : (q).toInt = _) (rfl : ((iv 5 5)).toInt = _) c1
    refine lv_iload_n hx hb dX5_place_9 rfl (lv_at hl 1 rfl) ?_
    refine lv_aload_n hx hb dX5_place_10 rfl (lv_at hl 0 rfl) ?_
    have i_5_4 : 0 ≤ (iv 5 4).toInt ∧ (iv 5 4).toInt ≤ 8 := hI.1 5 4
    refine gX_5_4 hx hb ht hown hK hP m_340 (v := (iv 5 4)) rfl dX5_place_11 ?_
    refine lv_icmp_lt (tgt := 40) hx hb dX5_place_14 (by decide) (fun c2 => ?_) (fun c2 => ?_)
    · have fc2 := z_lt (by decide : (3 : Int32).toInt = 3) (rfl : ((iv 5 4)).toInt = _) c2
      refine lv_iconst (v := 0) hx hb dX5_place_40 (by decide) ?_
      refine lv_istore (lv' := [(4, .int 0), (0, .ref (g 11 7)), (1, .int 3), (2, .int mm), (3, .int q)]) hx hb dX5_place_41 hl (by decide) rfl (fun ls hl => ?_)
      have lp84 : ∀ (nn84 : Nat) (x83_4 : Int32) (w83_i_5_5 : Int32) (w83_a_5_1 : Nat → Int32) (w83_a_5_2 : Nat → Int32) (w83_a_5_3 : Nat → Int32), 0 ≤ x83_4.toInt ∧ x83_4.toInt ≤ 3 → (∀ j, inb (bA 5 1 j) (w83_a_5_1 j)) → (∀ j, inb (bA 5 2 j) (w83_a_5_2 j)) → (∀ j, inb (bA 5 3 j) (w83_a_5_3 j)) → 3 - x83_4.toInt < (nn84 : Int) → ∀ (H : Heap) (locs : List Loc), ∀ (ls : Array Slot), va_P (dC, dI) classes (WX h g ca (u2 iv 5 5 w83_i_5_5) lv (u2 (u2 (u2 fa 5 1 w83_a_5_1) 5 2 w83_a_5_2) 5 3 w83_a_5_3) la) H → va_D A (WX h g ca (u2 iv 5 5 w83_i_5_5) lv (u2 (u2 (u2 fa 5 1 w83_a_5_1) 5 2 w83_a_5_2) 5 3 w83_a_5_3) la) → va_S A s.heap H locs → lv_has ls 5 [(4, .int x83_4), (0, .ref (g 11 7)), (1, .int 3), (2, .int mm), (3, .int q)] → W p l e ({ frames := 6, cells := 0, slots := 0, locals := 180 } : Room) s m ([.ref (g 11 7), .int 3, .int mm, .int q] : List Value).toArray below meth c H locs 0 0 (MQ below (va_Qv (fun (u : SS) => ∃ (na_5_1 : Nat → Int32) (na_5_2 : Nat → Int32) (na_5_3 : Nat → Int32) (ni_5_5 : Int32), u = ((u2 iv 5 5 ni_5_5), lv, (u2 (u2 (u2 fa 5 1 na_5_1) 5 2 na_5_2) 5 3 na_5_3), la)) (bX (dC, dI) h g ca A) A) ([.ref (g 11 7), .int 3, .int mm, .int q] : List Value).toArray s 0 0 A) (F0 m 43 ls []) := by
        intro nn84
        induction nn84 with
        | zero => intro x83_4 w83_i_5_5 w83_a_5_1 w83_a_5_2 w83_a_5_3 hx83_4 hw83_a_5_1 hw83_a_5_2 hw83_a_5_3 hm84; exfalso; omega
        | succ nn84 ih84 =>
          intro x83_4 w83_i_5_5 w83_a_5_1 w83_a_5_2 w83_a_5_3 hx83_4 hw83_a_5_1 hw83_a_5_2 hw83_a_5_3 hm84 H locs ls hP hD hS hl
          refine lv_iload hx hb dX5_place_43 (lv_at hl 0 rfl) ?_
          refine lv_iload_n hx hb dX5_place_45 rfl (lv_at hl 3 rfl) ?_
          refine lv_icmp_ge (tgt := 114) hx hb dX5_place_46 (by decide) (fun c85 => ?_) (fun c85 => ?_)
          · have fc85 := z_le (rfl : (mm).toInt = _) (rfl : (x83_4).toInt = _) c85
            have hP9 : va_P (dC, dI) classes (WX h g ca (u2 iv 5 5 w83_i_5_5) lv (u2 (u2 (u2 fa 5 1 w83_a_5_1) 5 2 w83_a_5_2) 5 3 w83_a_5_3) la) H := hP
            have hD9 : va_D A (WX h g ca (u2 iv 5 5 w83_i_5_5) lv (u2 (u2 (u2 fa 5 1 w83_a_5_1) 5 2 w83_a_5_2) 5 3 w83_a_5_3) la) := hD
            exact W.vret hx hb hr (fun t ht9 hW => ⟨⟨((u2 iv 5 5 w83_i_5_5), lv, (u2 (u2 (u2 fa 5 1 w83_a_5_1) 5 2 w83_a_5_2) 5 3 w83_a_5_3), la), rfl, ⟨w83_a_5_1, w83_a_5_2, w83_a_5_3, w83_i_5_5, rfl⟩, by rw [ht9]; exact hP9, hD9⟩, hS.F ht9⟩) hS.2.2 dX5_place_114
          · have fc85 := z_nle (rfl : (mm).toInt = _) (rfl : (x83_4).toInt = _) c85
            refine lv_aload_n hx hb dX5_place_49 rfl (lv_at hl 1 rfl) ?_
            refine gX_5_1 hx hb ht hown hK hP m_336 dX5_place_50 ?_
            refine lv_iload_n hx hb dX5_place_53 rfl (lv_at hl 2 rfl) ?_
            refine lv_iload hx hb dX5_place_54 (lv_at hl 0 rfl) ?_
            refine tX_5_1 hx hb hK hP hD hS (f0 := w83_a_5_1) rfl (i := 3) (x := x83_4) (vp_in_iff.mpr (by decide)) dX5_place_56 (fun f86 ef86 H locs hP hD hS => ?_)
            have hf86 : ∀ j, inb (bA 5 1 j) (f86 j) := fun j => full_i _
            have hP : va_P (dC, dI) classes (WX h g ca (u2 iv 5 5 w83_i_5_5) lv (u2 (u2 (u2 fa 5 1 f86) 5 2 w83_a_5_2) 5 3 w83_a_5_3) la) H := hP
            have hD : va_D A (WX h g ca (u2 iv 5 5 w83_i_5_5) lv (u2 (u2 (u2 fa 5 1 f86) 5 2 w83_a_5_2) 5 3 w83_a_5_3) la) := hD
            refine lv_aload_n hx hb dX5_place_57 rfl (lv_at hl 1 rfl) ?_
            refine gX_5_2 hx hb ht hown hK hP m_337 dX5_place_58 ?_
            refine lv_iload hx hb dX5_place_61 (lv_at hl 0 rfl) ?_
            refine lv_dup2_11 hx hb dX5_place_63 rfl rfl ?_
            refine lX_5_2 hx hb hK hP (f := w83_a_5_2) rfl (vp_in_iff.mpr ⟨by omega, by omega⟩) dX5_place_64 ?_
            refine lv_topi (fun v87 ev87 => ?_)
            refine lv_aload_n hx hb dX5_place_65 rfl (lv_at hl 1 rfl) ?_
            refine gX_5_0 hx hb ht hown hK hP m_335 dX5_place_66 ?_
            refine lv_iload_n hx hb dX5_place_69 rfl (lv_at hl 2 rfl) ?_
            refine lX_5_0 hx hb hK hP (f := (fa 5 0)) rfl (vp_in_iff.mpr (by decide)) dX5_place_70 ?_
            refine lv_topi (fun v88 ev88 => ?_)
            refine lv_iadd hx hb dX5_place_71 ?_
            refine lv_topi (fun v89 ev89 => ?_)
            refine tX_5_2 hx hb hK hP hD hS (f0 := w83_a_5_2) rfl (i := x83_4) (x := v89) (vp_in_iff.mpr ⟨by omega, by omega⟩) dX5_place_72 (fun f90 ef90 H locs hP hD hS => ?_)
            have hf90 : ∀ j, inb (bA 5 2 j) (f90 j) := fun j => full_i _
            have hP : va_P (dC, dI) classes (WX h g ca (u2 iv 5 5 w83_i_5_5) lv (u2 (u2 (u2 fa 5 1 f86) 5 2 f90) 5 3 w83_a_5_3) la) H := hP
            have hD : va_D A (WX h g ca (u2 iv 5 5 w83_i_5_5) lv (u2 (u2 (u2 fa 5 1 f86) 5 2 f90) 5 3 w83_a_5_3) la) := hD
            refine lv_aload_n hx hb dX5_place_73 rfl (lv_at hl 1 rfl) ?_
            refine lv_iload_n hx hb dX5_place_74 rfl (lv_at hl 2 rfl) ?_
            refine lv_iconst (v := 1) hx hb dX5_place_75 (by decide) ?_
            refine lv_iadd hx hb dX5_place_76 ?_
            refine lv_topi (fun v91 ev91 => ?_)
            obtain rfl : 4 = v91 := (ev91.trans (by decide)).symm
            refine lv_iload_n hx hb dX5_place_77 rfl (lv_at hl 3 rfl) ?_
            refine lv_iload_n hx hb dX5_place_78 rfl (lv_at hl 4 rfl) ?_
            refine lv_aload_n hx hb dX5_place_79 rfl (lv_at hl 1 rfl) ?_
            refine gX_5_2 hx hb ht hown hK hP m_337 dX5_place_80 ?_
            refine lv_iload hx hb dX5_place_83 (lv_at hl 0 rfl) ?_
            refine lX_5_2 hx hb hK hP (f := f90) rfl (vp_in_iff.mpr ⟨by omega, by omega⟩) dX5_place_85 ?_
            refine lv_topi (fun v92 ev92 => ?_)
            refine va_mmax hx hb (hml.trans hl.1.symm) hown (ht _ m_1025) (ht _ m_558) (ht _ m_90) (ht _ m_559) (Nat.le_of_ble_eq_true rfl) (Nat.le_of_ble_eq_true rfl) (Nat.le_of_ble_eq_true rfl) (Nat.le_of_ble_eq_true rfl) dX5_place_86 ?_
            refine lv_topi (fun v93 ev93 => ?_)
            have tv93 := mm_or ev93
            have uv93 := mm_max ev93 (rfl : (q).toInt = _) (rfl : (v92).toInt = _)
            have hFc := free_all hD hS hA
            refine va_callv (va_runV (As := [.int 4, .int mm, .int v93]) (rest := []) ⟨hx, hb, hml, hown, ht⟩ (c_X5_place_4 l dC dI H.size h g ca (u2 iv 5 5 w83_i_5_5) lv (u2 (u2 (u2 fa 5 1 f86) 5 2 f90) 5 3 w83_a_5_3) la (IX_a (c := 5) (k := 3) (IX_a (c := 5) (k := 2) (IX_a (c := 5) (k := 1) (IX_i (c := 5) (k := 5) hI (full_i _)) hf86) hf90) hw83_a_5_3) mm v93 ⟨by omega, by omega⟩) (kV 3 ht m_1018 m_1020 m_41 m_86 m_1021 rfl rfl hd_X5_place_v ⟨Nat.le_of_ble_eq_true rfl, Nat.le_of_ble_eq_true rfl⟩) (vW hP hK hD (rX_5 hK hP)) rfl rfl hl.1 rfl (lv_room (Nat.le_of_ble_eq_true rfl)) dX5_place_89 ⟨Nat.le_of_ble_eq_true rfl, Nat.le_of_ble_eq_true rfl⟩) hS (fun q _ h => hFc q h) hFc (fun u t H1 locs ht9 hvm hr94 hB hz1 hk1 hS => ?_)
            obtain ⟨n95, n96, n97, n98, rfl⟩ := hr94
            have hn95 : ∀ j, inb (bA 5 1 j) (n95 j) := fun j => full_i _
            have hn96 : ∀ j, inb (bA 5 2 j) (n96 j) := fun j => full_i _
            have hn97 : ∀ j, inb (bA 5 3 j) (n97 j) := fun j => full_i _
            obtain ⟨hP, hD⟩ := hB
            rw [ht9] at hP
            generalize H1 = H at hP hS ⊢
            have hP : va_P (dC, dI) classes (WX h g ca (u2 iv 5 5 n98) lv (u2 (u2 (u2 fa 5 1 n95) 5 2 n96) 5 3 n97) la) H := hP
            have hD : va_D A (WX h g ca (u2 iv 5 5 n98) lv (u2 (u2 (u2 fa 5 1 n95) 5 2 n96) 5 3 n97) la) := (show va_D _ (WX h g ca (u2 iv 5 5 n98) lv (u2 (u2 (u2 fa 5 1 n95) 5 2 n96) 5 3 n97) la) from hD).weaken (fun _ _ _ h => hFc _ h)
            refine lv_aload_n hx hb dX5_place_92 rfl (lv_at hl 1 rfl) ?_
            refine gX_5_2 hx hb ht hown hK hP m_337 dX5_place_93 ?_
            refine lv_iload hx hb dX5_place_96 (lv_at hl 0 rfl) ?_
            refine lv_dup2_11 hx hb dX5_place_98 rfl rfl ?_
            refine lX_5_2 hx hb hK hP (f := n96) rfl (vp_in_iff.mpr ⟨by omega, by omega⟩) dX5_place_99 ?_
            refine lv_topi (fun v99 ev99 => ?_)
            refine lv_aload_n hx hb dX5_place_100 rfl (lv_at hl 1 rfl) ?_
            refine gX_5_0 hx hb ht hown hK hP m_335 dX5_place_101 ?_
            refine lv_iload_n hx hb dX5_place_104 rfl (lv_at hl 2 rfl) ?_
            refine lX_5_0 hx hb hK hP (f := (fa 5 0)) rfl (vp_in_iff.mpr (by decide)) dX5_place_105 ?_
            refine lv_topi (fun v100 ev100 => ?_)
            obtain rfl : v88 = v100 := ev88.trans ev100.symm
            refine lv_isub hx hb dX5_place_106 ?_
            refine lv_topi (fun v101 ev101 => ?_)
            refine tX_5_2 hx hb hK hP hD hS (f0 := n96) rfl (i := x83_4) (x := v101) (vp_in_iff.mpr ⟨by omega, by omega⟩) dX5_place_107 (fun f102 ef102 H locs hP hD hS => ?_)
            have hf102 : ∀ j, inb (bA 5 2 j) (f102 j) := fun j => full_i _
            have hP : va_P (dC, dI) classes (WX h g ca (u2 iv 5 5 n98) lv (u2 (u2 (u2 fa 5 1 n95) 5 2 f102) 5 3 n97) la) H := hP
            have hD : va_D A (WX h g ca (u2 iv 5 5 n98) lv (u2 (u2 (u2 fa 5 1 n95) 5 2 f102) 5 3 n97) la) := hD
            obtain ⟨v103, ev103⟩ : ∃ y : Int32, y = x83_4 + 1 := ⟨_, rfl⟩
            have tv103 := z_add ev103 rfl (by decide : (1 : Int32).toInt = 1) (by omega) (by omega)
            refine lv_iinc (v := v103) (lv' := [(4, .int v103), (0, .ref (g 11 7)), (1, .int 3), (2, .int mm), (3, .int q)]) hx hb dX5_place_108 hl (k := 0) rfl (by rw [ev103]; rfl) (by decide) rfl (fun ls hl => ?_)
            refine lv_goto (tgt := 43) hx hb dX5_place_111 (by decide) ?_
            exact ih84 v103 n98 n95 f102 n97 ⟨by omega, by omega⟩ hn95 hf102 hn97 (by omega) _ _ ls hP hD hS (lv_sub hl [0, 1, 2, 3, 4] rfl)
      exact lp84 4 0 (iv 5 5) (fa 5 1) (fa 5 2) (fa 5 3) ⟨by decide, by decide⟩ (hI.2 5 1) (hI.2 5 2) (hI.2 5 3) (by first | decide | omega) _ _ ls hP hD hS (lv_sub hl [0, 1, 2, 3, 4] rfl)
    · have fc2 := z_nlt (by decide : (3 : Int32).toInt = 3) (rfl : ((iv 5 4)).toInt = _) c2
      refine lv_aload_n hx hb dX5_place_17 rfl (lv_at hl 0 rfl) ?_
      refine lv_iload_n hx hb dX5_place_18 rfl (lv_at hl 3 rfl) ?_
      refine pX_5_5 (v := q) hx hb ht hown hK hP hD hS m_342 dX5_place_19 (fun H locs hP hD hS => ?_)
      refine lv_aload_n hx hb dX5_place_22 rfl (lv_at hl 0 rfl) ?_
      refine gX_5_1 hx hb ht hown hK hP m_336 dX5_place_23 ?_
      refine lv_iconst (v := 0) hx hb dX5_place_26 (by decide) ?_
      refine lv_aload_n hx hb dX5_place_27 rfl (lv_at hl 0 rfl) ?_
      refine gX_5_3 hx hb ht hown hK hP m_338 dX5_place_28 ?_
      refine lv_iconst (v := 0) hx hb dX5_place_31 (by decide) ?_
      refine lv_aload_n hx hb dX5_place_32 rfl (lv_at hl 0 rfl) ?_
      refine gX_5_4 hx hb ht hown hK hP m_340 (v := (iv 5 4)) rfl dX5_place_33 ?_
      have hn9 : ((iv 5 4) : Int32).toNatClampNeg ≤ 8 := by show ((((iv 5 4) : Int32).toInt).toNat : Nat) ≤ 8; omega
      refine va_copyi (D := (dC, dI)) (ty := .int) (f := (fa 5 1)) (g := (fa 5 3)) hx hb (hml.trans hl.1.symm) hown (ht _ m_1022) (ht _ m_1024) (ht _ m_1023) (ht _ m_95) hK hP hD hS 34 36 21 23 rfl rfl rfl rfl rfl (by decide) (by decide) (fun q9 => by have := Int32.lt_iff_toInt_lt.mp q9; have h0 : (0 : Int32).toInt = 0 := rfl; omega) (by show (0 : Nat) + _ ≤ 8; omega) (by show (0 : Nat) + _ ≤ 8; omega) (fun i hi => rfl) (Nat.le_of_ble_eq_true rfl) (by rw [nfw]; exact Nat.le_of_ble_eq_true rfl) dX5_place_36 (fun H locs hP hD hS => ?_)
      rw [aX_5_3] at hP hD
      obtain ⟨f104, ef104⟩ : ∃ f : Nat → Int32, f = va_cpy (fa 5 1) (fa 5 3) (0 : Int32).toNatClampNeg (0 : Int32).toNatClampNeg ((iv 5 4) : Int32).toNatClampNeg := ⟨_, rfl⟩
      rw [← ef104] at hP hD
      have hf104 : ∀ j, inb (bA 5 3 j) (f104 j) := fun j => full_i _
      have hP9 : va_P (dC, dI) classes (WX h g ca (u2 iv 5 5 q) lv (u2 (u2 (u2 fa 5 1 (fa 5 1)) 5 2 (fa 5 2)) 5 3 f104) la) H := hP
      have hD9 : va_D A (WX h g ca (u2 iv 5 5 q) lv (u2 (u2 (u2 fa 5 1 (fa 5 1)) 5 2 (fa 5 2)) 5 3 f104) la) := hD
      exact W.vret hx hb hr (fun t ht9 hW => ⟨⟨((u2 iv 5 5 q), lv, (u2 (u2 (u2 fa 5 1 (fa 5 1)) 5 2 (fa 5 2)) 5 3 f104), la), rfl, ⟨(fa 5 1), (fa 5 2), f104, q, rfl⟩, by rw [ht9]; exact hP9, hD9⟩, hS.F ht9⟩) hS.2.2 dX5_place_39
  · have fc1 := z_nlt (rfl : (q).toInt = _) (rfl : ((iv 5 5)).toInt = _) c1
    have hP9 : va_P (dC, dI) classes (WX h g ca (u2 iv 5 5 (iv 5 5)) lv (u2 (u2 (u2 fa 5 1 (fa 5 1)) 5 2 (fa 5 2)) 5 3 (fa 5 3)) la) s.heap := hP
    have hD9 : va_D A (WX h g ca (u2 iv 5 5 (iv 5 5)) lv (u2 (u2 (u2 fa 5 1 (fa 5 1)) 5 2 (fa 5 2)) 5 3 (fa 5 3)) la) := hD
    exact W.vret hx hb hr (fun t ht9 hW => ⟨⟨((u2 iv 5 5 (iv 5 5)), lv, (u2 (u2 (u2 fa 5 1 (fa 5 1)) 5 2 (fa 5 2)) 5 3 (fa 5 3)), la), rfl, ⟨(fa 5 1), (fa 5 2), (fa 5 3), (iv 5 5), rfl⟩, by rw [ht9]; exact hP9, hD9⟩, hS.F ht9⟩) hS.2.2 dX5_place_8
set_option maxHeartbeats 4000000 in
set_option maxRecDepth 100000 in
/-- X5_place -/
theorem c_X5_place_2 (l : Launch) (dC : Nat → ClassId) (dI : Nat → Nat → Nat) (sz : Nat) (h : Nat) (g : Nat → Nat → Nat) (ca : Nat → Nat → ClassId) (iv : Nat → Nat → Int32) (lv : Nat → Nat → Int64) (fa : Nat → Nat → Nat → Int32) (la : Nat → Nat → Nat → Int64) (hI : IX iv fa) (mm : Int32) (q : Int32) (h_mm : 1 ≤ mm.toInt ∧ mm.toInt ≤ 3) : Met l yX5_place (wc yX5_place cX5_place 5 none) ({ frames := 7, cells := 0, slots := 0, locals := 204 } : Room) (pW (dC, dI) classes (WX h g ca iv lv fa la) (TX ca) sz [.ref (g 11 7), .int 2, .int mm, .int q]) (va_Qv (fun (u : SS) => ∃ (na_5_1 : Nat → Int32) (na_5_2 : Nat → Int32) (na_5_3 : Nat → Int32) (ni_5_5 : Int32), u = ((u2 iv 5 5 ni_5_5), lv, (u2 (u2 (u2 fa 5 1 na_5_1) 5 2 na_5_2) 5 3 na_5_3), la)) (bX (dC, dI) h g ca (va_A (WX h g ca iv lv fa la) sz)) (va_A (WX h g ca iv lv fa la) sz)) 0 0 (va_A (WX h g ca iv lv fa la) sz) := by
  refine Met.ofW (cc := cX5_place) (maxL := 5) (ret := none) (by decide) rfl ?_
  intro p e s m args below meth c s₁ B hml hv
  obtain ⟨rfl, hsz, hP, hK, hD0⟩ := hv
  have hx := B.exec
  have hb := B.bytes
  have hr := B.returns
  have ht := tb_tl (atoms_spec (ws := wc yX5_place cX5_place 5 none) B.pre)
  have hown : s.vm.findClass RX5 = some m.cls := findClass_of_methodNamed B.named
  have hlocks := B.notSynchronized
  subst hsz
  have hD := hD0.self (sz := s.heap.size)
  generalize hAe : va_A (WX h g ca iv lv fa la) s.heap.size = A at hD ⊢
  have hA : ∀ q : Nat, s.heap.size ≤ q → A q := fun q h => by rw [← hAe]; exact Or.inr h
  have hS : va_S A s.heap s.heap [] := va_S.rf
  have hl := lv_entry [.ref (g 11 7), .int 2, .int mm, .int q] (n := 5) (Nat.le_of_ble_eq_true rfl)
  rw [lg_entry_eq]
  generalize (lg_sl [.ref (g 11 7), .int 2, .int mm, .int q] ++ List.replicate (5 - (lg_sl [.ref (g 11 7), .int 2, .int mm, .int q]).length) Slot.unset).toArray = ls at hl ⊢
  have hl : lv_has ls 5 [(0, .ref (g 11 7)), (1, .int 2), (2, .int mm), (3, .int q)] := hl
  refine lv_iload_n hx hb dX5_place_0 rfl (lv_at hl 3 rfl) ?_
  refine lv_aload_n hx hb dX5_place_1 rfl (lv_at hl 0 rfl) ?_
  refine gX_5_5 hx hb ht hown hK hP m_342 (v := (iv 5 5)) rfl dX5_place_2 ?_
  refine lv_icmp_lt (tgt := 9) hx hb dX5_place_5 (by decide) (fun c1 => ?_) (fun c1 => ?_)
  · have fc1 := z_lt (rfl : (q).toInt = _) (rfl : ((iv 5 5)).toInt = _) c1
    refine lv_iload_n hx hb dX5_place_9 rfl (lv_at hl 1 rfl) ?_
    refine lv_aload_n hx hb dX5_place_10 rfl (lv_at hl 0 rfl) ?_
    have i_5_4 : 0 ≤ (iv 5 4).toInt ∧ (iv 5 4).toInt ≤ 8 := hI.1 5 4
    refine gX_5_4 hx hb ht hown hK hP m_340 (v := (iv 5 4)) rfl dX5_place_11 ?_
    refine lv_icmp_lt (tgt := 40) hx hb dX5_place_14 (by decide) (fun c2 => ?_) (fun c2 => ?_)
    · have fc2 := z_lt (by decide : (2 : Int32).toInt = 2) (rfl : ((iv 5 4)).toInt = _) c2
      refine lv_iconst (v := 0) hx hb dX5_place_40 (by decide) ?_
      refine lv_istore (lv' := [(4, .int 0), (0, .ref (g 11 7)), (1, .int 2), (2, .int mm), (3, .int q)]) hx hb dX5_place_41 hl (by decide) rfl (fun ls hl => ?_)
      have lp84 : ∀ (nn84 : Nat) (x83_4 : Int32) (w83_i_5_5 : Int32) (w83_a_5_1 : Nat → Int32) (w83_a_5_2 : Nat → Int32) (w83_a_5_3 : Nat → Int32), 0 ≤ x83_4.toInt ∧ x83_4.toInt ≤ 3 → (∀ j, inb (bA 5 1 j) (w83_a_5_1 j)) → (∀ j, inb (bA 5 2 j) (w83_a_5_2 j)) → (∀ j, inb (bA 5 3 j) (w83_a_5_3 j)) → 3 - x83_4.toInt < (nn84 : Int) → ∀ (H : Heap) (locs : List Loc), ∀ (ls : Array Slot), va_P (dC, dI) classes (WX h g ca (u2 iv 5 5 w83_i_5_5) lv (u2 (u2 (u2 fa 5 1 w83_a_5_1) 5 2 w83_a_5_2) 5 3 w83_a_5_3) la) H → va_D A (WX h g ca (u2 iv 5 5 w83_i_5_5) lv (u2 (u2 (u2 fa 5 1 w83_a_5_1) 5 2 w83_a_5_2) 5 3 w83_a_5_3) la) → va_S A s.heap H locs → lv_has ls 5 [(4, .int x83_4), (0, .ref (g 11 7)), (1, .int 2), (2, .int mm), (3, .int q)] → W p l e ({ frames := 7, cells := 0, slots := 0, locals := 204 } : Room) s m ([.ref (g 11 7), .int 2, .int mm, .int q] : List Value).toArray below meth c H locs 0 0 (MQ below (va_Qv (fun (u : SS) => ∃ (na_5_1 : Nat → Int32) (na_5_2 : Nat → Int32) (na_5_3 : Nat → Int32) (ni_5_5 : Int32), u = ((u2 iv 5 5 ni_5_5), lv, (u2 (u2 (u2 fa 5 1 na_5_1) 5 2 na_5_2) 5 3 na_5_3), la)) (bX (dC, dI) h g ca A) A) ([.ref (g 11 7), .int 2, .int mm, .int q] : List Value).toArray s 0 0 A) (F0 m 43 ls []) := by
        intro nn84
        induction nn84 with
        | zero => intro x83_4 w83_i_5_5 w83_a_5_1 w83_a_5_2 w83_a_5_3 hx83_4 hw83_a_5_1 hw83_a_5_2 hw83_a_5_3 hm84; exfalso; omega
        | succ nn84 ih84 =>
          intro x83_4 w83_i_5_5 w83_a_5_1 w83_a_5_2 w83_a_5_3 hx83_4 hw83_a_5_1 hw83_a_5_2 hw83_a_5_3 hm84 H locs ls hP hD hS hl
          refine lv_iload hx hb dX5_place_43 (lv_at hl 0 rfl) ?_
          refine lv_iload_n hx hb dX5_place_45 rfl (lv_at hl 3 rfl) ?_
          refine lv_icmp_ge (tgt := 114) hx hb dX5_place_46 (by decide) (fun c85 => ?_) (fun c85 => ?_)
          · have fc85 := z_le (rfl : (mm).toInt = _) (rfl : (x83_4).toInt = _) c85
            have hP9 : va_P (dC, dI) classes (WX h g ca (u2 iv 5 5 w83_i_5_5) lv (u2 (u2 (u2 fa 5 1 w83_a_5_1) 5 2 w83_a_5_2) 5 3 w83_a_5_3) la) H := hP
            have hD9 : va_D A (WX h g ca (u2 iv 5 5 w83_i_5_5) lv (u2 (u2 (u2 fa 5 1 w83_a_5_1) 5 2 w83_a_5_2) 5 3 w83_a_5_3) la) := hD
            exact W.vret hx hb hr (fun t ht9 hW => ⟨⟨((u2 iv 5 5 w83_i_5_5), lv, (u2 (u2 (u2 fa 5 1 w83_a_5_1) 5 2 w83_a_5_2) 5 3 w83_a_5_3), la), rfl, ⟨w83_a_5_1, w83_a_5_2, w83_a_5_3, w83_i_5_5, rfl⟩, by rw [ht9]; exact hP9, hD9⟩, hS.F ht9⟩) hS.2.2 dX5_place_114
          · have fc85 := z_nle (rfl : (mm).toInt = _) (rfl : (x83_4).toInt = _) c85
            refine lv_aload_n hx hb dX5_place_49 rfl (lv_at hl 1 rfl) ?_
            refine gX_5_1 hx hb ht hown hK hP m_336 dX5_place_50 ?_
            refine lv_iload_n hx hb dX5_place_53 rfl (lv_at hl 2 rfl) ?_
            refine lv_iload hx hb dX5_place_54 (lv_at hl 0 rfl) ?_
            refine tX_5_1 hx hb hK hP hD hS (f0 := w83_a_5_1) rfl (i := 2) (x := x83_4) (vp_in_iff.mpr (by decide)) dX5_place_56 (fun f86 ef86 H locs hP hD hS => ?_)
            have hf86 : ∀ j, inb (bA 5 1 j) (f86 j) := fun j => full_i _
            have hP : va_P (dC, dI) classes (WX h g ca (u2 iv 5 5 w83_i_5_5) lv (u2 (u2 (u2 fa 5 1 f86) 5 2 w83_a_5_2) 5 3 w83_a_5_3) la) H := hP
            have hD : va_D A (WX h g ca (u2 iv 5 5 w83_i_5_5) lv (u2 (u2 (u2 fa 5 1 f86) 5 2 w83_a_5_2) 5 3 w83_a_5_3) la) := hD
            refine lv_aload_n hx hb dX5_place_57 rfl (lv_at hl 1 rfl) ?_
            refine gX_5_2 hx hb ht hown hK hP m_337 dX5_place_58 ?_
            refine lv_iload hx hb dX5_place_61 (lv_at hl 0 rfl) ?_
            refine lv_dup2_11 hx hb dX5_place_63 rfl rfl ?_
            refine lX_5_2 hx hb hK hP (f := w83_a_5_2) rfl (vp_in_iff.mpr ⟨by omega, by omega⟩) dX5_place_64 ?_
            refine lv_topi (fun v87 ev87 => ?_)
            refine lv_aload_n hx hb dX5_place_65 rfl (lv_at hl 1 rfl) ?_
            refine gX_5_0 hx hb ht hown hK hP m_335 dX5_place_66 ?_
            refine lv_iload_n hx hb dX5_place_69 rfl (lv_at hl 2 rfl) ?_
            refine lX_5_0 hx hb hK hP (f := (fa 5 0)) rfl (vp_in_iff.mpr (by decide)) dX5_place_70 ?_
            refine lv_topi (fun v88 ev88 => ?_)
            refine lv_iadd hx hb dX5_place_71 ?_
            refine lv_topi (fun v89 ev89 => ?_)
            refine tX_5_2 hx hb hK hP hD hS (f0 := w83_a_5_2) rfl (i := x83_4) (x := v89) (vp_in_iff.mpr ⟨by omega, by omega⟩) dX5_place_72 (fun f90 ef90 H locs hP hD hS => ?_)
            have hf90 : ∀ j, inb (bA 5 2 j) (f90 j) := fun j => full_i _
            have hP : va_P (dC, dI) classes (WX h g ca (u2 iv 5 5 w83_i_5_5) lv (u2 (u2 (u2 fa 5 1 f86) 5 2 f90) 5 3 w83_a_5_3) la) H := hP
            have hD : va_D A (WX h g ca (u2 iv 5 5 w83_i_5_5) lv (u2 (u2 (u2 fa 5 1 f86) 5 2 f90) 5 3 w83_a_5_3) la) := hD
            refine lv_aload_n hx hb dX5_place_73 rfl (lv_at hl 1 rfl) ?_
            refine lv_iload_n hx hb dX5_place_74 rfl (lv_at hl 2 rfl) ?_
            refine lv_iconst (v := 1) hx hb dX5_place_75 (by decide) ?_
            refine lv_iadd hx hb dX5_place_76 ?_
            refine lv_topi (fun v91 ev91 => ?_)
            obtain rfl : 3 = v91 := (ev91.trans (by decide)).symm
            refine lv_iload_n hx hb dX5_place_77 rfl (lv_at hl 3 rfl) ?_
            refine lv_iload_n hx hb dX5_place_78 rfl (lv_at hl 4 rfl) ?_
            refine lv_aload_n hx hb dX5_place_79 rfl (lv_at hl 1 rfl) ?_
            refine gX_5_2 hx hb ht hown hK hP m_337 dX5_place_80 ?_
            refine lv_iload hx hb dX5_place_83 (lv_at hl 0 rfl) ?_
            refine lX_5_2 hx hb hK hP (f := f90) rfl (vp_in_iff.mpr ⟨by omega, by omega⟩) dX5_place_85 ?_
            refine lv_topi (fun v92 ev92 => ?_)
            refine va_mmax hx hb (hml.trans hl.1.symm) hown (ht _ m_1025) (ht _ m_558) (ht _ m_90) (ht _ m_559) (Nat.le_of_ble_eq_true rfl) (Nat.le_of_ble_eq_true rfl) (Nat.le_of_ble_eq_true rfl) (Nat.le_of_ble_eq_true rfl) dX5_place_86 ?_
            refine lv_topi (fun v93 ev93 => ?_)
            have tv93 := mm_or ev93
            have uv93 := mm_max ev93 (rfl : (q).toInt = _) (rfl : (v92).toInt = _)
            have hFc := free_all hD hS hA
            refine va_callv (va_runV (As := [.int 3, .int mm, .int v93]) (rest := []) ⟨hx, hb, hml, hown, ht⟩ (c_X5_place_3 l dC dI H.size h g ca (u2 iv 5 5 w83_i_5_5) lv (u2 (u2 (u2 fa 5 1 f86) 5 2 f90) 5 3 w83_a_5_3) la (IX_a (c := 5) (k := 3) (IX_a (c := 5) (k := 2) (IX_a (c := 5) (k := 1) (IX_i (c := 5) (k := 5) hI (full_i _)) hf86) hf90) hw83_a_5_3) mm v93 ⟨by omega, by omega⟩) (kV 3 ht m_1018 m_1020 m_41 m_86 m_1021 rfl rfl hd_X5_place_v ⟨Nat.le_of_ble_eq_true rfl, Nat.le_of_ble_eq_true rfl⟩) (vW hP hK hD (rX_5 hK hP)) rfl rfl hl.1 rfl (lv_room (Nat.le_of_ble_eq_true rfl)) dX5_place_89 ⟨Nat.le_of_ble_eq_true rfl, Nat.le_of_ble_eq_true rfl⟩) hS (fun q _ h => hFc q h) hFc (fun u t H1 locs ht9 hvm hr94 hB hz1 hk1 hS => ?_)
            obtain ⟨n95, n96, n97, n98, rfl⟩ := hr94
            have hn95 : ∀ j, inb (bA 5 1 j) (n95 j) := fun j => full_i _
            have hn96 : ∀ j, inb (bA 5 2 j) (n96 j) := fun j => full_i _
            have hn97 : ∀ j, inb (bA 5 3 j) (n97 j) := fun j => full_i _
            obtain ⟨hP, hD⟩ := hB
            rw [ht9] at hP
            generalize H1 = H at hP hS ⊢
            have hP : va_P (dC, dI) classes (WX h g ca (u2 iv 5 5 n98) lv (u2 (u2 (u2 fa 5 1 n95) 5 2 n96) 5 3 n97) la) H := hP
            have hD : va_D A (WX h g ca (u2 iv 5 5 n98) lv (u2 (u2 (u2 fa 5 1 n95) 5 2 n96) 5 3 n97) la) := (show va_D _ (WX h g ca (u2 iv 5 5 n98) lv (u2 (u2 (u2 fa 5 1 n95) 5 2 n96) 5 3 n97) la) from hD).weaken (fun _ _ _ h => hFc _ h)
            refine lv_aload_n hx hb dX5_place_92 rfl (lv_at hl 1 rfl) ?_
            refine gX_5_2 hx hb ht hown hK hP m_337 dX5_place_93 ?_
            refine lv_iload hx hb dX5_place_96 (lv_at hl 0 rfl) ?_
            refine lv_dup2_11 hx hb dX5_place_98 rfl rfl ?_
            refine lX_5_2 hx hb hK hP (f := n96) rfl (vp_in_iff.mpr ⟨by omega, by omega⟩) dX5_place_99 ?_
            refine lv_topi (fun v99 ev99 => ?_)
            refine lv_aload_n hx hb dX5_place_100 rfl (lv_at hl 1 rfl) ?_
            refine gX_5_0 hx hb ht hown hK hP m_335 dX5_place_101 ?_
            refine lv_iload_n hx hb dX5_place_104 rfl (lv_at hl 2 rfl) ?_
            refine lX_5_0 hx hb hK hP (f := (fa 5 0)) rfl (vp_in_iff.mpr (by decide)) dX5_place_105 ?_
            refine lv_topi (fun v100 ev100 => ?_)
            obtain rfl : v88 = v100 := ev88.trans ev100.symm
            refine lv_isub hx hb dX5_place_106 ?_
            refine lv_topi (fun v101 ev101 => ?_)
            refine tX_5_2 hx hb hK hP hD hS (f0 := n96) rfl (i := x83_4) (x := v101) (vp_in_iff.mpr ⟨by omega, by omega⟩) dX5_place_107 (fun f102 ef102 H locs hP hD hS => ?_)
            have hf102 : ∀ j, inb (bA 5 2 j) (f102 j) := fun j => full_i _
            have hP : va_P (dC, dI) classes (WX h g ca (u2 iv 5 5 n98) lv (u2 (u2 (u2 fa 5 1 n95) 5 2 f102) 5 3 n97) la) H := hP
            have hD : va_D A (WX h g ca (u2 iv 5 5 n98) lv (u2 (u2 (u2 fa 5 1 n95) 5 2 f102) 5 3 n97) la) := hD
            obtain ⟨v103, ev103⟩ : ∃ y : Int32, y = x83_4 + 1 := ⟨_, rfl⟩
            have tv103 := z_add ev103 rfl (by decide : (1 : Int32).toInt = 1) (by omega) (by omega)
            refine lv_iinc (v := v103) (lv' := [(4, .int v103), (0, .ref (g 11 7)), (1, .int 2), (2, .int mm), (3, .int q)]) hx hb dX5_place_108 hl (k := 0) rfl (by rw [ev103]; rfl) (by decide) rfl (fun ls hl => ?_)
            refine lv_goto (tgt := 43) hx hb dX5_place_111 (by decide) ?_
            exact ih84 v103 n98 n95 f102 n97 ⟨by omega, by omega⟩ hn95 hf102 hn97 (by omega) _ _ ls hP hD hS (lv_sub hl [0, 1, 2, 3, 4] rfl)
      exact lp84 4 0 (iv 5 5) (fa 5 1) (fa 5 2) (fa 5 3) ⟨by decide, by decide⟩ (hI.2 5 1) (hI.2 5 2) (hI.2 5 3) (by first | decide | omega) _ _ ls hP hD hS (lv_sub hl [0, 1, 2, 3, 4] rfl)
    · have fc2 := z_nlt (by decide : (2 : Int32).toInt = 2) (rfl : ((iv 5 4)).toInt = _) c2
      refine lv_aload_n hx hb dX5_place_17 rfl (lv_at hl 0 rfl) ?_
      refine lv_iload_n hx hb dX5_place_18 rfl (lv_at hl 3 rfl) ?_
      refine pX_5_5 (v := q) hx hb ht hown hK hP hD hS m_342 dX5_place_19 (fun H locs hP hD hS => ?_)
      refine lv_aload_n hx hb dX5_place_22 rfl (lv_at hl 0 rfl) ?_
      refine gX_5_1 hx hb ht hown hK hP m_336 dX5_place_23 ?_
      refine lv_iconst (v := 0) hx hb dX5_place_26 (by decide) ?_
      refine lv_aload_n hx hb dX5_place_27 rfl (lv_at hl 0 rfl) ?_
      refine gX_5_3 hx hb ht hown hK hP m_338 dX5_place_28 ?_
      refine lv_iconst (v := 0) hx hb dX5_place_31 (by decide) ?_
      refine lv_aload_n hx hb dX5_place_32 rfl (lv_at hl 0 rfl) ?_
      refine gX_5_4 hx hb ht hown hK hP m_340 (v := (iv 5 4)) rfl dX5_place_33 ?_
      have hn9 : ((iv 5 4) : Int32).toNatClampNeg ≤ 8 := by show ((((iv 5 4) : Int32).toInt).toNat : Nat) ≤ 8; omega
      refine va_copyi (D := (dC, dI)) (ty := .int) (f := (fa 5 1)) (g := (fa 5 3)) hx hb (hml.trans hl.1.symm) hown (ht _ m_1022) (ht _ m_1024) (ht _ m_1023) (ht _ m_95) hK hP hD hS 34 36 21 23 rfl rfl rfl rfl rfl (by decide) (by decide) (fun q9 => by have := Int32.lt_iff_toInt_lt.mp q9; have h0 : (0 : Int32).toInt = 0 := rfl; omega) (by show (0 : Nat) + _ ≤ 8; omega) (by show (0 : Nat) + _ ≤ 8; omega) (fun i hi => rfl) (Nat.le_of_ble_eq_true rfl) (by rw [nfw]; exact Nat.le_of_ble_eq_true rfl) dX5_place_36 (fun H locs hP hD hS => ?_)
      rw [aX_5_3] at hP hD
      obtain ⟨f104, ef104⟩ : ∃ f : Nat → Int32, f = va_cpy (fa 5 1) (fa 5 3) (0 : Int32).toNatClampNeg (0 : Int32).toNatClampNeg ((iv 5 4) : Int32).toNatClampNeg := ⟨_, rfl⟩
      rw [← ef104] at hP hD
      have hf104 : ∀ j, inb (bA 5 3 j) (f104 j) := fun j => full_i _
      have hP9 : va_P (dC, dI) classes (WX h g ca (u2 iv 5 5 q) lv (u2 (u2 (u2 fa 5 1 (fa 5 1)) 5 2 (fa 5 2)) 5 3 f104) la) H := hP
      have hD9 : va_D A (WX h g ca (u2 iv 5 5 q) lv (u2 (u2 (u2 fa 5 1 (fa 5 1)) 5 2 (fa 5 2)) 5 3 f104) la) := hD
      exact W.vret hx hb hr (fun t ht9 hW => ⟨⟨((u2 iv 5 5 q), lv, (u2 (u2 (u2 fa 5 1 (fa 5 1)) 5 2 (fa 5 2)) 5 3 f104), la), rfl, ⟨(fa 5 1), (fa 5 2), f104, q, rfl⟩, by rw [ht9]; exact hP9, hD9⟩, hS.F ht9⟩) hS.2.2 dX5_place_39
  · have fc1 := z_nlt (rfl : (q).toInt = _) (rfl : ((iv 5 5)).toInt = _) c1
    have hP9 : va_P (dC, dI) classes (WX h g ca (u2 iv 5 5 (iv 5 5)) lv (u2 (u2 (u2 fa 5 1 (fa 5 1)) 5 2 (fa 5 2)) 5 3 (fa 5 3)) la) s.heap := hP
    have hD9 : va_D A (WX h g ca (u2 iv 5 5 (iv 5 5)) lv (u2 (u2 (u2 fa 5 1 (fa 5 1)) 5 2 (fa 5 2)) 5 3 (fa 5 3)) la) := hD
    exact W.vret hx hb hr (fun t ht9 hW => ⟨⟨((u2 iv 5 5 (iv 5 5)), lv, (u2 (u2 (u2 fa 5 1 (fa 5 1)) 5 2 (fa 5 2)) 5 3 (fa 5 3)), la), rfl, ⟨(fa 5 1), (fa 5 2), (fa 5 3), (iv 5 5), rfl⟩, by rw [ht9]; exact hP9, hD9⟩, hS.F ht9⟩) hS.2.2 dX5_place_8
set_option maxHeartbeats 4000000 in
set_option maxRecDepth 100000 in
/-- X5_place -/
theorem c_X5_place_1 (l : Launch) (dC : Nat → ClassId) (dI : Nat → Nat → Nat) (sz : Nat) (h : Nat) (g : Nat → Nat → Nat) (ca : Nat → Nat → ClassId) (iv : Nat → Nat → Int32) (lv : Nat → Nat → Int64) (fa : Nat → Nat → Nat → Int32) (la : Nat → Nat → Nat → Int64) (hI : IX iv fa) (mm : Int32) (q : Int32) (h_mm : 1 ≤ mm.toInt ∧ mm.toInt ≤ 3) : Met l yX5_place (wc yX5_place cX5_place 5 none) ({ frames := 8, cells := 0, slots := 0, locals := 228 } : Room) (pW (dC, dI) classes (WX h g ca iv lv fa la) (TX ca) sz [.ref (g 11 7), .int 1, .int mm, .int q]) (va_Qv (fun (u : SS) => ∃ (na_5_1 : Nat → Int32) (na_5_2 : Nat → Int32) (na_5_3 : Nat → Int32) (ni_5_5 : Int32), u = ((u2 iv 5 5 ni_5_5), lv, (u2 (u2 (u2 fa 5 1 na_5_1) 5 2 na_5_2) 5 3 na_5_3), la)) (bX (dC, dI) h g ca (va_A (WX h g ca iv lv fa la) sz)) (va_A (WX h g ca iv lv fa la) sz)) 0 0 (va_A (WX h g ca iv lv fa la) sz) := by
  refine Met.ofW (cc := cX5_place) (maxL := 5) (ret := none) (by decide) rfl ?_
  intro p e s m args below meth c s₁ B hml hv
  obtain ⟨rfl, hsz, hP, hK, hD0⟩ := hv
  have hx := B.exec
  have hb := B.bytes
  have hr := B.returns
  have ht := tb_tl (atoms_spec (ws := wc yX5_place cX5_place 5 none) B.pre)
  have hown : s.vm.findClass RX5 = some m.cls := findClass_of_methodNamed B.named
  have hlocks := B.notSynchronized
  subst hsz
  have hD := hD0.self (sz := s.heap.size)
  generalize hAe : va_A (WX h g ca iv lv fa la) s.heap.size = A at hD ⊢
  have hA : ∀ q : Nat, s.heap.size ≤ q → A q := fun q h => by rw [← hAe]; exact Or.inr h
  have hS : va_S A s.heap s.heap [] := va_S.rf
  have hl := lv_entry [.ref (g 11 7), .int 1, .int mm, .int q] (n := 5) (Nat.le_of_ble_eq_true rfl)
  rw [lg_entry_eq]
  generalize (lg_sl [.ref (g 11 7), .int 1, .int mm, .int q] ++ List.replicate (5 - (lg_sl [.ref (g 11 7), .int 1, .int mm, .int q]).length) Slot.unset).toArray = ls at hl ⊢
  have hl : lv_has ls 5 [(0, .ref (g 11 7)), (1, .int 1), (2, .int mm), (3, .int q)] := hl
  refine lv_iload_n hx hb dX5_place_0 rfl (lv_at hl 3 rfl) ?_
  refine lv_aload_n hx hb dX5_place_1 rfl (lv_at hl 0 rfl) ?_
  refine gX_5_5 hx hb ht hown hK hP m_342 (v := (iv 5 5)) rfl dX5_place_2 ?_
  refine lv_icmp_lt (tgt := 9) hx hb dX5_place_5 (by decide) (fun c1 => ?_) (fun c1 => ?_)
  · have fc1 := z_lt (rfl : (q).toInt = _) (rfl : ((iv 5 5)).toInt = _) c1
    refine lv_iload_n hx hb dX5_place_9 rfl (lv_at hl 1 rfl) ?_
    refine lv_aload_n hx hb dX5_place_10 rfl (lv_at hl 0 rfl) ?_
    have i_5_4 : 0 ≤ (iv 5 4).toInt ∧ (iv 5 4).toInt ≤ 8 := hI.1 5 4
    refine gX_5_4 hx hb ht hown hK hP m_340 (v := (iv 5 4)) rfl dX5_place_11 ?_
    refine lv_icmp_lt (tgt := 40) hx hb dX5_place_14 (by decide) (fun c2 => ?_) (fun c2 => ?_)
    · have fc2 := z_lt (by decide : (1 : Int32).toInt = 1) (rfl : ((iv 5 4)).toInt = _) c2
      refine lv_iconst (v := 0) hx hb dX5_place_40 (by decide) ?_
      refine lv_istore (lv' := [(4, .int 0), (0, .ref (g 11 7)), (1, .int 1), (2, .int mm), (3, .int q)]) hx hb dX5_place_41 hl (by decide) rfl (fun ls hl => ?_)
      have lp84 : ∀ (nn84 : Nat) (x83_4 : Int32) (w83_i_5_5 : Int32) (w83_a_5_1 : Nat → Int32) (w83_a_5_2 : Nat → Int32) (w83_a_5_3 : Nat → Int32), 0 ≤ x83_4.toInt ∧ x83_4.toInt ≤ 3 → (∀ j, inb (bA 5 1 j) (w83_a_5_1 j)) → (∀ j, inb (bA 5 2 j) (w83_a_5_2 j)) → (∀ j, inb (bA 5 3 j) (w83_a_5_3 j)) → 3 - x83_4.toInt < (nn84 : Int) → ∀ (H : Heap) (locs : List Loc), ∀ (ls : Array Slot), va_P (dC, dI) classes (WX h g ca (u2 iv 5 5 w83_i_5_5) lv (u2 (u2 (u2 fa 5 1 w83_a_5_1) 5 2 w83_a_5_2) 5 3 w83_a_5_3) la) H → va_D A (WX h g ca (u2 iv 5 5 w83_i_5_5) lv (u2 (u2 (u2 fa 5 1 w83_a_5_1) 5 2 w83_a_5_2) 5 3 w83_a_5_3) la) → va_S A s.heap H locs → lv_has ls 5 [(4, .int x83_4), (0, .ref (g 11 7)), (1, .int 1), (2, .int mm), (3, .int q)] → W p l e ({ frames := 8, cells := 0, slots := 0, locals := 228 } : Room) s m ([.ref (g 11 7), .int 1, .int mm, .int q] : List Value).toArray below meth c H locs 0 0 (MQ below (va_Qv (fun (u : SS) => ∃ (na_5_1 : Nat → Int32) (na_5_2 : Nat → Int32) (na_5_3 : Nat → Int32) (ni_5_5 : Int32), u = ((u2 iv 5 5 ni_5_5), lv, (u2 (u2 (u2 fa 5 1 na_5_1) 5 2 na_5_2) 5 3 na_5_3), la)) (bX (dC, dI) h g ca A) A) ([.ref (g 11 7), .int 1, .int mm, .int q] : List Value).toArray s 0 0 A) (F0 m 43 ls []) := by
        intro nn84
        induction nn84 with
        | zero => intro x83_4 w83_i_5_5 w83_a_5_1 w83_a_5_2 w83_a_5_3 hx83_4 hw83_a_5_1 hw83_a_5_2 hw83_a_5_3 hm84; exfalso; omega
        | succ nn84 ih84 =>
          intro x83_4 w83_i_5_5 w83_a_5_1 w83_a_5_2 w83_a_5_3 hx83_4 hw83_a_5_1 hw83_a_5_2 hw83_a_5_3 hm84 H locs ls hP hD hS hl
          refine lv_iload hx hb dX5_place_43 (lv_at hl 0 rfl) ?_
          refine lv_iload_n hx hb dX5_place_45 rfl (lv_at hl 3 rfl) ?_
          refine lv_icmp_ge (tgt := 114) hx hb dX5_place_46 (by decide) (fun c85 => ?_) (fun c85 => ?_)
          · have fc85 := z_le (rfl : (mm).toInt = _) (rfl : (x83_4).toInt = _) c85
            have hP9 : va_P (dC, dI) classes (WX h g ca (u2 iv 5 5 w83_i_5_5) lv (u2 (u2 (u2 fa 5 1 w83_a_5_1) 5 2 w83_a_5_2) 5 3 w83_a_5_3) la) H := hP
            have hD9 : va_D A (WX h g ca (u2 iv 5 5 w83_i_5_5) lv (u2 (u2 (u2 fa 5 1 w83_a_5_1) 5 2 w83_a_5_2) 5 3 w83_a_5_3) la) := hD
            exact W.vret hx hb hr (fun t ht9 hW => ⟨⟨((u2 iv 5 5 w83_i_5_5), lv, (u2 (u2 (u2 fa 5 1 w83_a_5_1) 5 2 w83_a_5_2) 5 3 w83_a_5_3), la), rfl, ⟨w83_a_5_1, w83_a_5_2, w83_a_5_3, w83_i_5_5, rfl⟩, by rw [ht9]; exact hP9, hD9⟩, hS.F ht9⟩) hS.2.2 dX5_place_114
          · have fc85 := z_nle (rfl : (mm).toInt = _) (rfl : (x83_4).toInt = _) c85
            refine lv_aload_n hx hb dX5_place_49 rfl (lv_at hl 1 rfl) ?_
            refine gX_5_1 hx hb ht hown hK hP m_336 dX5_place_50 ?_
            refine lv_iload_n hx hb dX5_place_53 rfl (lv_at hl 2 rfl) ?_
            refine lv_iload hx hb dX5_place_54 (lv_at hl 0 rfl) ?_
            refine tX_5_1 hx hb hK hP hD hS (f0 := w83_a_5_1) rfl (i := 1) (x := x83_4) (vp_in_iff.mpr (by decide)) dX5_place_56 (fun f86 ef86 H locs hP hD hS => ?_)
            have hf86 : ∀ j, inb (bA 5 1 j) (f86 j) := fun j => full_i _
            have hP : va_P (dC, dI) classes (WX h g ca (u2 iv 5 5 w83_i_5_5) lv (u2 (u2 (u2 fa 5 1 f86) 5 2 w83_a_5_2) 5 3 w83_a_5_3) la) H := hP
            have hD : va_D A (WX h g ca (u2 iv 5 5 w83_i_5_5) lv (u2 (u2 (u2 fa 5 1 f86) 5 2 w83_a_5_2) 5 3 w83_a_5_3) la) := hD
            refine lv_aload_n hx hb dX5_place_57 rfl (lv_at hl 1 rfl) ?_
            refine gX_5_2 hx hb ht hown hK hP m_337 dX5_place_58 ?_
            refine lv_iload hx hb dX5_place_61 (lv_at hl 0 rfl) ?_
            refine lv_dup2_11 hx hb dX5_place_63 rfl rfl ?_
            refine lX_5_2 hx hb hK hP (f := w83_a_5_2) rfl (vp_in_iff.mpr ⟨by omega, by omega⟩) dX5_place_64 ?_
            refine lv_topi (fun v87 ev87 => ?_)
            refine lv_aload_n hx hb dX5_place_65 rfl (lv_at hl 1 rfl) ?_
            refine gX_5_0 hx hb ht hown hK hP m_335 dX5_place_66 ?_
            refine lv_iload_n hx hb dX5_place_69 rfl (lv_at hl 2 rfl) ?_
            refine lX_5_0 hx hb hK hP (f := (fa 5 0)) rfl (vp_in_iff.mpr (by decide)) dX5_place_70 ?_
            refine lv_topi (fun v88 ev88 => ?_)
            refine lv_iadd hx hb dX5_place_71 ?_
            refine lv_topi (fun v89 ev89 => ?_)
            refine tX_5_2 hx hb hK hP hD hS (f0 := w83_a_5_2) rfl (i := x83_4) (x := v89) (vp_in_iff.mpr ⟨by omega, by omega⟩) dX5_place_72 (fun f90 ef90 H locs hP hD hS => ?_)
            have hf90 : ∀ j, inb (bA 5 2 j) (f90 j) := fun j => full_i _
            have hP : va_P (dC, dI) classes (WX h g ca (u2 iv 5 5 w83_i_5_5) lv (u2 (u2 (u2 fa 5 1 f86) 5 2 f90) 5 3 w83_a_5_3) la) H := hP
            have hD : va_D A (WX h g ca (u2 iv 5 5 w83_i_5_5) lv (u2 (u2 (u2 fa 5 1 f86) 5 2 f90) 5 3 w83_a_5_3) la) := hD
            refine lv_aload_n hx hb dX5_place_73 rfl (lv_at hl 1 rfl) ?_
            refine lv_iload_n hx hb dX5_place_74 rfl (lv_at hl 2 rfl) ?_
            refine lv_iconst (v := 1) hx hb dX5_place_75 (by decide) ?_
            refine lv_iadd hx hb dX5_place_76 ?_
            refine lv_topi (fun v91 ev91 => ?_)
            obtain rfl : 2 = v91 := (ev91.trans (by decide)).symm
            refine lv_iload_n hx hb dX5_place_77 rfl (lv_at hl 3 rfl) ?_
            refine lv_iload_n hx hb dX5_place_78 rfl (lv_at hl 4 rfl) ?_
            refine lv_aload_n hx hb dX5_place_79 rfl (lv_at hl 1 rfl) ?_
            refine gX_5_2 hx hb ht hown hK hP m_337 dX5_place_80 ?_
            refine lv_iload hx hb dX5_place_83 (lv_at hl 0 rfl) ?_
            refine lX_5_2 hx hb hK hP (f := f90) rfl (vp_in_iff.mpr ⟨by omega, by omega⟩) dX5_place_85 ?_
            refine lv_topi (fun v92 ev92 => ?_)
            refine va_mmax hx hb (hml.trans hl.1.symm) hown (ht _ m_1025) (ht _ m_558) (ht _ m_90) (ht _ m_559) (Nat.le_of_ble_eq_true rfl) (Nat.le_of_ble_eq_true rfl) (Nat.le_of_ble_eq_true rfl) (Nat.le_of_ble_eq_true rfl) dX5_place_86 ?_
            refine lv_topi (fun v93 ev93 => ?_)
            have tv93 := mm_or ev93
            have uv93 := mm_max ev93 (rfl : (q).toInt = _) (rfl : (v92).toInt = _)
            have hFc := free_all hD hS hA
            refine va_callv (va_runV (As := [.int 2, .int mm, .int v93]) (rest := []) ⟨hx, hb, hml, hown, ht⟩ (c_X5_place_2 l dC dI H.size h g ca (u2 iv 5 5 w83_i_5_5) lv (u2 (u2 (u2 fa 5 1 f86) 5 2 f90) 5 3 w83_a_5_3) la (IX_a (c := 5) (k := 3) (IX_a (c := 5) (k := 2) (IX_a (c := 5) (k := 1) (IX_i (c := 5) (k := 5) hI (full_i _)) hf86) hf90) hw83_a_5_3) mm v93 ⟨by omega, by omega⟩) (kV 3 ht m_1018 m_1020 m_41 m_86 m_1021 rfl rfl hd_X5_place_v ⟨Nat.le_of_ble_eq_true rfl, Nat.le_of_ble_eq_true rfl⟩) (vW hP hK hD (rX_5 hK hP)) rfl rfl hl.1 rfl (lv_room (Nat.le_of_ble_eq_true rfl)) dX5_place_89 ⟨Nat.le_of_ble_eq_true rfl, Nat.le_of_ble_eq_true rfl⟩) hS (fun q _ h => hFc q h) hFc (fun u t H1 locs ht9 hvm hr94 hB hz1 hk1 hS => ?_)
            obtain ⟨n95, n96, n97, n98, rfl⟩ := hr94
            have hn95 : ∀ j, inb (bA 5 1 j) (n95 j) := fun j => full_i _
            have hn96 : ∀ j, inb (bA 5 2 j) (n96 j) := fun j => full_i _
            have hn97 : ∀ j, inb (bA 5 3 j) (n97 j) := fun j => full_i _
            obtain ⟨hP, hD⟩ := hB
            rw [ht9] at hP
            generalize H1 = H at hP hS ⊢
            have hP : va_P (dC, dI) classes (WX h g ca (u2 iv 5 5 n98) lv (u2 (u2 (u2 fa 5 1 n95) 5 2 n96) 5 3 n97) la) H := hP
            have hD : va_D A (WX h g ca (u2 iv 5 5 n98) lv (u2 (u2 (u2 fa 5 1 n95) 5 2 n96) 5 3 n97) la) := (show va_D _ (WX h g ca (u2 iv 5 5 n98) lv (u2 (u2 (u2 fa 5 1 n95) 5 2 n96) 5 3 n97) la) from hD).weaken (fun _ _ _ h => hFc _ h)
            refine lv_aload_n hx hb dX5_place_92 rfl (lv_at hl 1 rfl) ?_
            refine gX_5_2 hx hb ht hown hK hP m_337 dX5_place_93 ?_
            refine lv_iload hx hb dX5_place_96 (lv_at hl 0 rfl) ?_
            refine lv_dup2_11 hx hb dX5_place_98 rfl rfl ?_
            refine lX_5_2 hx hb hK hP (f := n96) rfl (vp_in_iff.mpr ⟨by omega, by omega⟩) dX5_place_99 ?_
            refine lv_topi (fun v99 ev99 => ?_)
            refine lv_aload_n hx hb dX5_place_100 rfl (lv_at hl 1 rfl) ?_
            refine gX_5_0 hx hb ht hown hK hP m_335 dX5_place_101 ?_
            refine lv_iload_n hx hb dX5_place_104 rfl (lv_at hl 2 rfl) ?_
            refine lX_5_0 hx hb hK hP (f := (fa 5 0)) rfl (vp_in_iff.mpr (by decide)) dX5_place_105 ?_
            refine lv_topi (fun v100 ev100 => ?_)
            obtain rfl : v88 = v100 := ev88.trans ev100.symm
            refine lv_isub hx hb dX5_place_106 ?_
            refine lv_topi (fun v101 ev101 => ?_)
            refine tX_5_2 hx hb hK hP hD hS (f0 := n96) rfl (i := x83_4) (x := v101) (vp_in_iff.mpr ⟨by omega, by omega⟩) dX5_place_107 (fun f102 ef102 H locs hP hD hS => ?_)
            have hf102 : ∀ j, inb (bA 5 2 j) (f102 j) := fun j => full_i _
            have hP : va_P (dC, dI) classes (WX h g ca (u2 iv 5 5 n98) lv (u2 (u2 (u2 fa 5 1 n95) 5 2 f102) 5 3 n97) la) H := hP
            have hD : va_D A (WX h g ca (u2 iv 5 5 n98) lv (u2 (u2 (u2 fa 5 1 n95) 5 2 f102) 5 3 n97) la) := hD
            obtain ⟨v103, ev103⟩ : ∃ y : Int32, y = x83_4 + 1 := ⟨_, rfl⟩
            have tv103 := z_add ev103 rfl (by decide : (1 : Int32).toInt = 1) (by omega) (by omega)
            refine lv_iinc (v := v103) (lv' := [(4, .int v103), (0, .ref (g 11 7)), (1, .int 1), (2, .int mm), (3, .int q)]) hx hb dX5_place_108 hl (k := 0) rfl (by rw [ev103]; rfl) (by decide) rfl (fun ls hl => ?_)
            refine lv_goto (tgt := 43) hx hb dX5_place_111 (by decide) ?_
            exact ih84 v103 n98 n95 f102 n97 ⟨by omega, by omega⟩ hn95 hf102 hn97 (by omega) _ _ ls hP hD hS (lv_sub hl [0, 1, 2, 3, 4] rfl)
      exact lp84 4 0 (iv 5 5) (fa 5 1) (fa 5 2) (fa 5 3) ⟨by decide, by decide⟩ (hI.2 5 1) (hI.2 5 2) (hI.2 5 3) (by first | decide | omega) _ _ ls hP hD hS (lv_sub hl [0, 1, 2, 3, 4] rfl)
    · have fc2 := z_nlt (by decide : (1 : Int32).toInt = 1) (rfl : ((iv 5 4)).toInt = _) c2
      refine lv_aload_n hx hb dX5_place_17 rfl (lv_at hl 0 rfl) ?_
      refine lv_iload_n hx hb dX5_place_18 rfl (lv_at hl 3 rfl) ?_
      refine pX_5_5 (v := q) hx hb ht hown hK hP hD hS m_342 dX5_place_19 (fun H locs hP hD hS => ?_)
      refine lv_aload_n hx hb dX5_place_22 rfl (lv_at hl 0 rfl) ?_
      refine gX_5_1 hx hb ht hown hK hP m_336 dX5_place_23 ?_
      refine lv_iconst (v := 0) hx hb dX5_place_26 (by decide) ?_
      refine lv_aload_n hx hb dX5_place_27 rfl (lv_at hl 0 rfl) ?_
      refine gX_5_3 hx hb ht hown hK hP m_338 dX5_place_28 ?_
      refine lv_iconst (v := 0) hx hb dX5_place_31 (by decide) ?_
      refine lv_aload_n hx hb dX5_place_32 rfl (lv_at hl 0 rfl) ?_
      refine gX_5_4 hx hb ht hown hK hP m_340 (v := (iv 5 4)) rfl dX5_place_33 ?_
      have hn9 : ((iv 5 4) : Int32).toNatClampNeg ≤ 8 := by show ((((iv 5 4) : Int32).toInt).toNat : Nat) ≤ 8; omega
      refine va_copyi (D := (dC, dI)) (ty := .int) (f := (fa 5 1)) (g := (fa 5 3)) hx hb (hml.trans hl.1.symm) hown (ht _ m_1022) (ht _ m_1024) (ht _ m_1023) (ht _ m_95) hK hP hD hS 34 36 21 23 rfl rfl rfl rfl rfl (by decide) (by decide) (fun q9 => by have := Int32.lt_iff_toInt_lt.mp q9; have h0 : (0 : Int32).toInt = 0 := rfl; omega) (by show (0 : Nat) + _ ≤ 8; omega) (by show (0 : Nat) + _ ≤ 8; omega) (fun i hi => rfl) (Nat.le_of_ble_eq_true rfl) (by rw [nfw]; exact Nat.le_of_ble_eq_true rfl) dX5_place_36 (fun H locs hP hD hS => ?_)
      rw [aX_5_3] at hP hD
      obtain ⟨f104, ef104⟩ : ∃ f : Nat → Int32, f = va_cpy (fa 5 1) (fa 5 3) (0 : Int32).toNatClampNeg (0 : Int32).toNatClampNeg ((iv 5 4) : Int32).toNatClampNeg := ⟨_, rfl⟩
      rw [← ef104] at hP hD
      have hf104 : ∀ j, inb (bA 5 3 j) (f104 j) := fun j => full_i _
      have hP9 : va_P (dC, dI) classes (WX h g ca (u2 iv 5 5 q) lv (u2 (u2 (u2 fa 5 1 (fa 5 1)) 5 2 (fa 5 2)) 5 3 f104) la) H := hP
      have hD9 : va_D A (WX h g ca (u2 iv 5 5 q) lv (u2 (u2 (u2 fa 5 1 (fa 5 1)) 5 2 (fa 5 2)) 5 3 f104) la) := hD
      exact W.vret hx hb hr (fun t ht9 hW => ⟨⟨((u2 iv 5 5 q), lv, (u2 (u2 (u2 fa 5 1 (fa 5 1)) 5 2 (fa 5 2)) 5 3 f104), la), rfl, ⟨(fa 5 1), (fa 5 2), f104, q, rfl⟩, by rw [ht9]; exact hP9, hD9⟩, hS.F ht9⟩) hS.2.2 dX5_place_39
  · have fc1 := z_nlt (rfl : (q).toInt = _) (rfl : ((iv 5 5)).toInt = _) c1
    have hP9 : va_P (dC, dI) classes (WX h g ca (u2 iv 5 5 (iv 5 5)) lv (u2 (u2 (u2 fa 5 1 (fa 5 1)) 5 2 (fa 5 2)) 5 3 (fa 5 3)) la) s.heap := hP
    have hD9 : va_D A (WX h g ca (u2 iv 5 5 (iv 5 5)) lv (u2 (u2 (u2 fa 5 1 (fa 5 1)) 5 2 (fa 5 2)) 5 3 (fa 5 3)) la) := hD
    exact W.vret hx hb hr (fun t ht9 hW => ⟨⟨((u2 iv 5 5 (iv 5 5)), lv, (u2 (u2 (u2 fa 5 1 (fa 5 1)) 5 2 (fa 5 2)) 5 3 (fa 5 3)), la), rfl, ⟨(fa 5 1), (fa 5 2), (fa 5 3), (iv 5 5), rfl⟩, by rw [ht9]; exact hP9, hD9⟩, hS.F ht9⟩) hS.2.2 dX5_place_8
set_option maxHeartbeats 4000000 in
set_option maxRecDepth 100000 in
/-- X5_place -/
theorem c_X5_place_0 (l : Launch) (dC : Nat → ClassId) (dI : Nat → Nat → Nat) (sz : Nat) (h : Nat) (g : Nat → Nat → Nat) (ca : Nat → Nat → ClassId) (iv : Nat → Nat → Int32) (lv : Nat → Nat → Int64) (fa : Nat → Nat → Nat → Int32) (la : Nat → Nat → Nat → Int64) (hI : IX iv fa) (mm : Int32) (q : Int32) (h_mm : 1 ≤ mm.toInt ∧ mm.toInt ≤ 3) : Met l yX5_place (wc yX5_place cX5_place 5 none) ({ frames := 9, cells := 0, slots := 0, locals := 252 } : Room) (pW (dC, dI) classes (WX h g ca iv lv fa la) (TX ca) sz [.ref (g 11 7), .int 0, .int mm, .int q]) (va_Qv (fun (u : SS) => ∃ (na_5_1 : Nat → Int32) (na_5_2 : Nat → Int32) (na_5_3 : Nat → Int32) (ni_5_5 : Int32), u = ((u2 iv 5 5 ni_5_5), lv, (u2 (u2 (u2 fa 5 1 na_5_1) 5 2 na_5_2) 5 3 na_5_3), la)) (bX (dC, dI) h g ca (va_A (WX h g ca iv lv fa la) sz)) (va_A (WX h g ca iv lv fa la) sz)) 0 0 (va_A (WX h g ca iv lv fa la) sz) := by
  refine Met.ofW (cc := cX5_place) (maxL := 5) (ret := none) (by decide) rfl ?_
  intro p e s m args below meth c s₁ B hml hv
  obtain ⟨rfl, hsz, hP, hK, hD0⟩ := hv
  have hx := B.exec
  have hb := B.bytes
  have hr := B.returns
  have ht := tb_tl (atoms_spec (ws := wc yX5_place cX5_place 5 none) B.pre)
  have hown : s.vm.findClass RX5 = some m.cls := findClass_of_methodNamed B.named
  have hlocks := B.notSynchronized
  subst hsz
  have hD := hD0.self (sz := s.heap.size)
  generalize hAe : va_A (WX h g ca iv lv fa la) s.heap.size = A at hD ⊢
  have hA : ∀ q : Nat, s.heap.size ≤ q → A q := fun q h => by rw [← hAe]; exact Or.inr h
  have hS : va_S A s.heap s.heap [] := va_S.rf
  have hl := lv_entry [.ref (g 11 7), .int 0, .int mm, .int q] (n := 5) (Nat.le_of_ble_eq_true rfl)
  rw [lg_entry_eq]
  generalize (lg_sl [.ref (g 11 7), .int 0, .int mm, .int q] ++ List.replicate (5 - (lg_sl [.ref (g 11 7), .int 0, .int mm, .int q]).length) Slot.unset).toArray = ls at hl ⊢
  have hl : lv_has ls 5 [(0, .ref (g 11 7)), (1, .int 0), (2, .int mm), (3, .int q)] := hl
  refine lv_iload_n hx hb dX5_place_0 rfl (lv_at hl 3 rfl) ?_
  refine lv_aload_n hx hb dX5_place_1 rfl (lv_at hl 0 rfl) ?_
  refine gX_5_5 hx hb ht hown hK hP m_342 (v := (iv 5 5)) rfl dX5_place_2 ?_
  refine lv_icmp_lt (tgt := 9) hx hb dX5_place_5 (by decide) (fun c1 => ?_) (fun c1 => ?_)
  · have fc1 := z_lt (rfl : (q).toInt = _) (rfl : ((iv 5 5)).toInt = _) c1
    refine lv_iload_n hx hb dX5_place_9 rfl (lv_at hl 1 rfl) ?_
    refine lv_aload_n hx hb dX5_place_10 rfl (lv_at hl 0 rfl) ?_
    have i_5_4 : 0 ≤ (iv 5 4).toInt ∧ (iv 5 4).toInt ≤ 8 := hI.1 5 4
    refine gX_5_4 hx hb ht hown hK hP m_340 (v := (iv 5 4)) rfl dX5_place_11 ?_
    refine lv_icmp_lt (tgt := 40) hx hb dX5_place_14 (by decide) (fun c2 => ?_) (fun c2 => ?_)
    · have fc2 := z_lt (by decide : (0 : Int32).toInt = 0) (rfl : ((iv 5 4)).toInt = _) c2
      refine lv_iconst (v := 0) hx hb dX5_place_40 (by decide) ?_
      refine lv_istore (lv' := [(4, .int 0), (0, .ref (g 11 7)), (1, .int 0), (2, .int mm), (3, .int q)]) hx hb dX5_place_41 hl (by decide) rfl (fun ls hl => ?_)
      have lp84 : ∀ (nn84 : Nat) (x83_4 : Int32) (w83_i_5_5 : Int32) (w83_a_5_1 : Nat → Int32) (w83_a_5_2 : Nat → Int32) (w83_a_5_3 : Nat → Int32), 0 ≤ x83_4.toInt ∧ x83_4.toInt ≤ 3 → (∀ j, inb (bA 5 1 j) (w83_a_5_1 j)) → (∀ j, inb (bA 5 2 j) (w83_a_5_2 j)) → (∀ j, inb (bA 5 3 j) (w83_a_5_3 j)) → 3 - x83_4.toInt < (nn84 : Int) → ∀ (H : Heap) (locs : List Loc), ∀ (ls : Array Slot), va_P (dC, dI) classes (WX h g ca (u2 iv 5 5 w83_i_5_5) lv (u2 (u2 (u2 fa 5 1 w83_a_5_1) 5 2 w83_a_5_2) 5 3 w83_a_5_3) la) H → va_D A (WX h g ca (u2 iv 5 5 w83_i_5_5) lv (u2 (u2 (u2 fa 5 1 w83_a_5_1) 5 2 w83_a_5_2) 5 3 w83_a_5_3) la) → va_S A s.heap H locs → lv_has ls 5 [(4, .int x83_4), (0, .ref (g 11 7)), (1, .int 0), (2, .int mm), (3, .int q)] → W p l e ({ frames := 9, cells := 0, slots := 0, locals := 252 } : Room) s m ([.ref (g 11 7), .int 0, .int mm, .int q] : List Value).toArray below meth c H locs 0 0 (MQ below (va_Qv (fun (u : SS) => ∃ (na_5_1 : Nat → Int32) (na_5_2 : Nat → Int32) (na_5_3 : Nat → Int32) (ni_5_5 : Int32), u = ((u2 iv 5 5 ni_5_5), lv, (u2 (u2 (u2 fa 5 1 na_5_1) 5 2 na_5_2) 5 3 na_5_3), la)) (bX (dC, dI) h g ca A) A) ([.ref (g 11 7), .int 0, .int mm, .int q] : List Value).toArray s 0 0 A) (F0 m 43 ls []) := by
        intro nn84
        induction nn84 with
        | zero => intro x83_4 w83_i_5_5 w83_a_5_1 w83_a_5_2 w83_a_5_3 hx83_4 hw83_a_5_1 hw83_a_5_2 hw83_a_5_3 hm84; exfalso; omega
        | succ nn84 ih84 =>
          intro x83_4 w83_i_5_5 w83_a_5_1 w83_a_5_2 w83_a_5_3 hx83_4 hw83_a_5_1 hw83_a_5_2 hw83_a_5_3 hm84 H locs ls hP hD hS hl
          refine lv_iload hx hb dX5_place_43 (lv_at hl 0 rfl) ?_
          refine lv_iload_n hx hb dX5_place_45 rfl (lv_at hl 3 rfl) ?_
          refine lv_icmp_ge (tgt := 114) hx hb dX5_place_46 (by decide) (fun c85 => ?_) (fun c85 => ?_)
          · have fc85 := z_le (rfl : (mm).toInt = _) (rfl : (x83_4).toInt = _) c85
            have hP9 : va_P (dC, dI) classes (WX h g ca (u2 iv 5 5 w83_i_5_5) lv (u2 (u2 (u2 fa 5 1 w83_a_5_1) 5 2 w83_a_5_2) 5 3 w83_a_5_3) la) H := hP
            have hD9 : va_D A (WX h g ca (u2 iv 5 5 w83_i_5_5) lv (u2 (u2 (u2 fa 5 1 w83_a_5_1) 5 2 w83_a_5_2) 5 3 w83_a_5_3) la) := hD
            exact W.vret hx hb hr (fun t ht9 hW => ⟨⟨((u2 iv 5 5 w83_i_5_5), lv, (u2 (u2 (u2 fa 5 1 w83_a_5_1) 5 2 w83_a_5_2) 5 3 w83_a_5_3), la), rfl, ⟨w83_a_5_1, w83_a_5_2, w83_a_5_3, w83_i_5_5, rfl⟩, by rw [ht9]; exact hP9, hD9⟩, hS.F ht9⟩) hS.2.2 dX5_place_114
          · have fc85 := z_nle (rfl : (mm).toInt = _) (rfl : (x83_4).toInt = _) c85
            refine lv_aload_n hx hb dX5_place_49 rfl (lv_at hl 1 rfl) ?_
            refine gX_5_1 hx hb ht hown hK hP m_336 dX5_place_50 ?_
            refine lv_iload_n hx hb dX5_place_53 rfl (lv_at hl 2 rfl) ?_
            refine lv_iload hx hb dX5_place_54 (lv_at hl 0 rfl) ?_
            refine tX_5_1 hx hb hK hP hD hS (f0 := w83_a_5_1) rfl (i := 0) (x := x83_4) (vp_in_iff.mpr (by decide)) dX5_place_56 (fun f86 ef86 H locs hP hD hS => ?_)
            have hf86 : ∀ j, inb (bA 5 1 j) (f86 j) := fun j => full_i _
            have hP : va_P (dC, dI) classes (WX h g ca (u2 iv 5 5 w83_i_5_5) lv (u2 (u2 (u2 fa 5 1 f86) 5 2 w83_a_5_2) 5 3 w83_a_5_3) la) H := hP
            have hD : va_D A (WX h g ca (u2 iv 5 5 w83_i_5_5) lv (u2 (u2 (u2 fa 5 1 f86) 5 2 w83_a_5_2) 5 3 w83_a_5_3) la) := hD
            refine lv_aload_n hx hb dX5_place_57 rfl (lv_at hl 1 rfl) ?_
            refine gX_5_2 hx hb ht hown hK hP m_337 dX5_place_58 ?_
            refine lv_iload hx hb dX5_place_61 (lv_at hl 0 rfl) ?_
            refine lv_dup2_11 hx hb dX5_place_63 rfl rfl ?_
            refine lX_5_2 hx hb hK hP (f := w83_a_5_2) rfl (vp_in_iff.mpr ⟨by omega, by omega⟩) dX5_place_64 ?_
            refine lv_topi (fun v87 ev87 => ?_)
            refine lv_aload_n hx hb dX5_place_65 rfl (lv_at hl 1 rfl) ?_
            refine gX_5_0 hx hb ht hown hK hP m_335 dX5_place_66 ?_
            refine lv_iload_n hx hb dX5_place_69 rfl (lv_at hl 2 rfl) ?_
            refine lX_5_0 hx hb hK hP (f := (fa 5 0)) rfl (vp_in_iff.mpr (by decide)) dX5_place_70 ?_
            refine lv_topi (fun v88 ev88 => ?_)
            refine lv_iadd hx hb dX5_place_71 ?_
            refine lv_topi (fun v89 ev89 => ?_)
            refine tX_5_2 hx hb hK hP hD hS (f0 := w83_a_5_2) rfl (i := x83_4) (x := v89) (vp_in_iff.mpr ⟨by omega, by omega⟩) dX5_place_72 (fun f90 ef90 H locs hP hD hS => ?_)
            have hf90 : ∀ j, inb (bA 5 2 j) (f90 j) := fun j => full_i _
            have hP : va_P (dC, dI) classes (WX h g ca (u2 iv 5 5 w83_i_5_5) lv (u2 (u2 (u2 fa 5 1 f86) 5 2 f90) 5 3 w83_a_5_3) la) H := hP
            have hD : va_D A (WX h g ca (u2 iv 5 5 w83_i_5_5) lv (u2 (u2 (u2 fa 5 1 f86) 5 2 f90) 5 3 w83_a_5_3) la) := hD
            refine lv_aload_n hx hb dX5_place_73 rfl (lv_at hl 1 rfl) ?_
            refine lv_iload_n hx hb dX5_place_74 rfl (lv_at hl 2 rfl) ?_
            refine lv_iconst (v := 1) hx hb dX5_place_75 (by decide) ?_
            refine lv_iadd hx hb dX5_place_76 ?_
            refine lv_topi (fun v91 ev91 => ?_)
            obtain rfl : 1 = v91 := (ev91.trans (by decide)).symm
            refine lv_iload_n hx hb dX5_place_77 rfl (lv_at hl 3 rfl) ?_
            refine lv_iload_n hx hb dX5_place_78 rfl (lv_at hl 4 rfl) ?_
            refine lv_aload_n hx hb dX5_place_79 rfl (lv_at hl 1 rfl) ?_
            refine gX_5_2 hx hb ht hown hK hP m_337 dX5_place_80 ?_
            refine lv_iload hx hb dX5_place_83 (lv_at hl 0 rfl) ?_
            refine lX_5_2 hx hb hK hP (f := f90) rfl (vp_in_iff.mpr ⟨by omega, by omega⟩) dX5_place_85 ?_
            refine lv_topi (fun v92 ev92 => ?_)
            refine va_mmax hx hb (hml.trans hl.1.symm) hown (ht _ m_1025) (ht _ m_558) (ht _ m_90) (ht _ m_559) (Nat.le_of_ble_eq_true rfl) (Nat.le_of_ble_eq_true rfl) (Nat.le_of_ble_eq_true rfl) (Nat.le_of_ble_eq_true rfl) dX5_place_86 ?_
            refine lv_topi (fun v93 ev93 => ?_)
            have tv93 := mm_or ev93
            have uv93 := mm_max ev93 (rfl : (q).toInt = _) (rfl : (v92).toInt = _)
            have hFc := free_all hD hS hA
            refine va_callv (va_runV (As := [.int 1, .int mm, .int v93]) (rest := []) ⟨hx, hb, hml, hown, ht⟩ (c_X5_place_1 l dC dI H.size h g ca (u2 iv 5 5 w83_i_5_5) lv (u2 (u2 (u2 fa 5 1 f86) 5 2 f90) 5 3 w83_a_5_3) la (IX_a (c := 5) (k := 3) (IX_a (c := 5) (k := 2) (IX_a (c := 5) (k := 1) (IX_i (c := 5) (k := 5) hI (full_i _)) hf86) hf90) hw83_a_5_3) mm v93 ⟨by omega, by omega⟩) (kV 3 ht m_1018 m_1020 m_41 m_86 m_1021 rfl rfl hd_X5_place_v ⟨Nat.le_of_ble_eq_true rfl, Nat.le_of_ble_eq_true rfl⟩) (vW hP hK hD (rX_5 hK hP)) rfl rfl hl.1 rfl (lv_room (Nat.le_of_ble_eq_true rfl)) dX5_place_89 ⟨Nat.le_of_ble_eq_true rfl, Nat.le_of_ble_eq_true rfl⟩) hS (fun q _ h => hFc q h) hFc (fun u t H1 locs ht9 hvm hr94 hB hz1 hk1 hS => ?_)
            obtain ⟨n95, n96, n97, n98, rfl⟩ := hr94
            have hn95 : ∀ j, inb (bA 5 1 j) (n95 j) := fun j => full_i _
            have hn96 : ∀ j, inb (bA 5 2 j) (n96 j) := fun j => full_i _
            have hn97 : ∀ j, inb (bA 5 3 j) (n97 j) := fun j => full_i _
            obtain ⟨hP, hD⟩ := hB
            rw [ht9] at hP
            generalize H1 = H at hP hS ⊢
            have hP : va_P (dC, dI) classes (WX h g ca (u2 iv 5 5 n98) lv (u2 (u2 (u2 fa 5 1 n95) 5 2 n96) 5 3 n97) la) H := hP
            have hD : va_D A (WX h g ca (u2 iv 5 5 n98) lv (u2 (u2 (u2 fa 5 1 n95) 5 2 n96) 5 3 n97) la) := (show va_D _ (WX h g ca (u2 iv 5 5 n98) lv (u2 (u2 (u2 fa 5 1 n95) 5 2 n96) 5 3 n97) la) from hD).weaken (fun _ _ _ h => hFc _ h)
            refine lv_aload_n hx hb dX5_place_92 rfl (lv_at hl 1 rfl) ?_
            refine gX_5_2 hx hb ht hown hK hP m_337 dX5_place_93 ?_
            refine lv_iload hx hb dX5_place_96 (lv_at hl 0 rfl) ?_
            refine lv_dup2_11 hx hb dX5_place_98 rfl rfl ?_
            refine lX_5_2 hx hb hK hP (f := n96) rfl (vp_in_iff.mpr ⟨by omega, by omega⟩) dX5_place_99 ?_
            refine lv_topi (fun v99 ev99 => ?_)
            refine lv_aload_n hx hb dX5_place_100 rfl (lv_at hl 1 rfl) ?_
            refine gX_5_0 hx hb ht hown hK hP m_335 dX5_place_101 ?_
            refine lv_iload_n hx hb dX5_place_104 rfl (lv_at hl 2 rfl) ?_
            refine lX_5_0 hx hb hK hP (f := (fa 5 0)) rfl (vp_in_iff.mpr (by decide)) dX5_place_105 ?_
            refine lv_topi (fun v100 ev100 => ?_)
            obtain rfl : v88 = v100 := ev88.trans ev100.symm
            refine lv_isub hx hb dX5_place_106 ?_
            refine lv_topi (fun v101 ev101 => ?_)
            refine tX_5_2 hx hb hK hP hD hS (f0 := n96) rfl (i := x83_4) (x := v101) (vp_in_iff.mpr ⟨by omega, by omega⟩) dX5_place_107 (fun f102 ef102 H locs hP hD hS => ?_)
            have hf102 : ∀ j, inb (bA 5 2 j) (f102 j) := fun j => full_i _
            have hP : va_P (dC, dI) classes (WX h g ca (u2 iv 5 5 n98) lv (u2 (u2 (u2 fa 5 1 n95) 5 2 f102) 5 3 n97) la) H := hP
            have hD : va_D A (WX h g ca (u2 iv 5 5 n98) lv (u2 (u2 (u2 fa 5 1 n95) 5 2 f102) 5 3 n97) la) := hD
            obtain ⟨v103, ev103⟩ : ∃ y : Int32, y = x83_4 + 1 := ⟨_, rfl⟩
            have tv103 := z_add ev103 rfl (by decide : (1 : Int32).toInt = 1) (by omega) (by omega)
            refine lv_iinc (v := v103) (lv' := [(4, .int v103), (0, .ref (g 11 7)), (1, .int 0), (2, .int mm), (3, .int q)]) hx hb dX5_place_108 hl (k := 0) rfl (by rw [ev103]; rfl) (by decide) rfl (fun ls hl => ?_)
            refine lv_goto (tgt := 43) hx hb dX5_place_111 (by decide) ?_
            exact ih84 v103 n98 n95 f102 n97 ⟨by omega, by omega⟩ hn95 hf102 hn97 (by omega) _ _ ls hP hD hS (lv_sub hl [0, 1, 2, 3, 4] rfl)
      exact lp84 4 0 (iv 5 5) (fa 5 1) (fa 5 2) (fa 5 3) ⟨by decide, by decide⟩ (hI.2 5 1) (hI.2 5 2) (hI.2 5 3) (by first | decide | omega) _ _ ls hP hD hS (lv_sub hl [0, 1, 2, 3, 4] rfl)
    · have fc2 := z_nlt (by decide : (0 : Int32).toInt = 0) (rfl : ((iv 5 4)).toInt = _) c2
      refine lv_aload_n hx hb dX5_place_17 rfl (lv_at hl 0 rfl) ?_
      refine lv_iload_n hx hb dX5_place_18 rfl (lv_at hl 3 rfl) ?_
      refine pX_5_5 (v := q) hx hb ht hown hK hP hD hS m_342 dX5_place_19 (fun H locs hP hD hS => ?_)
      refine lv_aload_n hx hb dX5_place_22 rfl (lv_at hl 0 rfl) ?_
      refine gX_5_1 hx hb ht hown hK hP m_336 dX5_place_23 ?_
      refine lv_iconst (v := 0) hx hb dX5_place_26 (by decide) ?_
      refine lv_aload_n hx hb dX5_place_27 rfl (lv_at hl 0 rfl) ?_
      refine gX_5_3 hx hb ht hown hK hP m_338 dX5_place_28 ?_
      refine lv_iconst (v := 0) hx hb dX5_place_31 (by decide) ?_
      refine lv_aload_n hx hb dX5_place_32 rfl (lv_at hl 0 rfl) ?_
      refine gX_5_4 hx hb ht hown hK hP m_340 (v := (iv 5 4)) rfl dX5_place_33 ?_
      have hn9 : ((iv 5 4) : Int32).toNatClampNeg ≤ 8 := by show ((((iv 5 4) : Int32).toInt).toNat : Nat) ≤ 8; omega
      refine va_copyi (D := (dC, dI)) (ty := .int) (f := (fa 5 1)) (g := (fa 5 3)) hx hb (hml.trans hl.1.symm) hown (ht _ m_1022) (ht _ m_1024) (ht _ m_1023) (ht _ m_95) hK hP hD hS 34 36 21 23 rfl rfl rfl rfl rfl (by decide) (by decide) (fun q9 => by have := Int32.lt_iff_toInt_lt.mp q9; have h0 : (0 : Int32).toInt = 0 := rfl; omega) (by show (0 : Nat) + _ ≤ 8; omega) (by show (0 : Nat) + _ ≤ 8; omega) (fun i hi => rfl) (Nat.le_of_ble_eq_true rfl) (by rw [nfw]; exact Nat.le_of_ble_eq_true rfl) dX5_place_36 (fun H locs hP hD hS => ?_)
      rw [aX_5_3] at hP hD
      obtain ⟨f104, ef104⟩ : ∃ f : Nat → Int32, f = va_cpy (fa 5 1) (fa 5 3) (0 : Int32).toNatClampNeg (0 : Int32).toNatClampNeg ((iv 5 4) : Int32).toNatClampNeg := ⟨_, rfl⟩
      rw [← ef104] at hP hD
      have hf104 : ∀ j, inb (bA 5 3 j) (f104 j) := fun j => full_i _
      have hP9 : va_P (dC, dI) classes (WX h g ca (u2 iv 5 5 q) lv (u2 (u2 (u2 fa 5 1 (fa 5 1)) 5 2 (fa 5 2)) 5 3 f104) la) H := hP
      have hD9 : va_D A (WX h g ca (u2 iv 5 5 q) lv (u2 (u2 (u2 fa 5 1 (fa 5 1)) 5 2 (fa 5 2)) 5 3 f104) la) := hD
      exact W.vret hx hb hr (fun t ht9 hW => ⟨⟨((u2 iv 5 5 q), lv, (u2 (u2 (u2 fa 5 1 (fa 5 1)) 5 2 (fa 5 2)) 5 3 f104), la), rfl, ⟨(fa 5 1), (fa 5 2), f104, q, rfl⟩, by rw [ht9]; exact hP9, hD9⟩, hS.F ht9⟩) hS.2.2 dX5_place_39
  · have fc1 := z_nlt (rfl : (q).toInt = _) (rfl : ((iv 5 5)).toInt = _) c1
    have hP9 : va_P (dC, dI) classes (WX h g ca (u2 iv 5 5 (iv 5 5)) lv (u2 (u2 (u2 fa 5 1 (fa 5 1)) 5 2 (fa 5 2)) 5 3 (fa 5 3)) la) s.heap := hP
    have hD9 : va_D A (WX h g ca (u2 iv 5 5 (iv 5 5)) lv (u2 (u2 (u2 fa 5 1 (fa 5 1)) 5 2 (fa 5 2)) 5 3 (fa 5 3)) la) := hD
    exact W.vret hx hb hr (fun t ht9 hW => ⟨⟨((u2 iv 5 5 (iv 5 5)), lv, (u2 (u2 (u2 fa 5 1 (fa 5 1)) 5 2 (fa 5 2)) 5 3 (fa 5 3)), la), rfl, ⟨(fa 5 1), (fa 5 2), (fa 5 3), (iv 5 5), rfl⟩, by rw [ht9]; exact hP9, hD9⟩, hS.F ht9⟩) hS.2.2 dX5_place_8
set_option maxHeartbeats 4000000 in
set_option maxRecDepth 100000 in
/-- X5_arrange -/
theorem c_X5_arrange (l : Launch) (dC : Nat → ClassId) (dI : Nat → Nat → Nat) (sz : Nat) (h : Nat) (g : Nat → Nat → Nat) (ca : Nat → Nat → ClassId) (iv : Nat → Nat → Int32) (lv : Nat → Nat → Int64) (fa : Nat → Nat → Nat → Int32) (la : Nat → Nat → Nat → Int64) (hI : IX iv fa) (mm : Int32) (h_mm : 1 ≤ mm.toInt ∧ mm.toInt ≤ 3) : Met l yX5_arrange (wc yX5_arrange cX5_arrange 2 none) ({ frames := 10, cells := 0, slots := 0, locals := 276 } : Room) (pW (dC, dI) classes (WX h g ca iv lv fa la) (TX ca) sz [.ref (g 11 7), .int mm]) (va_Qv (fun (u : SS) => ∃ (na_5_1 : Nat → Int32) (na_5_2 : Nat → Int32) (na_5_3 : Nat → Int32) (ni_5_5 : Int32) (ni_5_6 : Int32), u = ((u2 (u2 iv 5 5 ni_5_5) 5 6 ni_5_6), lv, (u2 (u2 (u2 fa 5 1 na_5_1) 5 2 na_5_2) 5 3 na_5_3), la)) (bX (dC, dI) h g ca (va_A (WX h g ca iv lv fa la) sz)) (va_A (WX h g ca iv lv fa la) sz)) 0 0 (va_A (WX h g ca iv lv fa la) sz) := by
  refine Met.ofW (cc := cX5_arrange) (maxL := 2) (ret := none) (by decide) rfl ?_
  intro p e s m args below meth c s₁ B hml hv
  obtain ⟨rfl, hsz, hP, hK, hD0⟩ := hv
  have hx := B.exec
  have hb := B.bytes
  have hr := B.returns
  have ht := tb_tl (atoms_spec (ws := wc yX5_arrange cX5_arrange 2 none) B.pre)
  have hown : s.vm.findClass RX5 = some m.cls := findClass_of_methodNamed B.named
  have hlocks := B.notSynchronized
  subst hsz
  have hD := hD0.self (sz := s.heap.size)
  generalize hAe : va_A (WX h g ca iv lv fa la) s.heap.size = A at hD ⊢
  have hA : ∀ q : Nat, s.heap.size ≤ q → A q := fun q h => by rw [← hAe]; exact Or.inr h
  have hS : va_S A s.heap s.heap [] := va_S.rf
  have hl := lv_entry [.ref (g 11 7), .int mm] (n := 2) (Nat.le_of_ble_eq_true rfl)
  rw [lg_entry_eq]
  generalize (lg_sl [.ref (g 11 7), .int mm] ++ List.replicate (2 - (lg_sl [.ref (g 11 7), .int mm]).length) Slot.unset).toArray = ls at hl ⊢
  have hl : lv_has ls 2 [(0, .ref (g 11 7)), (1, .int mm)] := hl
  refine lv_iload_n hx hb dX5_arrange_0 rfl (lv_at hl 1 rfl) ?_
  refine lv_aload_n hx hb dX5_arrange_1 rfl (lv_at hl 0 rfl) ?_
  refine gX_5_6 hx hb ht hown hK hP m_344 (v := (iv 5 6)) rfl dX5_arrange_2 ?_
  refine lv_icmp_ne (tgt := 9) hx hb dX5_arrange_5 (by decide) (fun c1 => ?_) (fun c1 => ?_)
  · have fc1 := z_ne (rfl : (mm).toInt = _) (rfl : ((iv 5 6)).toInt = _) c1
    refine lv_aload_n hx hb dX5_arrange_9 rfl (lv_at hl 0 rfl) ?_
    refine lv_ldc hx hb hown (ht _ m_1017) dX5_arrange_10 ?_
    refine pX_5_5 (v := 1000000) hx hb ht hown hK hP hD hS m_342 dX5_arrange_12 (fun H locs hP hD hS => ?_)
    refine lv_aload_n hx hb dX5_arrange_15 rfl (lv_at hl 0 rfl) ?_
    refine lv_iconst (v := 0) hx hb dX5_arrange_16 (by decide) ?_
    refine lv_iload_n hx hb dX5_arrange_17 rfl (lv_at hl 1 rfl) ?_
    refine lv_iconst (v := 0) hx hb dX5_arrange_18 (by decide) ?_
    have hFc := free_all hD hS hA
    refine va_callv (va_runV (As := [.int 0, .int mm, .int 0]) (rest := []) ⟨hx, hb, hml, hown, ht⟩ (c_X5_place_0 l dC dI H.size h g ca (u2 iv 5 5 1000000) lv fa la (IX_i (c := 5) (k := 5) hI (full_i _)) mm 0 ⟨by omega, by omega⟩) (kV 3 ht m_1018 m_1020 m_41 m_86 m_1021 rfl rfl hd_X5_place_v ⟨Nat.le_of_ble_eq_true rfl, Nat.le_of_ble_eq_true rfl⟩) (vW hP hK hD (rX_5 hK hP)) rfl rfl hl.1 rfl (lv_room (Nat.le_of_ble_eq_true rfl)) dX5_arrange_19 ⟨Nat.le_of_ble_eq_true rfl, Nat.le_of_ble_eq_true rfl⟩) hS (fun q _ h => hFc q h) hFc (fun u t H1 locs ht9 hvm hr2 hB hz1 hk1 hS => ?_)
    obtain ⟨n3, n4, n5, n6, rfl⟩ := hr2
    have hn3 : ∀ j, inb (bA 5 1 j) (n3 j) := fun j => full_i _
    have hn4 : ∀ j, inb (bA 5 2 j) (n4 j) := fun j => full_i _
    have hn5 : ∀ j, inb (bA 5 3 j) (n5 j) := fun j => full_i _
    obtain ⟨hP, hD⟩ := hB
    rw [ht9] at hP
    generalize H1 = H at hP hS ⊢
    have hP : va_P (dC, dI) classes (WX h g ca (u2 iv 5 5 n6) lv (u2 (u2 (u2 fa 5 1 n3) 5 2 n4) 5 3 n5) la) H := hP
    have hD : va_D A (WX h g ca (u2 iv 5 5 n6) lv (u2 (u2 (u2 fa 5 1 n3) 5 2 n4) 5 3 n5) la) := (show va_D _ (WX h g ca (u2 iv 5 5 n6) lv (u2 (u2 (u2 fa 5 1 n3) 5 2 n4) 5 3 n5) la) from hD).weaken (fun _ _ _ h => hFc _ h)
    refine lv_aload_n hx hb dX5_arrange_22 rfl (lv_at hl 0 rfl) ?_
    refine lv_iload_n hx hb dX5_arrange_23 rfl (lv_at hl 1 rfl) ?_
    refine pX_5_6 (v := mm) hx hb ht hown hK hP hD hS m_344 dX5_arrange_24 (fun H locs hP hD hS => ?_)
    have hP9 : va_P (dC, dI) classes (WX h g ca (u2 (u2 iv 5 5 n6) 5 6 mm) lv (u2 (u2 (u2 fa 5 1 n3) 5 2 n4) 5 3 n5) la) H := hP
    have hD9 : va_D A (WX h g ca (u2 (u2 iv 5 5 n6) 5 6 mm) lv (u2 (u2 (u2 fa 5 1 n3) 5 2 n4) 5 3 n5) la) := hD
    exact W.vret hx hb hr (fun t ht9 hW => ⟨⟨((u2 (u2 iv 5 5 n6) 5 6 mm), lv, (u2 (u2 (u2 fa 5 1 n3) 5 2 n4) 5 3 n5), la), rfl, ⟨n3, n4, n5, n6, mm, rfl⟩, by rw [ht9]; exact hP9, hD9⟩, hS.F ht9⟩) hS.2.2 dX5_arrange_27
  · have fc1 := z_eq (rfl : (mm).toInt = _) (rfl : ((iv 5 6)).toInt = _) c1
    have hP9 : va_P (dC, dI) classes (WX h g ca (u2 (u2 iv 5 5 (iv 5 5)) 5 6 (iv 5 6)) lv (u2 (u2 (u2 fa 5 1 (fa 5 1)) 5 2 (fa 5 2)) 5 3 (fa 5 3)) la) s.heap := hP
    have hD9 : va_D A (WX h g ca (u2 (u2 iv 5 5 (iv 5 5)) 5 6 (iv 5 6)) lv (u2 (u2 (u2 fa 5 1 (fa 5 1)) 5 2 (fa 5 2)) 5 3 (fa 5 3)) la) := hD
    exact W.vret hx hb hr (fun t ht9 hW => ⟨⟨((u2 (u2 iv 5 5 (iv 5 5)) 5 6 (iv 5 6)), lv, (u2 (u2 (u2 fa 5 1 (fa 5 1)) 5 2 (fa 5 2)) 5 3 (fa 5 3)), la), rfl, ⟨(fa 5 1), (fa 5 2), (fa 5 3), (iv 5 5), (iv 5 6), rfl⟩, by rw [ht9]; exact hP9, hD9⟩, hS.F ht9⟩) hS.2.2 dX5_arrange_8
