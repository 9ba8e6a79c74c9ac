/-! ===== n9b ===== -/
set_option maxRecDepth 100000 in
theorem m_58 : Cond.selects RX12 yX12_stateOf yX12_stateOf ∈ tb := tb_in 58 (by decide +kernel) rfl
set_option maxRecDepth 100000 in
theorem m_63 : Cond.selects RX12 yX12_findLawful yX12_findLawful ∈ tb := tb_in 63 (by decide +kernel) rfl
set_option maxRecDepth 100000 in
theorem m_75 : Cond.selects RX12 yX12_balesIn yX12_balesIn ∈ tb := tb_in 75 (by decide +kernel) rfl
theorem m_1532 : Cond.methodLink RX12 353 yX12_stateOf ∈ tb := mb_7_0 _ (List.mem_of_getElem? (i := 15) rfl)
theorem m_1534 : Cond.instanceMethod yX12_stateOf ∈ tb := mb_7_0 _ (List.mem_of_getElem? (i := 16) rfl)
theorem m_1535 : Cond.code yX12_stateOf cX12_stateOf 10 (some .int) ∈ tb := mb_7_0 _ (List.mem_of_getElem? (i := 17) rfl)
theorem m_1560 : Cond.constantLong RX12 362 (-100001) ∈ tb := mb_7_1 _ (List.mem_of_getElem? (i := 14) rfl)
theorem m_1562 : Cond.constantLong RX12 366 (-100003) ∈ tb := mb_7_1 _ (List.mem_of_getElem? (i := 16) rfl)
theorem m_1563 : Cond.methodLink RX12 368 yX12_findLawful ∈ tb := mb_7_1 _ (List.mem_of_getElem? (i := 17) rfl)
theorem m_1565 : Cond.instanceMethod yX12_findLawful ∈ tb := mb_7_1 _ (List.mem_of_getElem? (i := 18) rfl)
theorem m_1566 : Cond.code yX12_findLawful cX12_findLawful 23 none ∈ tb := mb_7_1 _ (List.mem_of_getElem? (i := 19) rfl)
theorem m_1712 : Cond.methodLink RX12 442 yX12_balesIn ∈ tb := mb_7_7 _ (List.mem_of_getElem? (i := 10) rfl)
theorem m_1714 : Cond.instanceMethod yX12_balesIn ∈ tb := mb_7_7 _ (List.mem_of_getElem? (i := 11) rfl)
theorem m_1715 : Cond.code yX12_balesIn cX12_balesIn 4 (some .int) ∈ tb := mb_7_7 _ (List.mem_of_getElem? (i := 12) rfl)
theorem hd_X12_balesIn_v : yX12_balesIn.cls = RX12 ∧ yX12_balesIn.cls ≠ "java/lang/invoke/MethodHandle" ∧ yX12_balesIn.cls ≠ "java/lang/invoke/VarHandle" ∧ (parseMethodDescriptor yX12_balesIn.desc).map (fun d => d.parameters.length) = some 1 := by decide +kernel
theorem hd_X12_findLawful_v : yX12_findLawful.cls = RX12 ∧ yX12_findLawful.cls ≠ "java/lang/invoke/MethodHandle" ∧ yX12_findLawful.cls ≠ "java/lang/invoke/VarHandle" ∧ (parseMethodDescriptor yX12_findLawful.desc).map (fun d => d.parameters.length) = some 4 := by decide +kernel
theorem hd_X12_stateOf_v : yX12_stateOf.cls = RX12 ∧ yX12_stateOf.cls ≠ "java/lang/invoke/MethodHandle" ∧ yX12_stateOf.cls ≠ "java/lang/invoke/VarHandle" ∧ (parseMethodDescriptor yX12_stateOf.desc).map (fun d => d.parameters.length) = some 2 := by decide +kernel
set_option maxRecDepth 100000 in
theorem dvX12_balesIn_0 : ([(0, .iconst 0, 1), (1, .istore_n 2, 1), (2, .iconst 0, 1), (3, .istore_n 3, 1), (4, .iload_n 3, 1), (5, .aload_n 0, 1), (6, .getfield 164, 3), (9, .if_icmp .ge 33, 3), (12, .iload_n 2, 1), (13, .aload_n 0, 1), (14, .iload_n 3, 1), (15, .aload_n 0, 1), (16, .getfield 171, 3), (19, .invokevirtual 353, 3), (22, .iload_n 1, 1), (23, .if_icmp .ne 7, 3), (26, .iconst 1, 1), (27, .goto 4, 3), (30, .iconst 0, 1), (31, .invokestatic 203, 3), (34, .iadd, 1), (35, .istore_n 2, 1), (36, .iinc 3 1, 3), (39, .goto (-35), 3)] : List (Nat × Instr × Nat)).all (fun q => decide (decode cX12_balesIn q.1 = .ok (q.2.1, q.2.2))) = true := by decide +kernel
theorem dX12_balesIn_0 : decode cX12_balesIn 0 = .ok (.iconst 0, 1) := all_at dvX12_balesIn_0 0 rfl
theorem dX12_balesIn_1 : decode cX12_balesIn 1 = .ok (.istore_n 2, 1) := all_at dvX12_balesIn_0 1 rfl
theorem dX12_balesIn_2 : decode cX12_balesIn 2 = .ok (.iconst 0, 1) := all_at dvX12_balesIn_0 2 rfl
theorem dX12_balesIn_3 : decode cX12_balesIn 3 = .ok (.istore_n 3, 1) := all_at dvX12_balesIn_0 3 rfl
theorem dX12_balesIn_4 : decode cX12_balesIn 4 = .ok (.iload_n 3, 1) := all_at dvX12_balesIn_0 4 rfl
theorem dX12_balesIn_5 : decode cX12_balesIn 5 = .ok (.aload_n 0, 1) := all_at dvX12_balesIn_0 5 rfl
theorem dX12_balesIn_6 : decode cX12_balesIn 6 = .ok (.getfield 164, 3) := all_at dvX12_balesIn_0 6 rfl
theorem dX12_balesIn_9 : decode cX12_balesIn 9 = .ok (.if_icmp .ge 33, 3) := all_at dvX12_balesIn_0 7 rfl
theorem dX12_balesIn_12 : decode cX12_balesIn 12 = .ok (.iload_n 2, 1) := all_at dvX12_balesIn_0 8 rfl
theorem dX12_balesIn_13 : decode cX12_balesIn 13 = .ok (.aload_n 0, 1) := all_at dvX12_balesIn_0 9 rfl
theorem dX12_balesIn_14 : decode cX12_balesIn 14 = .ok (.iload_n 3, 1) := all_at dvX12_balesIn_0 10 rfl
theorem dX12_balesIn_15 : decode cX12_balesIn 15 = .ok (.aload_n 0, 1) := all_at dvX12_balesIn_0 11 rfl
theorem dX12_balesIn_16 : decode cX12_balesIn 16 = .ok (.getfield 171, 3) := all_at dvX12_balesIn_0 12 rfl
theorem dX12_balesIn_19 : decode cX12_balesIn 19 = .ok (.invokevirtual 353, 3) := all_at dvX12_balesIn_0 13 rfl
theorem dX12_balesIn_22 : decode cX12_balesIn 22 = .ok (.iload_n 1, 1) := all_at dvX12_balesIn_0 14 rfl
theorem dX12_balesIn_23 : decode cX12_balesIn 23 = .ok (.if_icmp .ne 7, 3) := all_at dvX12_balesIn_0 15 rfl
theorem dX12_balesIn_26 : decode cX12_balesIn 26 = .ok (.iconst 1, 1) := all_at dvX12_balesIn_0 16 rfl
theorem dX12_balesIn_27 : decode cX12_balesIn 27 = .ok (.goto 4, 3) := all_at dvX12_balesIn_0 17 rfl
theorem dX12_balesIn_30 : decode cX12_balesIn 30 = .ok (.iconst 0, 1) := all_at dvX12_balesIn_0 18 rfl
theorem dX12_balesIn_31 : decode cX12_balesIn 31 = .ok (.invokestatic 203, 3) := all_at dvX12_balesIn_0 19 rfl
theorem dX12_balesIn_34 : decode cX12_balesIn 34 = .ok (.iadd, 1) := all_at dvX12_balesIn_0 20 rfl
theorem dX12_balesIn_35 : decode cX12_balesIn 35 = .ok (.istore_n 2, 1) := all_at dvX12_balesIn_0 21 rfl
theorem dX12_balesIn_36 : decode cX12_balesIn 36 = .ok (.iinc 3 1, 3) := all_at dvX12_balesIn_0 22 rfl
theorem dX12_balesIn_39 : decode cX12_balesIn 39 = .ok (.goto (-35), 3) := all_at dvX12_balesIn_0 23 rfl
theorem dX12_balesIn_42 : decode cX12_balesIn 42 = .ok (.iload_n 2, 1) := by decide +kernel
theorem dX12_balesIn_43 : decode cX12_balesIn 43 = .ok (.ireturn, 1) := by decide +kernel
set_option maxRecDepth 100000 in
theorem dvX12_certify_0 : ([(0, .aload_n 0, 1), (1, .iload_n 1, 1), (2, .invokevirtual 183, 3), (5, .ifCond .eq 6, 3), (8, .ldc 187, 2), (10, .ireturn, 1), (11, .iconst 0, 1), (12, .istore_n 2, 1), (13, .iconst 0, 1), (14, .istore_n 3, 1), (15, .iload_n 3, 1), (16, .aload_n 0, 1), (17, .getfield 429, 3), (20, .if_icmp .ge 47, 3), (23, .iload_n 2, 1), (24, .ifCond .ne 31, 3), (27, .aload_n 0, 1), (28, .getfield 139, 3), (31, .iload_n 3, 1), (32, .iaload, 1), (33, .ifCond .ne 26, 3), (36, .aload_n 0, 1), (37, .getfield 142, 3), (40, .iload_n 3, 1)] : List (Nat × Instr × Nat)).all (fun q => decide (decode cX12_certify q.1 = .ok (q.2.1, q.2.2))) = true := by decide +kernel
theorem dX12_certify_0 : decode cX12_certify 0 = .ok (.aload_n 0, 1) := all_at dvX12_certify_0 0 rfl
theorem dX12_certify_1 : decode cX12_certify 1 = .ok (.iload_n 1, 1) := all_at dvX12_certify_0 1 rfl
theorem dX12_certify_2 : decode cX12_certify 2 = .ok (.invokevirtual 183, 3) := all_at dvX12_certify_0 2 rfl
theorem dX12_certify_5 : decode cX12_certify 5 = .ok (.ifCond .eq 6, 3) := all_at dvX12_certify_0 3 rfl
theorem dX12_certify_8 : decode cX12_certify 8 = .ok (.ldc 187, 2) := all_at dvX12_certify_0 4 rfl
theorem dX12_certify_10 : decode cX12_certify 10 = .ok (.ireturn, 1) := all_at dvX12_certify_0 5 rfl
theorem dX12_certify_11 : decode cX12_certify 11 = .ok (.iconst 0, 1) := all_at dvX12_certify_0 6 rfl
theorem dX12_certify_12 : decode cX12_certify 12 = .ok (.istore_n 2, 1) := all_at dvX12_certify_0 7 rfl
theorem dX12_certify_13 : decode cX12_certify 13 = .ok (.iconst 0, 1) := all_at dvX12_certify_0 8 rfl
theorem dX12_certify_14 : decode cX12_certify 14 = .ok (.istore_n 3, 1) := all_at dvX12_certify_0 9 rfl
theorem dX12_certify_15 : decode cX12_certify 15 = .ok (.iload_n 3, 1) := all_at dvX12_certify_0 10 rfl
theorem dX12_certify_16 : decode cX12_certify 16 = .ok (.aload_n 0, 1) := all_at dvX12_certify_0 11 rfl
theorem dX12_certify_17 : decode cX12_certify 17 = .ok (.getfield 429, 3) := all_at dvX12_certify_0 12 rfl
theorem dX12_certify_20 : decode cX12_certify 20 = .ok (.if_icmp .ge 47, 3) := all_at dvX12_certify_0 13 rfl
theorem dX12_certify_23 : decode cX12_certify 23 = .ok (.iload_n 2, 1) := all_at dvX12_certify_0 14 rfl
theorem dX12_certify_24 : decode cX12_certify 24 = .ok (.ifCond .ne 31, 3) := all_at dvX12_certify_0 15 rfl
theorem dX12_certify_27 : decode cX12_certify 27 = .ok (.aload_n 0, 1) := all_at dvX12_certify_0 16 rfl
theorem dX12_certify_28 : decode cX12_certify 28 = .ok (.getfield 139, 3) := all_at dvX12_certify_0 17 rfl
theorem dX12_certify_31 : decode cX12_certify 31 = .ok (.iload_n 3, 1) := all_at dvX12_certify_0 18 rfl
theorem dX12_certify_32 : decode cX12_certify 32 = .ok (.iaload, 1) := all_at dvX12_certify_0 19 rfl
theorem dX12_certify_33 : decode cX12_certify 33 = .ok (.ifCond .ne 26, 3) := all_at dvX12_certify_0 20 rfl
theorem dX12_certify_36 : decode cX12_certify 36 = .ok (.aload_n 0, 1) := all_at dvX12_certify_0 21 rfl
theorem dX12_certify_37 : decode cX12_certify 37 = .ok (.getfield 142, 3) := all_at dvX12_certify_0 22 rfl
theorem dX12_certify_40 : decode cX12_certify 40 = .ok (.iload_n 3, 1) := all_at dvX12_certify_0 23 rfl
set_option maxRecDepth 100000 in
theorem dvX12_certify_41 : ([(41, .iaload, 1), (42, .iload_n 1, 1), (43, .if_icmp .ne 16, 3), (46, .aload_n 0, 1), (47, .getfield 154, 3), (50, .iload_n 3, 1), (51, .iaload, 1), (52, .ifCond .ge 7, 3), (55, .iconst 1, 1), (56, .goto 4, 3), (59, .iconst 0, 1), (60, .istore_n 2, 1), (61, .iinc 3 1, 3), (64, .goto (-49), 3), (67, .iload_n 2, 1), (68, .ifCond .ne 16, 3), (71, .aload_n 0, 1), (72, .iload_n 1, 1), (73, .aload_n 0, 1), (74, .getfield 171, 3), (77, .invokevirtual 353, 3), (80, .iconst 1, 1), (81, .if_icmp .eq 6, 3), (84, .ldc 179, 2)] : List (Nat × Instr × Nat)).all (fun q => decide (decode cX12_certify q.1 = .ok (q.2.1, q.2.2))) = true := by decide +kernel
theorem dX12_certify_41 : decode cX12_certify 41 = .ok (.iaload, 1) := all_at dvX12_certify_41 0 rfl
theorem dX12_certify_42 : decode cX12_certify 42 = .ok (.iload_n 1, 1) := all_at dvX12_certify_41 1 rfl
theorem dX12_certify_43 : decode cX12_certify 43 = .ok (.if_icmp .ne 16, 3) := all_at dvX12_certify_41 2 rfl
theorem dX12_certify_46 : decode cX12_certify 46 = .ok (.aload_n 0, 1) := all_at dvX12_certify_41 3 rfl
theorem dX12_certify_47 : decode cX12_certify 47 = .ok (.getfield 154, 3) := all_at dvX12_certify_41 4 rfl
theorem dX12_certify_50 : decode cX12_certify 50 = .ok (.iload_n 3, 1) := all_at dvX12_certify_41 5 rfl
theorem dX12_certify_51 : decode cX12_certify 51 = .ok (.iaload, 1) := all_at dvX12_certify_41 6 rfl
theorem dX12_certify_52 : decode cX12_certify 52 = .ok (.ifCond .ge 7, 3) := all_at dvX12_certify_41 7 rfl
theorem dX12_certify_55 : decode cX12_certify 55 = .ok (.iconst 1, 1) := all_at dvX12_certify_41 8 rfl
theorem dX12_certify_56 : decode cX12_certify 56 = .ok (.goto 4, 3) := all_at dvX12_certify_41 9 rfl
theorem dX12_certify_59 : decode cX12_certify 59 = .ok (.iconst 0, 1) := all_at dvX12_certify_41 10 rfl
theorem dX12_certify_60 : decode cX12_certify 60 = .ok (.istore_n 2, 1) := all_at dvX12_certify_41 11 rfl
theorem dX12_certify_61 : decode cX12_certify 61 = .ok (.iinc 3 1, 3) := all_at dvX12_certify_41 12 rfl
theorem dX12_certify_64 : decode cX12_certify 64 = .ok (.goto (-49), 3) := all_at dvX12_certify_41 13 rfl
theorem dX12_certify_67 : decode cX12_certify 67 = .ok (.iload_n 2, 1) := all_at dvX12_certify_41 14 rfl
theorem dX12_certify_68 : decode cX12_certify 68 = .ok (.ifCond .ne 16, 3) := all_at dvX12_certify_41 15 rfl
theorem dX12_certify_71 : decode cX12_certify 71 = .ok (.aload_n 0, 1) := all_at dvX12_certify_41 16 rfl
theorem dX12_certify_72 : decode cX12_certify 72 = .ok (.iload_n 1, 1) := all_at dvX12_certify_41 17 rfl
theorem dX12_certify_73 : decode cX12_certify 73 = .ok (.aload_n 0, 1) := all_at dvX12_certify_41 18 rfl
theorem dX12_certify_74 : decode cX12_certify 74 = .ok (.getfield 171, 3) := all_at dvX12_certify_41 19 rfl
theorem dX12_certify_77 : decode cX12_certify 77 = .ok (.invokevirtual 353, 3) := all_at dvX12_certify_41 20 rfl
theorem dX12_certify_80 : decode cX12_certify 80 = .ok (.iconst 1, 1) := all_at dvX12_certify_41 21 rfl
theorem dX12_certify_81 : decode cX12_certify 81 = .ok (.if_icmp .eq 6, 3) := all_at dvX12_certify_41 22 rfl
theorem dX12_certify_84 : decode cX12_certify 84 = .ok (.ldc 179, 2) := all_at dvX12_certify_41 23 rfl
set_option maxRecDepth 100000 in
theorem dvX12_certify_86 : ([(86, .ireturn, 1), (87, .aload_n 0, 1), (88, .getfield 429, 3), (91, .bipush 40, 2), (93, .if_icmp .ne 6, 3), (96, .ldc 182, 2), (98, .ireturn, 1), (99, .aload_n 0, 1), (100, .iload_n 1, 1), (101, .aload_n 0, 1), (102, .getfield 328, 3), (105, .aload_n 0, 1), (106, .getfield 331, 3), (109, .aload_n 0, 1), (110, .getfield 171, 3), (113, .invokevirtual 368, 3), (116, .aload_n 0, 1), (117, .iconst 0, 1), (118, .iload_n 1, 1), (119, .aload_n 0, 1), (120, .getfield 356, 3), (123, .aload_n 0, 1), (124, .getfield 359, 3), (127, .ldiv, 1)] : List (Nat × Instr × Nat)).all (fun q => decide (decode cX12_certify q.1 = .ok (q.2.1, q.2.2))) = true := by decide +kernel
theorem dX12_certify_86 : decode cX12_certify 86 = .ok (.ireturn, 1) := all_at dvX12_certify_86 0 rfl
theorem dX12_certify_87 : decode cX12_certify 87 = .ok (.aload_n 0, 1) := all_at dvX12_certify_86 1 rfl
theorem dX12_certify_88 : decode cX12_certify 88 = .ok (.getfield 429, 3) := all_at dvX12_certify_86 2 rfl
theorem dX12_certify_91 : decode cX12_certify 91 = .ok (.bipush 40, 2) := all_at dvX12_certify_86 3 rfl
theorem dX12_certify_93 : decode cX12_certify 93 = .ok (.if_icmp .ne 6, 3) := all_at dvX12_certify_86 4 rfl
theorem dX12_certify_96 : decode cX12_certify 96 = .ok (.ldc 182, 2) := all_at dvX12_certify_86 5 rfl
theorem dX12_certify_98 : decode cX12_certify 98 = .ok (.ireturn, 1) := all_at dvX12_certify_86 6 rfl
theorem dX12_certify_99 : decode cX12_certify 99 = .ok (.aload_n 0, 1) := all_at dvX12_certify_86 7 rfl
theorem dX12_certify_100 : decode cX12_certify 100 = .ok (.iload_n 1, 1) := all_at dvX12_certify_86 8 rfl
theorem dX12_certify_101 : decode cX12_certify 101 = .ok (.aload_n 0, 1) := all_at dvX12_certify_86 9 rfl
theorem dX12_certify_102 : decode cX12_certify 102 = .ok (.getfield 328, 3) := all_at dvX12_certify_86 10 rfl
theorem dX12_certify_105 : decode cX12_certify 105 = .ok (.aload_n 0, 1) := all_at dvX12_certify_86 11 rfl
theorem dX12_certify_106 : decode cX12_certify 106 = .ok (.getfield 331, 3) := all_at dvX12_certify_86 12 rfl
theorem dX12_certify_109 : decode cX12_certify 109 = .ok (.aload_n 0, 1) := all_at dvX12_certify_86 13 rfl
theorem dX12_certify_110 : decode cX12_certify 110 = .ok (.getfield 171, 3) := all_at dvX12_certify_86 14 rfl
theorem dX12_certify_113 : decode cX12_certify 113 = .ok (.invokevirtual 368, 3) := all_at dvX12_certify_86 15 rfl
theorem dX12_certify_116 : decode cX12_certify 116 = .ok (.aload_n 0, 1) := all_at dvX12_certify_86 16 rfl
theorem dX12_certify_117 : decode cX12_certify 117 = .ok (.iconst 0, 1) := all_at dvX12_certify_86 17 rfl
theorem dX12_certify_118 : decode cX12_certify 118 = .ok (.iload_n 1, 1) := all_at dvX12_certify_86 18 rfl
theorem dX12_certify_119 : decode cX12_certify 119 = .ok (.aload_n 0, 1) := all_at dvX12_certify_86 19 rfl
theorem dX12_certify_120 : decode cX12_certify 120 = .ok (.getfield 356, 3) := all_at dvX12_certify_86 20 rfl
theorem dX12_certify_123 : decode cX12_certify 123 = .ok (.aload_n 0, 1) := all_at dvX12_certify_86 21 rfl
theorem dX12_certify_124 : decode cX12_certify 124 = .ok (.getfield 359, 3) := all_at dvX12_certify_86 22 rfl
theorem dX12_certify_127 : decode cX12_certify 127 = .ok (.ldiv, 1) := all_at dvX12_certify_86 23 rfl
set_option maxRecDepth 100000 in
theorem dvX12_certify_128 : ([(128, .iconst (-1), 1), (129, .aload_n 0, 1), (130, .iconst 4, 1), (131, .aload_n 0, 1), (132, .getfield 171, 3), (135, .invokevirtual 325, 3), (138, .invokevirtual 432, 3), (141, .aload_n 0, 1), (142, .getfield 429, 3), (145, .iconst 1, 1), (146, .isub, 1), (147, .ireturn, 1)] : List (Nat × Instr × Nat)).all (fun q => decide (decode cX12_certify q.1 = .ok (q.2.1, q.2.2))) = true := by decide +kernel
theorem dX12_certify_128 : decode cX12_certify 128 = .ok (.iconst (-1), 1) := all_at dvX12_certify_128 0 rfl
theorem dX12_certify_129 : decode cX12_certify 129 = .ok (.aload_n 0, 1) := all_at dvX12_certify_128 1 rfl
theorem dX12_certify_130 : decode cX12_certify 130 = .ok (.iconst 4, 1) := all_at dvX12_certify_128 2 rfl
theorem dX12_certify_131 : decode cX12_certify 131 = .ok (.aload_n 0, 1) := all_at dvX12_certify_128 3 rfl
theorem dX12_certify_132 : decode cX12_certify 132 = .ok (.getfield 171, 3) := all_at dvX12_certify_128 4 rfl
theorem dX12_certify_135 : decode cX12_certify 135 = .ok (.invokevirtual 325, 3) := all_at dvX12_certify_128 5 rfl
theorem dX12_certify_138 : decode cX12_certify 138 = .ok (.invokevirtual 432, 3) := all_at dvX12_certify_128 6 rfl
theorem dX12_certify_141 : decode cX12_certify 141 = .ok (.aload_n 0, 1) := all_at dvX12_certify_128 7 rfl
theorem dX12_certify_142 : decode cX12_certify 142 = .ok (.getfield 429, 3) := all_at dvX12_certify_128 8 rfl
theorem dX12_certify_145 : decode cX12_certify 145 = .ok (.iconst 1, 1) := all_at dvX12_certify_128 9 rfl
theorem dX12_certify_146 : decode cX12_certify 146 = .ok (.isub, 1) := all_at dvX12_certify_128 10 rfl
theorem dX12_certify_147 : decode cX12_certify 147 = .ok (.ireturn, 1) := all_at dvX12_certify_128 11 rfl
set_option maxRecDepth 100000 in
theorem dvX12_count_0 : ([(0, .iconst 0, 1), (1, .istore_n 2, 1), (2, .iconst 0, 1), (3, .istore_n 3, 1), (4, .iconst 0, 1), (5, .istore 4, 2), (7, .iload 4, 2), (9, .aload_n 0, 1), (10, .getfield 200, 3), (13, .if_icmp .ge 30, 3), (16, .iload_n 2, 1), (17, .aload_n 0, 1), (18, .getfield 37, 3), (21, .iload 4, 2), (23, .iaload, 1), (24, .ifCond .lt 7, 3), (27, .iconst 1, 1), (28, .goto 4, 3), (31, .iconst 0, 1), (32, .invokestatic 203, 3), (35, .iadd, 1), (36, .istore_n 2, 1), (37, .iinc 4 1, 3), (40, .goto (-33), 3)] : List (Nat × Instr × Nat)).all (fun q => decide (decode cX12_count q.1 = .ok (q.2.1, q.2.2))) = true := by decide +kernel
theorem dX12_count_0 : decode cX12_count 0 = .ok (.iconst 0, 1) := all_at dvX12_count_0 0 rfl
theorem dX12_count_1 : decode cX12_count 1 = .ok (.istore_n 2, 1) := all_at dvX12_count_0 1 rfl
theorem dX12_count_2 : decode cX12_count 2 = .ok (.iconst 0, 1) := all_at dvX12_count_0 2 rfl
theorem dX12_count_3 : decode cX12_count 3 = .ok (.istore_n 3, 1) := all_at dvX12_count_0 3 rfl
theorem dX12_count_4 : decode cX12_count 4 = .ok (.iconst 0, 1) := all_at dvX12_count_0 4 rfl
theorem dX12_count_5 : decode cX12_count 5 = .ok (.istore 4, 2) := all_at dvX12_count_0 5 rfl
theorem dX12_count_7 : decode cX12_count 7 = .ok (.iload 4, 2) := all_at dvX12_count_0 6 rfl
theorem dX12_count_9 : decode cX12_count 9 = .ok (.aload_n 0, 1) := all_at dvX12_count_0 7 rfl
theorem dX12_count_10 : decode cX12_count 10 = .ok (.getfield 200, 3) := all_at dvX12_count_0 8 rfl
theorem dX12_count_13 : decode cX12_count 13 = .ok (.if_icmp .ge 30, 3) := all_at dvX12_count_0 9 rfl
theorem dX12_count_16 : decode cX12_count 16 = .ok (.iload_n 2, 1) := all_at dvX12_count_0 10 rfl
theorem dX12_count_17 : decode cX12_count 17 = .ok (.aload_n 0, 1) := all_at dvX12_count_0 11 rfl
theorem dX12_count_18 : decode cX12_count 18 = .ok (.getfield 37, 3) := all_at dvX12_count_0 12 rfl
theorem dX12_count_21 : decode cX12_count 21 = .ok (.iload 4, 2) := all_at dvX12_count_0 13 rfl
theorem dX12_count_23 : decode cX12_count 23 = .ok (.iaload, 1) := all_at dvX12_count_0 14 rfl
theorem dX12_count_24 : decode cX12_count 24 = .ok (.ifCond .lt 7, 3) := all_at dvX12_count_0 15 rfl
theorem dX12_count_27 : decode cX12_count 27 = .ok (.iconst 1, 1) := all_at dvX12_count_0 16 rfl
theorem dX12_count_28 : decode cX12_count 28 = .ok (.goto 4, 3) := all_at dvX12_count_0 17 rfl
theorem dX12_count_31 : decode cX12_count 31 = .ok (.iconst 0, 1) := all_at dvX12_count_0 18 rfl
theorem dX12_count_32 : decode cX12_count 32 = .ok (.invokestatic 203, 3) := all_at dvX12_count_0 19 rfl
theorem dX12_count_35 : decode cX12_count 35 = .ok (.iadd, 1) := all_at dvX12_count_0 20 rfl
theorem dX12_count_36 : decode cX12_count 36 = .ok (.istore_n 2, 1) := all_at dvX12_count_0 21 rfl
theorem dX12_count_37 : decode cX12_count 37 = .ok (.iinc 4 1, 3) := all_at dvX12_count_0 22 rfl
theorem dX12_count_40 : decode cX12_count 40 = .ok (.goto (-33), 3) := all_at dvX12_count_0 23 rfl
set_option maxRecDepth 100000 in
theorem dvX12_count_43 : ([(43, .iconst 0, 1), (44, .istore 4, 2), (46, .iload 4, 2), (48, .aload_n 0, 1), (49, .getfield 429, 3), (52, .if_icmp .ge 19, 3), (55, .iload_n 3, 1), (56, .aload_n 0, 1), (57, .getfield 157, 3), (60, .iload 4, 2), (62, .iaload, 1), (63, .iadd, 1), (64, .istore_n 3, 1), (65, .iinc 4 1, 3), (68, .goto (-22), 3), (71, .iload_n 1, 1), (72, .tableswitch 111 0 10 #[60, 65, 70, 75, 77, 82, 87, 92, 98, 104, 109], 60), (132, .aload_n 0, 1), (133, .getfield 171, 3), (136, .ireturn, 1), (137, .aload_n 0, 1), (138, .getfield 164, 3), (141, .ireturn, 1), (142, .aload_n 0, 1)] : List (Nat × Instr × Nat)).all (fun q => decide (decode cX12_count q.1 = .ok (q.2.1, q.2.2))) = true := by decide +kernel
theorem dX12_count_43 : decode cX12_count 43 = .ok (.iconst 0, 1) := all_at dvX12_count_43 0 rfl
theorem dX12_count_44 : decode cX12_count 44 = .ok (.istore 4, 2) := all_at dvX12_count_43 1 rfl
theorem dX12_count_46 : decode cX12_count 46 = .ok (.iload 4, 2) := all_at dvX12_count_43 2 rfl
theorem dX12_count_48 : decode cX12_count 48 = .ok (.aload_n 0, 1) := all_at dvX12_count_43 3 rfl
theorem dX12_count_49 : decode cX12_count 49 = .ok (.getfield 429, 3) := all_at dvX12_count_43 4 rfl
theorem dX12_count_52 : decode cX12_count 52 = .ok (.if_icmp .ge 19, 3) := all_at dvX12_count_43 5 rfl
theorem dX12_count_55 : decode cX12_count 55 = .ok (.iload_n 3, 1) := all_at dvX12_count_43 6 rfl
theorem dX12_count_56 : decode cX12_count 56 = .ok (.aload_n 0, 1) := all_at dvX12_count_43 7 rfl
theorem dX12_count_57 : decode cX12_count 57 = .ok (.getfield 157, 3) := all_at dvX12_count_43 8 rfl
theorem dX12_count_60 : decode cX12_count 60 = .ok (.iload 4, 2) := all_at dvX12_count_43 9 rfl
theorem dX12_count_62 : decode cX12_count 62 = .ok (.iaload, 1) := all_at dvX12_count_43 10 rfl
theorem dX12_count_63 : decode cX12_count 63 = .ok (.iadd, 1) := all_at dvX12_count_43 11 rfl
theorem dX12_count_64 : decode cX12_count 64 = .ok (.istore_n 3, 1) := all_at dvX12_count_43 12 rfl
theorem dX12_count_65 : decode cX12_count 65 = .ok (.iinc 4 1, 3) := all_at dvX12_count_43 13 rfl
theorem dX12_count_68 : decode cX12_count 68 = .ok (.goto (-22), 3) := all_at dvX12_count_43 14 rfl
theorem dX12_count_71 : decode cX12_count 71 = .ok (.iload_n 1, 1) := all_at dvX12_count_43 15 rfl
theorem dX12_count_72 : decode cX12_count 72 = .ok (.tableswitch 111 0 10 #[60, 65, 70, 75, 77, 82, 87, 92, 98, 104, 109], 60) := all_at dvX12_count_43 16 rfl
theorem dX12_count_132 : decode cX12_count 132 = .ok (.aload_n 0, 1) := all_at dvX12_count_43 17 rfl
theorem dX12_count_133 : decode cX12_count 133 = .ok (.getfield 171, 3) := all_at dvX12_count_43 18 rfl
theorem dX12_count_136 : decode cX12_count 136 = .ok (.ireturn, 1) := all_at dvX12_count_43 19 rfl
theorem dX12_count_137 : decode cX12_count 137 = .ok (.aload_n 0, 1) := all_at dvX12_count_43 20 rfl
theorem dX12_count_138 : decode cX12_count 138 = .ok (.getfield 164, 3) := all_at dvX12_count_43 21 rfl
theorem dX12_count_141 : decode cX12_count 141 = .ok (.ireturn, 1) := all_at dvX12_count_43 22 rfl
theorem dX12_count_142 : decode cX12_count 142 = .ok (.aload_n 0, 1) := all_at dvX12_count_43 23 rfl
set_option maxRecDepth 100000 in
theorem dvX12_count_143 : ([(143, .getfield 200, 3), (146, .ireturn, 1), (147, .iload_n 2, 1), (148, .ireturn, 1), (149, .aload_n 0, 1), (150, .getfield 213, 3), (153, .ireturn, 1), (154, .aload_n 0, 1), (155, .getfield 303, 3), (158, .ireturn, 1), (159, .aload_n 0, 1), (160, .getfield 429, 3), (163, .ireturn, 1), (164, .aload_n 0, 1), (165, .iconst 1, 1), (166, .invokevirtual 442, 3), (169, .ireturn, 1), (170, .aload_n 0, 1), (171, .iconst 2, 1), (172, .invokevirtual 442, 3), (175, .ireturn, 1), (176, .aload_n 0, 1), (177, .getfield 249, 3), (180, .ireturn, 1)] : List (Nat × Instr × Nat)).all (fun q => decide (decode cX12_count q.1 = .ok (q.2.1, q.2.2))) = true := by decide +kernel
theorem dX12_count_143 : decode cX12_count 143 = .ok (.getfield 200, 3) := all_at dvX12_count_143 0 rfl
theorem dX12_count_146 : decode cX12_count 146 = .ok (.ireturn, 1) := all_at dvX12_count_143 1 rfl
theorem dX12_count_147 : decode cX12_count 147 = .ok (.iload_n 2, 1) := all_at dvX12_count_143 2 rfl
theorem dX12_count_148 : decode cX12_count 148 = .ok (.ireturn, 1) := all_at dvX12_count_143 3 rfl
theorem dX12_count_149 : decode cX12_count 149 = .ok (.aload_n 0, 1) := all_at dvX12_count_143 4 rfl
theorem dX12_count_150 : decode cX12_count 150 = .ok (.getfield 213, 3) := all_at dvX12_count_143 5 rfl
theorem dX12_count_153 : decode cX12_count 153 = .ok (.ireturn, 1) := all_at dvX12_count_143 6 rfl
theorem dX12_count_154 : decode cX12_count 154 = .ok (.aload_n 0, 1) := all_at dvX12_count_143 7 rfl
theorem dX12_count_155 : decode cX12_count 155 = .ok (.getfield 303, 3) := all_at dvX12_count_143 8 rfl
theorem dX12_count_158 : decode cX12_count 158 = .ok (.ireturn, 1) := all_at dvX12_count_143 9 rfl
theorem dX12_count_159 : decode cX12_count 159 = .ok (.aload_n 0, 1) := all_at dvX12_count_143 10 rfl
theorem dX12_count_160 : decode cX12_count 160 = .ok (.getfield 429, 3) := all_at dvX12_count_143 11 rfl
theorem dX12_count_163 : decode cX12_count 163 = .ok (.ireturn, 1) := all_at dvX12_count_143 12 rfl
theorem dX12_count_164 : decode cX12_count 164 = .ok (.aload_n 0, 1) := all_at dvX12_count_143 13 rfl
theorem dX12_count_165 : decode cX12_count 165 = .ok (.iconst 1, 1) := all_at dvX12_count_143 14 rfl
theorem dX12_count_166 : decode cX12_count 166 = .ok (.invokevirtual 442, 3) := all_at dvX12_count_143 15 rfl
theorem dX12_count_169 : decode cX12_count 169 = .ok (.ireturn, 1) := all_at dvX12_count_143 16 rfl
theorem dX12_count_170 : decode cX12_count 170 = .ok (.aload_n 0, 1) := all_at dvX12_count_143 17 rfl
theorem dX12_count_171 : decode cX12_count 171 = .ok (.iconst 2, 1) := all_at dvX12_count_143 18 rfl
theorem dX12_count_172 : decode cX12_count 172 = .ok (.invokevirtual 442, 3) := all_at dvX12_count_143 19 rfl
theorem dX12_count_175 : decode cX12_count 175 = .ok (.ireturn, 1) := all_at dvX12_count_143 20 rfl
theorem dX12_count_176 : decode cX12_count 176 = .ok (.aload_n 0, 1) := all_at dvX12_count_143 21 rfl
theorem dX12_count_177 : decode cX12_count 177 = .ok (.getfield 249, 3) := all_at dvX12_count_143 22 rfl
theorem dX12_count_180 : decode cX12_count 180 = .ok (.ireturn, 1) := all_at dvX12_count_143 23 rfl
set_option maxRecDepth 100000 in
theorem dvX12_count_181 : ([(181, .iload_n 3, 1), (182, .ireturn, 1), (183, .ldc 178, 2), (185, .ireturn, 1)] : List (Nat × Instr × Nat)).all (fun q => decide (decode cX12_count q.1 = .ok (q.2.1, q.2.2))) = true := by decide +kernel
theorem dX12_count_181 : decode cX12_count 181 = .ok (.iload_n 3, 1) := all_at dvX12_count_181 0 rfl
theorem dX12_count_182 : decode cX12_count 182 = .ok (.ireturn, 1) := all_at dvX12_count_181 1 rfl
theorem dX12_count_183 : decode cX12_count 183 = .ok (.ldc 178, 2) := all_at dvX12_count_181 2 rfl
theorem dX12_count_185 : decode cX12_count 185 = .ok (.ireturn, 1) := all_at dvX12_count_181 3 rfl
set_option maxRecDepth 100000 in
theorem dvX12_lawful_0 : ([(0, .aload_n 0, 1), (1, .iload_n 1, 1), (2, .invokevirtual 183, 3), (5, .ifCond .eq 7, 3), (8, .ldc2_w 362, 3), (11, .lreturn, 1), (12, .aload_n 0, 1), (13, .iload_n 2, 1), (14, .invokevirtual 350, 3), (17, .ifCond .eq 13, 3), (20, .iload_n 3, 1), (21, .i2l, 1), (22, .lconst 0, 1), (23, .lconst 1, 1), (24, .invokestatic 167, 3), (27, .ifCond .ne 7, 3), (30, .ldc2_w 364, 3), (33, .lreturn, 1), (34, .aload_n 0, 1), (35, .iload_n 1, 1), (36, .iload_n 2, 1), (37, .invokevirtual 353, 3), (40, .iconst 1, 1), (41, .if_icmp .eq 7, 3)] : List (Nat × Instr × Nat)).all (fun q => decide (decode cX12_lawful q.1 = .ok (q.2.1, q.2.2))) = true := by decide +kernel
theorem dX12_lawful_0 : decode cX12_lawful 0 = .ok (.aload_n 0, 1) := all_at dvX12_lawful_0 0 rfl
theorem dX12_lawful_1 : decode cX12_lawful 1 = .ok (.iload_n 1, 1) := all_at dvX12_lawful_0 1 rfl
theorem dX12_lawful_2 : decode cX12_lawful 2 = .ok (.invokevirtual 183, 3) := all_at dvX12_lawful_0 2 rfl
theorem dX12_lawful_5 : decode cX12_lawful 5 = .ok (.ifCond .eq 7, 3) := all_at dvX12_lawful_0 3 rfl
theorem dX12_lawful_8 : decode cX12_lawful 8 = .ok (.ldc2_w 362, 3) := all_at dvX12_lawful_0 4 rfl
theorem dX12_lawful_11 : decode cX12_lawful 11 = .ok (.lreturn, 1) := all_at dvX12_lawful_0 5 rfl
theorem dX12_lawful_12 : decode cX12_lawful 12 = .ok (.aload_n 0, 1) := all_at dvX12_lawful_0 6 rfl
theorem dX12_lawful_13 : decode cX12_lawful 13 = .ok (.iload_n 2, 1) := all_at dvX12_lawful_0 7 rfl
theorem dX12_lawful_14 : decode cX12_lawful 14 = .ok (.invokevirtual 350, 3) := all_at dvX12_lawful_0 8 rfl
theorem dX12_lawful_17 : decode cX12_lawful 17 = .ok (.ifCond .eq 13, 3) := all_at dvX12_lawful_0 9 rfl
theorem dX12_lawful_20 : decode cX12_lawful 20 = .ok (.iload_n 3, 1) := all_at dvX12_lawful_0 10 rfl
theorem dX12_lawful_21 : decode cX12_lawful 21 = .ok (.i2l, 1) := all_at dvX12_lawful_0 11 rfl
theorem dX12_lawful_22 : decode cX12_lawful 22 = .ok (.lconst 0, 1) := all_at dvX12_lawful_0 12 rfl
theorem dX12_lawful_23 : decode cX12_lawful 23 = .ok (.lconst 1, 1) := all_at dvX12_lawful_0 13 rfl
theorem dX12_lawful_24 : decode cX12_lawful 24 = .ok (.invokestatic 167, 3) := all_at dvX12_lawful_0 14 rfl
theorem dX12_lawful_27 : decode cX12_lawful 27 = .ok (.ifCond .ne 7, 3) := all_at dvX12_lawful_0 15 rfl
theorem dX12_lawful_30 : decode cX12_lawful 30 = .ok (.ldc2_w 364, 3) := all_at dvX12_lawful_0 16 rfl
theorem dX12_lawful_33 : decode cX12_lawful 33 = .ok (.lreturn, 1) := all_at dvX12_lawful_0 17 rfl
theorem dX12_lawful_34 : decode cX12_lawful 34 = .ok (.aload_n 0, 1) := all_at dvX12_lawful_0 18 rfl
theorem dX12_lawful_35 : decode cX12_lawful 35 = .ok (.iload_n 1, 1) := all_at dvX12_lawful_0 19 rfl
theorem dX12_lawful_36 : decode cX12_lawful 36 = .ok (.iload_n 2, 1) := all_at dvX12_lawful_0 20 rfl
theorem dX12_lawful_37 : decode cX12_lawful 37 = .ok (.invokevirtual 353, 3) := all_at dvX12_lawful_0 21 rfl
theorem dX12_lawful_40 : decode cX12_lawful 40 = .ok (.iconst 1, 1) := all_at dvX12_lawful_0 22 rfl
theorem dX12_lawful_41 : decode cX12_lawful 41 = .ok (.if_icmp .eq 7, 3) := all_at dvX12_lawful_0 23 rfl
set_option maxRecDepth 100000 in
theorem dvX12_lawful_44 : ([(44, .ldc2_w 366, 3), (47, .lreturn, 1), (48, .aload_n 0, 1), (49, .iload_n 1, 1), (50, .aload_n 0, 1), (51, .getfield 328, 3), (54, .aload_n 0, 1), (55, .getfield 331, 3), (58, .iload_n 2, 1), (59, .invokevirtual 368, 3), (62, .iload_n 3, 1), (63, .ifCond .ne 10, 3), (66, .aload_n 0, 1), (67, .getfield 356, 3), (70, .goto 7, 3), (73, .aload_n 0, 1), (74, .getfield 359, 3), (77, .lreturn, 1)] : List (Nat × Instr × Nat)).all (fun q => decide (decode cX12_lawful q.1 = .ok (q.2.1, q.2.2))) = true := by decide +kernel
theorem dX12_lawful_44 : decode cX12_lawful 44 = .ok (.ldc2_w 366, 3) := all_at dvX12_lawful_44 0 rfl
theorem dX12_lawful_47 : decode cX12_lawful 47 = .ok (.lreturn, 1) := all_at dvX12_lawful_44 1 rfl
theorem dX12_lawful_48 : decode cX12_lawful 48 = .ok (.aload_n 0, 1) := all_at dvX12_lawful_44 2 rfl
theorem dX12_lawful_49 : decode cX12_lawful 49 = .ok (.iload_n 1, 1) := all_at dvX12_lawful_44 3 rfl
theorem dX12_lawful_50 : decode cX12_lawful 50 = .ok (.aload_n 0, 1) := all_at dvX12_lawful_44 4 rfl
theorem dX12_lawful_51 : decode cX12_lawful 51 = .ok (.getfield 328, 3) := all_at dvX12_lawful_44 5 rfl
theorem dX12_lawful_54 : decode cX12_lawful 54 = .ok (.aload_n 0, 1) := all_at dvX12_lawful_44 6 rfl
theorem dX12_lawful_55 : decode cX12_lawful 55 = .ok (.getfield 331, 3) := all_at dvX12_lawful_44 7 rfl
theorem dX12_lawful_58 : decode cX12_lawful 58 = .ok (.iload_n 2, 1) := all_at dvX12_lawful_44 8 rfl
theorem dX12_lawful_59 : decode cX12_lawful 59 = .ok (.invokevirtual 368, 3) := all_at dvX12_lawful_44 9 rfl
theorem dX12_lawful_62 : decode cX12_lawful 62 = .ok (.iload_n 3, 1) := all_at dvX12_lawful_44 10 rfl
theorem dX12_lawful_63 : decode cX12_lawful 63 = .ok (.ifCond .ne 10, 3) := all_at dvX12_lawful_44 11 rfl
theorem dX12_lawful_66 : decode cX12_lawful 66 = .ok (.aload_n 0, 1) := all_at dvX12_lawful_44 12 rfl
theorem dX12_lawful_67 : decode cX12_lawful 67 = .ok (.getfield 356, 3) := all_at dvX12_lawful_44 13 rfl
theorem dX12_lawful_70 : decode cX12_lawful 70 = .ok (.goto 7, 3) := all_at dvX12_lawful_44 14 rfl
theorem dX12_lawful_73 : decode cX12_lawful 73 = .ok (.aload_n 0, 1) := all_at dvX12_lawful_44 15 rfl
theorem dX12_lawful_74 : decode cX12_lawful 74 = .ok (.getfield 359, 3) := all_at dvX12_lawful_44 16 rfl
theorem dX12_lawful_77 : decode cX12_lawful 77 = .ok (.lreturn, 1) := all_at dvX12_lawful_44 17 rfl
set_option maxRecDepth 100000 in
theorem dvX12_size_0 : ([(0, .aload_n 0, 1), (1, .iload_n 1, 1), (2, .invokevirtual 183, 3), (5, .ifCond .eq 6, 3), (8, .ldc 187, 2), (10, .ireturn, 1), (11, .iload_n 2, 1), (12, .i2l, 1), (13, .lconst 0, 1), (14, .ldc2_w 190, 3), (17, .invokestatic 167, 3), (20, .ifCond .ne 6, 3), (23, .ldc 178, 2), (25, .ireturn, 1), (26, .aload_n 0, 1), (27, .getfield 109, 3), (30, .iload_n 1, 1), (31, .iaload, 1), (32, .istore_n 3, 1), (33, .iload_n 3, 1), (34, .ifCond .ne 5, 3), (37, .iconst (-1), 1), (38, .ireturn, 1), (39, .lconst 0, 1)] : List (Nat × Instr × Nat)).all (fun q => decide (decode cX12_size q.1 = .ok (q.2.1, q.2.2))) = true := by decide +kernel
theorem dX12_size_0 : decode cX12_size 0 = .ok (.aload_n 0, 1) := all_at dvX12_size_0 0 rfl
theorem dX12_size_1 : decode cX12_size 1 = .ok (.iload_n 1, 1) := all_at dvX12_size_0 1 rfl
theorem dX12_size_2 : decode cX12_size 2 = .ok (.invokevirtual 183, 3) := all_at dvX12_size_0 2 rfl
theorem dX12_size_5 : decode cX12_size 5 = .ok (.ifCond .eq 6, 3) := all_at dvX12_size_0 3 rfl
theorem dX12_size_8 : decode cX12_size 8 = .ok (.ldc 187, 2) := all_at dvX12_size_0 4 rfl
theorem dX12_size_10 : decode cX12_size 10 = .ok (.ireturn, 1) := all_at dvX12_size_0 5 rfl
theorem dX12_size_11 : decode cX12_size 11 = .ok (.iload_n 2, 1) := all_at dvX12_size_0 6 rfl
theorem dX12_size_12 : decode cX12_size 12 = .ok (.i2l, 1) := all_at dvX12_size_0 7 rfl
theorem dX12_size_13 : decode cX12_size 13 = .ok (.lconst 0, 1) := all_at dvX12_size_0 8 rfl
theorem dX12_size_14 : decode cX12_size 14 = .ok (.ldc2_w 190, 3) := all_at dvX12_size_0 9 rfl
theorem dX12_size_17 : decode cX12_size 17 = .ok (.invokestatic 167, 3) := all_at dvX12_size_0 10 rfl
theorem dX12_size_20 : decode cX12_size 20 = .ok (.ifCond .ne 6, 3) := all_at dvX12_size_0 11 rfl
theorem dX12_size_23 : decode cX12_size 23 = .ok (.ldc 178, 2) := all_at dvX12_size_0 12 rfl
theorem dX12_size_25 : decode cX12_size 25 = .ok (.ireturn, 1) := all_at dvX12_size_0 13 rfl
theorem dX12_size_26 : decode cX12_size 26 = .ok (.aload_n 0, 1) := all_at dvX12_size_0 14 rfl
theorem dX12_size_27 : decode cX12_size 27 = .ok (.getfield 109, 3) := all_at dvX12_size_0 15 rfl
theorem dX12_size_30 : decode cX12_size 30 = .ok (.iload_n 1, 1) := all_at dvX12_size_0 16 rfl
theorem dX12_size_31 : decode cX12_size 31 = .ok (.iaload, 1) := all_at dvX12_size_0 17 rfl
theorem dX12_size_32 : decode cX12_size 32 = .ok (.istore_n 3, 1) := all_at dvX12_size_0 18 rfl
theorem dX12_size_33 : decode cX12_size 33 = .ok (.iload_n 3, 1) := all_at dvX12_size_0 19 rfl
theorem dX12_size_34 : decode cX12_size 34 = .ok (.ifCond .ne 5, 3) := all_at dvX12_size_0 20 rfl
theorem dX12_size_37 : decode cX12_size 37 = .ok (.iconst (-1), 1) := all_at dvX12_size_0 21 rfl
theorem dX12_size_38 : decode cX12_size 38 = .ok (.ireturn, 1) := all_at dvX12_size_0 22 rfl
theorem dX12_size_39 : decode cX12_size 39 = .ok (.lconst 0, 1) := all_at dvX12_size_0 23 rfl
set_option maxRecDepth 100000 in
theorem dvX12_size_40 : ([(40, .lstore 4, 2), (42, .lconst 0, 1), (43, .lstore 6, 2), (45, .iconst 0, 1), (46, .istore 8, 2), (48, .iload 8, 2), (50, .iload_n 3, 1), (51, .if_icmp .ge 45, 3), (54, .ldc2_w 188, 3), (57, .aload_n 0, 1), (58, .getfield 112, 3), (61, .bipush 12, 2), (63, .iload_n 1, 1), (64, .imul, 1), (65, .iload 8, 2), (67, .iadd, 1), (68, .iaload, 1), (69, .i2l, 1), (70, .lmul, 1), (71, .lstore 9, 2), (73, .lload 4, 2), (75, .lload 9, 2), (77, .ladd, 1), (78, .lstore 4, 2)] : List (Nat × Instr × Nat)).all (fun q => decide (decode cX12_size q.1 = .ok (q.2.1, q.2.2))) = true := by decide +kernel
theorem dX12_size_40 : decode cX12_size 40 = .ok (.lstore 4, 2) := all_at dvX12_size_40 0 rfl
theorem dX12_size_42 : decode cX12_size 42 = .ok (.lconst 0, 1) := all_at dvX12_size_40 1 rfl
theorem dX12_size_43 : decode cX12_size 43 = .ok (.lstore 6, 2) := all_at dvX12_size_40 2 rfl
theorem dX12_size_45 : decode cX12_size 45 = .ok (.iconst 0, 1) := all_at dvX12_size_40 3 rfl
theorem dX12_size_46 : decode cX12_size 46 = .ok (.istore 8, 2) := all_at dvX12_size_40 4 rfl
theorem dX12_size_48 : decode cX12_size 48 = .ok (.iload 8, 2) := all_at dvX12_size_40 5 rfl
theorem dX12_size_50 : decode cX12_size 50 = .ok (.iload_n 3, 1) := all_at dvX12_size_40 6 rfl
theorem dX12_size_51 : decode cX12_size 51 = .ok (.if_icmp .ge 45, 3) := all_at dvX12_size_40 7 rfl
theorem dX12_size_54 : decode cX12_size 54 = .ok (.ldc2_w 188, 3) := all_at dvX12_size_40 8 rfl
theorem dX12_size_57 : decode cX12_size 57 = .ok (.aload_n 0, 1) := all_at dvX12_size_40 9 rfl
theorem dX12_size_58 : decode cX12_size 58 = .ok (.getfield 112, 3) := all_at dvX12_size_40 10 rfl
theorem dX12_size_61 : decode cX12_size 61 = .ok (.bipush 12, 2) := all_at dvX12_size_40 11 rfl
theorem dX12_size_63 : decode cX12_size 63 = .ok (.iload_n 1, 1) := all_at dvX12_size_40 12 rfl
theorem dX12_size_64 : decode cX12_size 64 = .ok (.imul, 1) := all_at dvX12_size_40 13 rfl
theorem dX12_size_65 : decode cX12_size 65 = .ok (.iload 8, 2) := all_at dvX12_size_40 14 rfl
theorem dX12_size_67 : decode cX12_size 67 = .ok (.iadd, 1) := all_at dvX12_size_40 15 rfl
theorem dX12_size_68 : decode cX12_size 68 = .ok (.iaload, 1) := all_at dvX12_size_40 16 rfl
theorem dX12_size_69 : decode cX12_size 69 = .ok (.i2l, 1) := all_at dvX12_size_40 17 rfl
theorem dX12_size_70 : decode cX12_size 70 = .ok (.lmul, 1) := all_at dvX12_size_40 18 rfl
theorem dX12_size_71 : decode cX12_size 71 = .ok (.lstore 9, 2) := all_at dvX12_size_40 19 rfl
theorem dX12_size_73 : decode cX12_size 73 = .ok (.lload 4, 2) := all_at dvX12_size_40 20 rfl
theorem dX12_size_75 : decode cX12_size 75 = .ok (.lload 9, 2) := all_at dvX12_size_40 21 rfl
theorem dX12_size_77 : decode cX12_size 77 = .ok (.ladd, 1) := all_at dvX12_size_40 22 rfl
theorem dX12_size_78 : decode cX12_size 78 = .ok (.lstore 4, 2) := all_at dvX12_size_40 23 rfl
set_option maxRecDepth 100000 in
theorem dvX12_size_80 : ([(80, .lload 6, 2), (82, .lload 9, 2), (84, .lload 9, 2), (86, .lmul, 1), (87, .ladd, 1), (88, .lstore 6, 2), (90, .iinc 8 1, 3), (93, .goto (-45), 3), (96, .iload_n 2, 1), (97, .iconst 2, 1), (98, .if_icmp .ge 8, 3), (101, .lload 4, 2), (103, .goto 14, 3), (106, .iload_n 3, 1), (107, .i2l, 1), (108, .lload 6, 2), (110, .lmul, 1), (111, .lload 4, 2), (113, .lload 4, 2), (115, .lmul, 1), (116, .lsub, 1), (117, .lstore 8, 2), (119, .iload_n 2, 1), (120, .iconst 2, 1)] : List (Nat × Instr × Nat)).all (fun q => decide (decode cX12_size q.1 = .ok (q.2.1, q.2.2))) = true := by decide +kernel
theorem dX12_size_80 : decode cX12_size 80 = .ok (.lload 6, 2) := all_at dvX12_size_80 0 rfl
theorem dX12_size_82 : decode cX12_size 82 = .ok (.lload 9, 2) := all_at dvX12_size_80 1 rfl
theorem dX12_size_84 : decode cX12_size 84 = .ok (.lload 9, 2) := all_at dvX12_size_80 2 rfl
theorem dX12_size_86 : decode cX12_size 86 = .ok (.lmul, 1) := all_at dvX12_size_80 3 rfl
theorem dX12_size_87 : decode cX12_size 87 = .ok (.ladd, 1) := all_at dvX12_size_80 4 rfl
theorem dX12_size_88 : decode cX12_size 88 = .ok (.lstore 6, 2) := all_at dvX12_size_80 5 rfl
theorem dX12_size_90 : decode cX12_size 90 = .ok (.iinc 8 1, 3) := all_at dvX12_size_80 6 rfl
theorem dX12_size_93 : decode cX12_size 93 = .ok (.goto (-45), 3) := all_at dvX12_size_80 7 rfl
theorem dX12_size_96 : decode cX12_size 96 = .ok (.iload_n 2, 1) := all_at dvX12_size_80 8 rfl
theorem dX12_size_97 : decode cX12_size 97 = .ok (.iconst 2, 1) := all_at dvX12_size_80 9 rfl
theorem dX12_size_98 : decode cX12_size 98 = .ok (.if_icmp .ge 8, 3) := all_at dvX12_size_80 10 rfl
theorem dX12_size_101 : decode cX12_size 101 = .ok (.lload 4, 2) := all_at dvX12_size_80 11 rfl
theorem dX12_size_103 : decode cX12_size 103 = .ok (.goto 14, 3) := all_at dvX12_size_80 12 rfl
theorem dX12_size_106 : decode cX12_size 106 = .ok (.iload_n 3, 1) := all_at dvX12_size_80 13 rfl
theorem dX12_size_107 : decode cX12_size 107 = .ok (.i2l, 1) := all_at dvX12_size_80 14 rfl
theorem dX12_size_108 : decode cX12_size 108 = .ok (.lload 6, 2) := all_at dvX12_size_80 15 rfl
theorem dX12_size_110 : decode cX12_size 110 = .ok (.lmul, 1) := all_at dvX12_size_80 16 rfl
theorem dX12_size_111 : decode cX12_size 111 = .ok (.lload 4, 2) := all_at dvX12_size_80 17 rfl
theorem dX12_size_113 : decode cX12_size 113 = .ok (.lload 4, 2) := all_at dvX12_size_80 18 rfl
theorem dX12_size_115 : decode cX12_size 115 = .ok (.lmul, 1) := all_at dvX12_size_80 19 rfl
theorem dX12_size_116 : decode cX12_size 116 = .ok (.lsub, 1) := all_at dvX12_size_80 20 rfl
theorem dX12_size_117 : decode cX12_size 117 = .ok (.lstore 8, 2) := all_at dvX12_size_80 21 rfl
theorem dX12_size_119 : decode cX12_size 119 = .ok (.iload_n 2, 1) := all_at dvX12_size_80 22 rfl
theorem dX12_size_120 : decode cX12_size 120 = .ok (.iconst 2, 1) := all_at dvX12_size_80 23 rfl
set_option maxRecDepth 100000 in
theorem dvX12_size_121 : ([(121, .if_icmp .ge 8, 3), (124, .iload_n 3, 1), (125, .i2l, 1), (126, .goto 8, 3), (129, .iload_n 3, 1), (130, .i2l, 1), (131, .iload_n 3, 1), (132, .i2l, 1), (133, .lmul, 1), (134, .lstore 10, 2), (136, .lload 8, 2), (138, .lload 10, 2), (140, .invokestatic 241, 3), (143, .lstore 12, 2), (145, .iload_n 2, 1), (146, .iconst 2, 1), (147, .irem, 1), (148, .ifCond .ne 11, 3), (151, .lload 8, 2), (153, .lload 12, 2), (155, .ldiv, 1), (156, .goto 8, 3), (159, .lload 10, 2), (161, .lload 12, 2)] : List (Nat × Instr × Nat)).all (fun q => decide (decode cX12_size q.1 = .ok (q.2.1, q.2.2))) = true := by decide +kernel
theorem dX12_size_121 : decode cX12_size 121 = .ok (.if_icmp .ge 8, 3) := all_at dvX12_size_121 0 rfl
theorem dX12_size_124 : decode cX12_size 124 = .ok (.iload_n 3, 1) := all_at dvX12_size_121 1 rfl
theorem dX12_size_125 : decode cX12_size 125 = .ok (.i2l, 1) := all_at dvX12_size_121 2 rfl
theorem dX12_size_126 : decode cX12_size 126 = .ok (.goto 8, 3) := all_at dvX12_size_121 3 rfl
theorem dX12_size_129 : decode cX12_size 129 = .ok (.iload_n 3, 1) := all_at dvX12_size_121 4 rfl
theorem dX12_size_130 : decode cX12_size 130 = .ok (.i2l, 1) := all_at dvX12_size_121 5 rfl
theorem dX12_size_131 : decode cX12_size 131 = .ok (.iload_n 3, 1) := all_at dvX12_size_121 6 rfl
theorem dX12_size_132 : decode cX12_size 132 = .ok (.i2l, 1) := all_at dvX12_size_121 7 rfl
theorem dX12_size_133 : decode cX12_size 133 = .ok (.lmul, 1) := all_at dvX12_size_121 8 rfl
theorem dX12_size_134 : decode cX12_size 134 = .ok (.lstore 10, 2) := all_at dvX12_size_121 9 rfl
theorem dX12_size_136 : decode cX12_size 136 = .ok (.lload 8, 2) := all_at dvX12_size_121 10 rfl
theorem dX12_size_138 : decode cX12_size 138 = .ok (.lload 10, 2) := all_at dvX12_size_121 11 rfl
theorem dX12_size_140 : decode cX12_size 140 = .ok (.invokestatic 241, 3) := all_at dvX12_size_121 12 rfl
theorem dX12_size_143 : decode cX12_size 143 = .ok (.lstore 12, 2) := all_at dvX12_size_121 13 rfl
theorem dX12_size_145 : decode cX12_size 145 = .ok (.iload_n 2, 1) := all_at dvX12_size_121 14 rfl
theorem dX12_size_146 : decode cX12_size 146 = .ok (.iconst 2, 1) := all_at dvX12_size_121 15 rfl
theorem dX12_size_147 : decode cX12_size 147 = .ok (.irem, 1) := all_at dvX12_size_121 16 rfl
theorem dX12_size_148 : decode cX12_size 148 = .ok (.ifCond .ne 11, 3) := all_at dvX12_size_121 17 rfl
theorem dX12_size_151 : decode cX12_size 151 = .ok (.lload 8, 2) := all_at dvX12_size_121 18 rfl
theorem dX12_size_153 : decode cX12_size 153 = .ok (.lload 12, 2) := all_at dvX12_size_121 19 rfl
theorem dX12_size_155 : decode cX12_size 155 = .ok (.ldiv, 1) := all_at dvX12_size_121 20 rfl
theorem dX12_size_156 : decode cX12_size 156 = .ok (.goto 8, 3) := all_at dvX12_size_121 21 rfl
theorem dX12_size_159 : decode cX12_size 159 = .ok (.lload 10, 2) := all_at dvX12_size_121 22 rfl
theorem dX12_size_161 : decode cX12_size 161 = .ok (.lload 12, 2) := all_at dvX12_size_121 23 rfl
theorem dX12_size_163 : decode cX12_size 163 = .ok (.ldiv, 1) := by decide +kernel
theorem dX12_size_164 : decode cX12_size 164 = .ok (.l2i, 1) := by decide +kernel
theorem dX12_size_165 : decode cX12_size 165 = .ok (.ireturn, 1) := by decide +kernel
set_option maxRecDepth 100000 in
theorem dvX12_state_0 : ([(0, .aload_n 0, 1), (1, .iload_n 1, 1), (2, .invokevirtual 183, 3), (5, .ifCond .eq 6, 3), (8, .ldc 187, 2), (10, .ireturn, 1), (11, .aload_n 0, 1), (12, .iload_n 2, 1), (13, .invokevirtual 350, 3), (16, .ifCond .eq 12, 3), (19, .aload_n 0, 1), (20, .iload_n 1, 1), (21, .iload_n 2, 1), (22, .invokevirtual 353, 3), (25, .goto 5, 3), (28, .ldc 178, 2), (30, .ireturn, 1)] : List (Nat × Instr × Nat)).all (fun q => decide (decode cX12_state q.1 = .ok (q.2.1, q.2.2))) = true := by decide +kernel
theorem dX12_state_0 : decode cX12_state 0 = .ok (.aload_n 0, 1) := all_at dvX12_state_0 0 rfl
theorem dX12_state_1 : decode cX12_state 1 = .ok (.iload_n 1, 1) := all_at dvX12_state_0 1 rfl
theorem dX12_state_2 : decode cX12_state 2 = .ok (.invokevirtual 183, 3) := all_at dvX12_state_0 2 rfl
theorem dX12_state_5 : decode cX12_state 5 = .ok (.ifCond .eq 6, 3) := all_at dvX12_state_0 3 rfl
theorem dX12_state_8 : decode cX12_state 8 = .ok (.ldc 187, 2) := all_at dvX12_state_0 4 rfl
theorem dX12_state_10 : decode cX12_state 10 = .ok (.ireturn, 1) := all_at dvX12_state_0 5 rfl
theorem dX12_state_11 : decode cX12_state 11 = .ok (.aload_n 0, 1) := all_at dvX12_state_0 6 rfl
theorem dX12_state_12 : decode cX12_state 12 = .ok (.iload_n 2, 1) := all_at dvX12_state_0 7 rfl
theorem dX12_state_13 : decode cX12_state 13 = .ok (.invokevirtual 350, 3) := all_at dvX12_state_0 8 rfl
theorem dX12_state_16 : decode cX12_state 16 = .ok (.ifCond .eq 12, 3) := all_at dvX12_state_0 9 rfl
theorem dX12_state_19 : decode cX12_state 19 = .ok (.aload_n 0, 1) := all_at dvX12_state_0 10 rfl
theorem dX12_state_20 : decode cX12_state 20 = .ok (.iload_n 1, 1) := all_at dvX12_state_0 11 rfl
theorem dX12_state_21 : decode cX12_state 21 = .ok (.iload_n 2, 1) := all_at dvX12_state_0 12 rfl
theorem dX12_state_22 : decode cX12_state 22 = .ok (.invokevirtual 353, 3) := all_at dvX12_state_0 13 rfl
theorem dX12_state_25 : decode cX12_state 25 = .ok (.goto 5, 3) := all_at dvX12_state_0 14 rfl
theorem dX12_state_28 : decode cX12_state 28 = .ok (.ldc 178, 2) := all_at dvX12_state_0 15 rfl
theorem dX12_state_30 : decode cX12_state 30 = .ok (.ireturn, 1) := all_at dvX12_state_0 16 rfl
set_option maxHeartbeats 4000000 in
set_option maxRecDepth 100000 in
/-- X12_balesIn -/
theorem c_X12_balesIn (l : Launch) (dC : Nat → ClassId) (dI : Nat → Nat → Nat) (sz : Nat) (h : Nat) (g : Nat → Nat → Nat) (ca : Nat → Nat → ClassId) (iv : Nat → Nat → Int32) (lv : Nat → Nat → Int64) (fa : Nat → Nat → Nat → Int32) (la : Nat → Nat → Nat → Int64) (hI : IX iv fa) (a : Int32) (hJC : JCf (iv 12 23).toInt (fa 12 25) (fa 12 26) (fa 12 27) (fa 12 28)) (hJR : JRf (iv 12 3).toInt (fa 12 7)) : Met l yX12_balesIn (wc yX12_balesIn cX12_balesIn 4 (some .int)) ({ frames := 3, cells := 0, slots := 0, locals := 84 } : Room) (pW (dC, dI) classes (WM h g ca iv lv fa la) (TM ca) sz [.ref h, .int a]) (va_Qi (fun r (u : SS) => ∃ (na_12_39 : Nat → Int32) (na_12_40 : Nat → Int32) (nb_12_42 : Nat → Int64) (nb_12_43 : Nat → Int64) (ni_12_19 : Int32) (ni_12_41 : Int32) (nl_12_17 : Int64) (nl_12_18 : Int64) (nl_12_44 : Int64) (nl_12_45 : Int64), (∀ j, inb (bA 12 39 j) (na_12_39 j)) ∧ (∀ j, inb (bA 12 40 j) (na_12_40 j)) ∧ inb (bI 12 41) ni_12_41 ∧ (True) ∧ u = ((u2 (u2 iv 12 19 ni_12_19) 12 41 ni_12_41), (u2 (u2 (u2 (u2 lv 12 17 nl_12_17) 12 18 nl_12_18) 12 44 nl_12_44) 12 45 nl_12_45), (u2 (u2 fa 12 39 na_12_39) 12 40 na_12_40), (u2 (u2 la 12 42 nb_12_42) 12 43 nb_12_43))) (bM (dC, dI) h g ca (va_A (WM h g ca iv lv fa la) sz)) (va_A (WM h g ca iv lv fa la) sz)) 0 0 (va_A (WM h g ca iv lv fa la) sz) := by
  refine Met.ofW (cc := cX12_balesIn) (maxL := 4) (ret := (some .int)) (by decide) rfl ?_
  intro p e s m args below meth c s₁ B hml hv
  obtain ⟨rfl, hsz, hP, hK, hD0⟩ := hv
  have hx := B.exec
  have hb := B.bytes
  have hr := B.returns
  have ht := tb_tl (atoms_spec (ws := wc yX12_balesIn cX12_balesIn 4 (some .int)) B.pre)
  have hown : s.vm.findClass RX12 = some m.cls := findClass_of_methodNamed B.named
  have hlocks := B.notSynchronized
  subst hsz
  have hD := hD0.self (sz := s.heap.size)
  generalize hAe : va_A (WM h g ca iv lv fa la) s.heap.size = A at hD ⊢
  have hA : ∀ q : Nat, s.heap.size ≤ q → A q := fun q h => by rw [← hAe]; exact Or.inr h
  have hS : va_S A s.heap s.heap [] := va_S.rf
  have hl := lv_entry [.ref h, .int a] (n := 4) (Nat.le_of_ble_eq_true rfl)
  rw [lg_entry_eq]
  generalize (lg_sl [.ref h, .int a] ++ List.replicate (4 - (lg_sl [.ref h, .int a]).length) Slot.unset).toArray = ls at hl ⊢
  have hl : lv_has ls 4 [(0, .ref h), (1, .int a)] := hl
  refine lv_iconst (v := 0) hx hb dX12_balesIn_0 (by decide) ?_
  refine lv_istore_n (lv' := [(2, .int 0), (0, .ref h), (1, .int a)]) hx hb dX12_balesIn_1 rfl hl (by decide) rfl (fun ls hl => ?_)
  refine lv_iconst (v := 0) hx hb dX12_balesIn_2 (by decide) ?_
  refine lv_istore_n (lv' := [(3, .int 0), (2, .int 0), (0, .ref h), (1, .int a)]) hx hb dX12_balesIn_3 rfl hl (by decide) rfl (fun ls hl => ?_)
  have lp1042 : ∀ (nn1042 : Nat) (x1041_3 : Int32) (x1041_2 : Int32) (w1041_i_12_19 : Int32) (w1041_i_12_41 : Int32) (w1041_l_12_17 : Int64) (w1041_l_12_18 : Int64) (w1041_l_12_44 : Int64) (w1041_l_12_45 : Int64) (w1041_a_12_39 : Nat → Int32) (w1041_a_12_40 : Nat → Int32) (w1041_b_12_42 : Nat → Int64) (w1041_b_12_43 : Nat → Int64), 0 ≤ x1041_3.toInt ∧ x1041_3.toInt ≤ 10 → 0 ≤ w1041_i_12_41.toInt ∧ w1041_i_12_41.toInt ≤ 8 → (∀ j, inb (bA 12 39 j) (w1041_a_12_39 j)) → (∀ j, inb (bA 12 40 j) (w1041_a_12_40 j)) → 10 - x1041_3.toInt < (nn1042 : Int) → ∀ (H : Heap) (locs : List Loc), ∀ (ls : Array Slot), va_P (dC, dI) classes (WM h g ca (u2 (u2 iv 12 19 w1041_i_12_19) 12 41 w1041_i_12_41) (u2 (u2 (u2 (u2 lv 12 17 w1041_l_12_17) 12 18 w1041_l_12_18) 12 44 w1041_l_12_44) 12 45 w1041_l_12_45) (u2 (u2 fa 12 39 w1041_a_12_39) 12 40 w1041_a_12_40) (u2 (u2 la 12 42 w1041_b_12_42) 12 43 w1041_b_12_43)) H → va_D A (WM h g ca (u2 (u2 iv 12 19 w1041_i_12_19) 12 41 w1041_i_12_41) (u2 (u2 (u2 (u2 lv 12 17 w1041_l_12_17) 12 18 w1041_l_12_18) 12 44 w1041_l_12_44) 12 45 w1041_l_12_45) (u2 (u2 fa 12 39 w1041_a_12_39) 12 40 w1041_a_12_40) (u2 (u2 la 12 42 w1041_b_12_42) 12 43 w1041_b_12_43)) → va_S A s.heap H locs → lv_has ls 4 [(3, .int x1041_3), (2, .int x1041_2), (0, .ref h), (1, .int a)] → W p l e ({ frames := 3, cells := 0, slots := 0, locals := 84 } : Room) s m ([.ref h, .int a] : List Value).toArray below meth c H locs 0 0 (MQ below (va_Qi (fun r (u : SS) => ∃ (na_12_39 : Nat → Int32) (na_12_40 : Nat → Int32) (nb_12_42 : Nat → Int64) (nb_12_43 : Nat → Int64) (ni_12_19 : Int32) (ni_12_41 : Int32) (nl_12_17 : Int64) (nl_12_18 : Int64) (nl_12_44 : Int64) (nl_12_45 : Int64), (∀ j, inb (bA 12 39 j) (na_12_39 j)) ∧ (∀ j, inb (bA 12 40 j) (na_12_40 j)) ∧ inb (bI 12 41) ni_12_41 ∧ (True) ∧ u = ((u2 (u2 iv 12 19 ni_12_19) 12 41 ni_12_41), (u2 (u2 (u2 (u2 lv 12 17 nl_12_17) 12 18 nl_12_18) 12 44 nl_12_44) 12 45 nl_12_45), (u2 (u2 fa 12 39 na_12_39) 12 40 na_12_40), (u2 (u2 la 12 42 nb_12_42) 12 43 nb_12_43))) (bM (dC, dI) h g ca A) A) ([.ref h, .int a] : List Value).toArray s 0 0 A) (F0 m 4 ls []) := by
    intro nn1042
    induction nn1042 with
    | zero => intro x1041_3 x1041_2 w1041_i_12_19 w1041_i_12_41 w1041_l_12_17 w1041_l_12_18 w1041_l_12_44 w1041_l_12_45 w1041_a_12_39 w1041_a_12_40 w1041_b_12_42 w1041_b_12_43 hx1041_3 hw1041_i_12_41 hw1041_a_12_39 hw1041_a_12_40 hm1042; exfalso; omega
    | succ nn1042 ih1042 =>
      intro x1041_3 x1041_2 w1041_i_12_19 w1041_i_12_41 w1041_l_12_17 w1041_l_12_18 w1041_l_12_44 w1041_l_12_45 w1041_a_12_39 w1041_a_12_40 w1041_b_12_42 w1041_b_12_43 hx1041_3 hw1041_i_12_41 hw1041_a_12_39 hw1041_a_12_40 hm1042 H locs ls hP hD hS hl
      refine lv_iload_n hx hb dX12_balesIn_4 rfl (lv_at hl 0 rfl) ?_
      refine lv_aload_n hx hb dX12_balesIn_5 rfl (lv_at hl 2 rfl) ?_
      have i_12_1 : 0 ≤ (iv 12 1).toInt ∧ (iv 12 1).toInt ≤ 10 := hI.1 12 1
      refine gM_12_1 hx hb ht hown hK hP m_1140 (v := (iv 12 1)) rfl dX12_balesIn_6 ?_
      refine lv_icmp_ge (tgt := 42) hx hb dX12_balesIn_9 (by decide) (fun c1043 => ?_) (fun c1043 => ?_)
      · have fc1043 := z_le (rfl : ((iv 12 1)).toInt = _) (rfl : (x1041_3).toInt = _) c1043
        refine lv_iload_n hx hb dX12_balesIn_42 rfl (lv_at hl 1 rfl) ?_
        have hP9 : va_P (dC, dI) classes (WM h g ca (u2 (u2 iv 12 19 w1041_i_12_19) 12 41 w1041_i_12_41) (u2 (u2 (u2 (u2 lv 12 17 w1041_l_12_17) 12 18 w1041_l_12_18) 12 44 w1041_l_12_44) 12 45 w1041_l_12_45) (u2 (u2 fa 12 39 w1041_a_12_39) 12 40 w1041_a_12_40) (u2 (u2 la 12 42 w1041_b_12_42) 12 43 w1041_b_12_43)) H := hP
        have hD9 : va_D A (WM h g ca (u2 (u2 iv 12 19 w1041_i_12_19) 12 41 w1041_i_12_41) (u2 (u2 (u2 (u2 lv 12 17 w1041_l_12_17) 12 18 w1041_l_12_18) 12 44 w1041_l_12_44) 12 45 w1041_l_12_45) (u2 (u2 fa 12 39 w1041_a_12_39) 12 40 w1041_a_12_40) (u2 (u2 la 12 42 w1041_b_12_42) 12 43 w1041_b_12_43)) := hD
        exact W.iret (v := x1041_2) hx hb hr (fun t ht9 hW => ⟨⟨x1041_2, ((u2 (u2 iv 12 19 w1041_i_12_19) 12 41 w1041_i_12_41), (u2 (u2 (u2 (u2 lv 12 17 w1041_l_12_17) 12 18 w1041_l_12_18) 12 44 w1041_l_12_44) 12 45 w1041_l_12_45), (u2 (u2 fa 12 39 w1041_a_12_39) 12 40 w1041_a_12_40), (u2 (u2 la 12 42 w1041_b_12_42) 12 43 w1041_b_12_43)), rfl, ⟨w1041_a_12_39, w1041_a_12_40, w1041_b_12_42, w1041_b_12_43, w1041_i_12_19, w1041_i_12_41, w1041_l_12_17, w1041_l_12_18, w1041_l_12_44, w1041_l_12_45, hw1041_a_12_39, hw1041_a_12_40, (show inb (0, 8) w1041_i_12_41 from ⟨by omega, by omega⟩), trivial, rfl⟩, by rw [ht9]; exact hP9, hD9⟩, hS.F ht9⟩) hS.2.2 dX12_balesIn_43
      · have fc1043 := z_nle (rfl : ((iv 12 1)).toInt = _) (rfl : (x1041_3).toInt = _) c1043
        refine lv_iload_n hx hb dX12_balesIn_12 rfl (lv_at hl 1 rfl) ?_
        refine lv_aload_n hx hb dX12_balesIn_13 rfl (lv_at hl 2 rfl) ?_
        refine lv_iload_n hx hb dX12_balesIn_14 rfl (lv_at hl 0 rfl) ?_
        refine lv_aload_n hx hb dX12_balesIn_15 rfl (lv_at hl 2 rfl) ?_
        have i_12_0 : 0 ≤ (iv 12 0).toInt ∧ (iv 12 0).toInt ≤ 3000 := hI.1 12 0
        refine gM_12_0 hx hb ht hown hK hP m_1139 (v := (iv 12 0)) rfl dX12_balesIn_16 ?_
        have hFc := free_all hD hS hA
        refine va_calli (va_runV (As := [.int x1041_3, .int (iv 12 0)]) (rest := [.int x1041_2]) ⟨hx, hb, hml, hown, ht⟩ (c_X12_stateOf l dC dI H.size h g ca (u2 (u2 iv 12 19 w1041_i_12_19) 12 41 w1041_i_12_41) (u2 (u2 (u2 (u2 lv 12 17 w1041_l_12_17) 12 18 w1041_l_12_18) 12 44 w1041_l_12_44) 12 45 w1041_l_12_45) (u2 (u2 fa 12 39 w1041_a_12_39) 12 40 w1041_a_12_40) (u2 (u2 la 12 42 w1041_b_12_42) 12 43 w1041_b_12_43) (IX_a (c := 12) (k := 40) (IX_a (c := 12) (k := 39) (IX_i (c := 12) (k := 41) (IX_i (c := 12) (k := 19) hI (full_i _)) (show inb (0, 8) w1041_i_12_41 from ⟨by omega, by omega⟩)) hw1041_a_12_39) hw1041_a_12_40) x1041_3 (iv 12 0) hJC hJR) (kV 2 ht m_1532 m_1534 m_58 m_89 m_1535 rfl rfl hd_X12_stateOf_v ⟨Nat.le_of_ble_eq_true rfl, Nat.le_of_ble_eq_true rfl⟩) (vW hP hK hD (rM_12 hK hP)) rfl rfl hl.1 rfl (lv_room (Nat.le_of_ble_eq_true rfl)) dX12_balesIn_19 ⟨Nat.le_of_ble_eq_true rfl, Nat.le_of_ble_eq_true rfl⟩) hS (fun q _ h => hFc q h) hFc (fun r1044 u t H1 locs ht9 hvm hr1044 hB hz1 hk1 hS => ?_)
        obtain ⟨n1045, n1046, n1047, n1048, n1049, n1050, n1051, n1052, n1053, n1054, hn1045, hn1046, hn1050, xr1044_0, hr1044, rfl⟩ := hr1044
        have hn1050 : 0 ≤ n1050.toInt ∧ n1050.toInt ≤ 8 := hn1050
        obtain ⟨hP, hD⟩ := hB
        rw [ht9] at hP
        generalize H1 = H at hP hS ⊢
        have hP : va_P (dC, dI) classes (WM h g ca (u2 (u2 iv 12 19 n1049) 12 41 n1050) (u2 (u2 (u2 (u2 lv 12 17 n1051) 12 18 n1052) 12 44 n1053) 12 45 n1054) (u2 (u2 fa 12 39 n1045) 12 40 n1046) (u2 (u2 la 12 42 n1047) 12 43 n1048)) H := hP
        have hD : va_D A (WM h g ca (u2 (u2 iv 12 19 n1049) 12 41 n1050) (u2 (u2 (u2 (u2 lv 12 17 n1051) 12 18 n1052) 12 44 n1053) 12 45 n1054) (u2 (u2 fa 12 39 n1045) 12 40 n1046) (u2 (u2 la 12 42 n1047) 12 43 n1048)) := (show va_D _ (WM h g ca (u2 (u2 iv 12 19 n1049) 12 41 n1050) (u2 (u2 (u2 (u2 lv 12 17 n1051) 12 18 n1052) 12 44 n1053) 12 45 n1054) (u2 (u2 fa 12 39 n1045) 12 40 n1046) (u2 (u2 la 12 42 n1047) 12 43 n1048)) from hD).weaken (fun _ _ _ h => hFc _ h)
        have xr1044_0 : ((r1044 : Int32).toInt ≠ 1 ∨ (1 ≤ (n1054 : Int64).toInt ∧ (n1054 : Int64).toInt ≤ 719856007200)) := xr1044_0
        refine lv_iload_n hx hb dX12_balesIn_22 rfl (lv_at hl 3 rfl) ?_
        refine lv_icmp_ne (tgt := 30) hx hb dX12_balesIn_23 (by decide) (fun c1055 => ?_) (fun c1055 => ?_)
        · have fc1055 := z_ne (rfl : (r1044).toInt = _) (rfl : (a).toInt = _) c1055
          refine lv_iconst (v := 0) hx hb dX12_balesIn_30 (by decide) ?_
          refine vp_callSi (W.runS (As := [.int 0]) (rest := [.int x1041_2]) ⟨hx, hb, hml, hown, ht⟩ (c_X12_bit_0 l dC dI) (kS 1 ht m_1396 m_1397 m_89 m_1398 rfl rfl hd_X12_bit_v ⟨Nat.le_of_ble_eq_true rfl, Nat.le_of_ble_eq_true rfl⟩) (sR noP (hK.sub (tys' := []) [] rfl)) rfl rfl hl.1 rfl (lv_room (Nat.le_of_ble_eq_true rfl)) dX12_balesIn_31 ⟨Nat.le_of_ble_eq_true rfl, Nat.le_of_ble_eq_true rfl⟩) (fun r1056 hr1056 => ?_)
          obtain rfl : 0 = r1056 := hr1056.symm
          refine lv_iadd hx hb dX12_balesIn_34 ?_
          refine lv_topi (fun v1057 ev1057 => ?_)
          refine lv_istore_n (lv' := [(2, .int v1057), (3, .int x1041_3), (0, .ref h), (1, .int a)]) hx hb dX12_balesIn_35 rfl hl (by decide) rfl (fun ls hl => ?_)
          obtain ⟨v1058, ev1058⟩ : ∃ y : Int32, y = x1041_3 + 1 := ⟨_, rfl⟩
          have tv1058 := z_add ev1058 rfl (by decide : (1 : Int32).toInt = 1) (by omega) (by omega)
          refine lv_iinc (v := v1058) (lv' := [(3, .int v1058), (2, .int v1057), (0, .ref h), (1, .int a)]) hx hb dX12_balesIn_36 hl (k := 1) rfl (by rw [ev1058]; rfl) (by decide) rfl (fun ls hl => ?_)
          refine lv_goto (tgt := 4) hx hb dX12_balesIn_39 (by decide) ?_
          exact ih1042 v1058 v1057 n1049 n1050 n1051 n1052 n1053 n1054 n1045 n1046 n1047 n1048 ⟨by omega, by omega⟩ ⟨by omega, by omega⟩ hn1045 hn1046 (by omega) _ _ ls hP hD hS (lv_sub hl [0, 1, 2, 3] rfl)
        · have fc1055 := z_eq (rfl : (r1044).toInt = _) (rfl : (a).toInt = _) c1055
          refine lv_iconst (v := 1) hx hb dX12_balesIn_26 (by decide) ?_
          refine lv_goto (tgt := 31) hx hb dX12_balesIn_27 (by decide) ?_
          refine vp_callSi (W.runS (As := [.int 1]) (rest := [.int x1041_2]) ⟨hx, hb, hml, hown, ht⟩ (c_X12_bit_1 l dC dI) (kS 1 ht m_1396 m_1397 m_89 m_1398 rfl rfl hd_X12_bit_v ⟨Nat.le_of_ble_eq_true rfl, Nat.le_of_ble_eq_true rfl⟩) (sR noP (hK.sub (tys' := []) [] rfl)) rfl rfl hl.1 rfl (lv_room (Nat.le_of_ble_eq_true rfl)) dX12_balesIn_31 ⟨Nat.le_of_ble_eq_true rfl, Nat.le_of_ble_eq_true rfl⟩) (fun r1059 hr1059 => ?_)
          obtain rfl : 1 = r1059 := hr1059.symm
          refine lv_iadd hx hb dX12_balesIn_34 ?_
          refine lv_topi (fun v1060 ev1060 => ?_)
          refine lv_istore_n (lv' := [(2, .int v1060), (3, .int x1041_3), (0, .ref h), (1, .int a)]) hx hb dX12_balesIn_35 rfl hl (by decide) rfl (fun ls hl => ?_)
          obtain ⟨v1061, ev1061⟩ : ∃ y : Int32, y = x1041_3 + 1 := ⟨_, rfl⟩
          have tv1061 := z_add ev1061 rfl (by decide : (1 : Int32).toInt = 1) (by omega) (by omega)
          refine lv_iinc (v := v1061) (lv' := [(3, .int v1061), (2, .int v1060), (0, .ref h), (1, .int a)]) hx hb dX12_balesIn_36 hl (k := 1) rfl (by rw [ev1061]; rfl) (by decide) rfl (fun ls hl => ?_)
          refine lv_goto (tgt := 4) hx hb dX12_balesIn_39 (by decide) ?_
          exact ih1042 v1061 v1060 n1049 n1050 n1051 n1052 n1053 n1054 n1045 n1046 n1047 n1048 ⟨by omega, by omega⟩ ⟨by omega, by omega⟩ hn1045 hn1046 (by omega) _ _ ls hP hD hS (lv_sub hl [0, 1, 2, 3] rfl)
  have i_12_41 : 0 ≤ (iv 12 41).toInt ∧ (iv 12 41).toInt ≤ 8 := hI.1 12 41
  exact lp1042 11 0 0 (iv 12 19) (iv 12 41) (lv 12 17) (lv 12 18) (lv 12 44) (lv 12 45) (fa 12 39) (fa 12 40) (la 12 42) (la 12 43) ⟨by decide, by decide⟩ ⟨by omega, by omega⟩ (hI.2 12 39) (hI.2 12 40) (by first | decide | omega) _ _ ls hP hD hS (lv_sub hl [0, 1, 2, 3] rfl)
set_option maxHeartbeats 4000000 in
set_option maxRecDepth 100000 in
/-- X12_count -/
theorem c_X12_count (l : Launch) (dC : Nat → ClassId) (dI : Nat → Nat → Nat) (sz : Nat) (h : Nat) (g : Nat → Nat → Nat) (ca : Nat → Nat → ClassId) (iv : Nat → Nat → Int32) (lv : Nat → Nat → Int64) (fa : Nat → Nat → Nat → Int32) (la : Nat → Nat → Nat → Int64) (hI : IX iv fa) (a : Int32) (hJC : JCf (iv 12 23).toInt (fa 12 25) (fa 12 26) (fa 12 27) (fa 12 28)) (hJR : JRf (iv 12 3).toInt (fa 12 7)) : Met l yX12_count (wc yX12_count cX12_count 5 (some .int)) ({ frames := 4, cells := 0, slots := 0, locals := 107 } : Room) (pW (dC, dI) classes (WM h g ca iv lv fa la) (TM ca) sz [.ref h, .int a]) (va_Qi (fun r (u : SS) => ∃ (na_12_39 : Nat → Int32) (na_12_40 : Nat → Int32) (nb_12_42 : Nat → Int64) (nb_12_43 : Nat → Int64) (ni_12_19 : Int32) (ni_12_41 : Int32) (nl_12_17 : Int64) (nl_12_18 : Int64) (nl_12_44 : Int64) (nl_12_45 : Int64), (∀ j, inb (bA 12 39 j) (na_12_39 j)) ∧ (∀ j, inb (bA 12 40 j) (na_12_40 j)) ∧ inb (bI 12 41) ni_12_41 ∧ (True) ∧ u = ((u2 (u2 iv 12 19 ni_12_19) 12 41 ni_12_41), (u2 (u2 (u2 (u2 lv 12 17 nl_12_17) 12 18 nl_12_18) 12 44 nl_12_44) 12 45 nl_12_45), (u2 (u2 fa 12 39 na_12_39) 12 40 na_12_40), (u2 (u2 la 12 42 nb_12_42) 12 43 nb_12_43))) (bM (dC, dI) h g ca (va_A (WM h g ca iv lv fa la) sz)) (va_A (WM h g ca iv lv fa la) sz)) 0 0 (va_A (WM h g ca iv lv fa la) sz) := by
  refine Met.ofW (cc := cX12_count) (maxL := 5) (ret := (some .int)) (by decide) rfl ?_
  intro p e s m args below meth c s₁ B hml hv
  obtain ⟨rfl, hsz, hP, hK, hD0⟩ := hv
  have hx := B.exec
  have hb := B.bytes
  have hr := B.returns
  have ht := tb_tl (atoms_spec (ws := wc yX12_count cX12_count 5 (some .int)) B.pre)
  have hown : s.vm.findClass RX12 = some m.cls := findClass_of_methodNamed B.named
  have hlocks := B.notSynchronized
  subst hsz
  have hD := hD0.self (sz := s.heap.size)
  generalize hAe : va_A (WM h g ca iv lv fa la) s.heap.size = A at hD ⊢
  have hA : ∀ q : Nat, s.heap.size ≤ q → A q := fun q h => by rw [← hAe]; exact Or.inr h
  have hS : va_S A s.heap s.heap [] := va_S.rf
  have hl := lv_entry [.ref h, .int a] (n := 5) (Nat.le_of_ble_eq_true rfl)
  rw [lg_entry_eq]
  generalize (lg_sl [.ref h, .int a] ++ List.replicate (5 - (lg_sl [.ref h, .int a]).length) Slot.unset).toArray = ls at hl ⊢
  have hl : lv_has ls 5 [(0, .ref h), (1, .int a)] := hl
  refine lv_iconst (v := 0) hx hb dX12_count_0 (by decide) ?_
  refine lv_istore_n (lv' := [(2, .int 0), (0, .ref h), (1, .int a)]) hx hb dX12_count_1 rfl hl (by decide) rfl (fun ls hl => ?_)
  refine lv_iconst (v := 0) hx hb dX12_count_2 (by decide) ?_
  refine lv_istore_n (lv' := [(3, .int 0), (2, .int 0), (0, .ref h), (1, .int a)]) hx hb dX12_count_3 rfl hl (by decide) rfl (fun ls hl => ?_)
  refine lv_iconst (v := 0) hx hb dX12_count_4 (by decide) ?_
  refine lv_istore (lv' := [(4, .int 0), (3, .int 0), (2, .int 0), (0, .ref h), (1, .int a)]) hx hb dX12_count_5 hl (by decide) rfl (fun ls hl => ?_)
  have lp29694 : ∀ (nn29694 : Nat) (x29693_4 : Int32) (x29693_2 : Int32), 0 ≤ x29693_4.toInt ∧ x29693_4.toInt ≤ 60 → 60 - x29693_4.toInt < (nn29694 : Int) → ∀ (H : Heap) (locs : List Loc), ∀ (ls : Array Slot), va_P (dC, dI) classes (WM h g ca iv lv fa la) H → va_D A (WM h g ca iv lv fa la) → va_S A s.heap H locs → lv_has ls 5 [(4, .int x29693_4), (3, .int 0), (2, .int x29693_2), (0, .ref h), (1, .int a)] → W p l e ({ frames := 4, cells := 0, slots := 0, locals := 107 } : Room) s m ([.ref h, .int a] : List Value).toArray below meth c H locs 0 0 (MQ below (va_Qi (fun r (u : SS) => ∃ (na_12_39 : Nat → Int32) (na_12_40 : Nat → Int32) (nb_12_42 : Nat → Int64) (nb_12_43 : Nat → Int64) (ni_12_19 : Int32) (ni_12_41 : Int32) (nl_12_17 : Int64) (nl_12_18 : Int64) (nl_12_44 : Int64) (nl_12_45 : Int64), (∀ j, inb (bA 12 39 j) (na_12_39 j)) ∧ (∀ j, inb (bA 12 40 j) (na_12_40 j)) ∧ inb (bI 12 41) ni_12_41 ∧ (True) ∧ u = ((u2 (u2 iv 12 19 ni_12_19) 12 41 ni_12_41), (u2 (u2 (u2 (u2 lv 12 17 nl_12_17) 12 18 nl_12_18) 12 44 nl_12_44) 12 45 nl_12_45), (u2 (u2 fa 12 39 na_12_39) 12 40 na_12_40), (u2 (u2 la 12 42 nb_12_42) 12 43 nb_12_43))) (bM (dC, dI) h g ca A) A) ([.ref h, .int a] : List Value).toArray s 0 0 A) (F0 m 7 ls []) := by
    intro nn29694
    induction nn29694 with
    | zero => intro x29693_4 x29693_2 hx29693_4 hm29694; exfalso; omega
    | succ nn29694 ih29694 =>
      intro x29693_4 x29693_2 hx29693_4 hm29694 H locs ls hP hD hS hl
      refine lv_iload hx hb dX12_count_7 (lv_at hl 0 rfl) ?_
      refine lv_aload_n hx hb dX12_count_9 rfl (lv_at hl 3 rfl) ?_
      have i_12_3 : 0 ≤ (iv 12 3).toInt ∧ (iv 12 3).toInt ≤ 60 := hI.1 12 3
      refine gM_12_3 hx hb ht hown hK hP m_1142 (v := (iv 12 3)) rfl dX12_count_10 ?_
      refine lv_icmp_ge (tgt := 43) hx hb dX12_count_13 (by decide) (fun c29695 => ?_) (fun c29695 => ?_)
      · have fc29695 := z_le (rfl : ((iv 12 3)).toInt = _) (rfl : (x29693_4).toInt = _) c29695
        refine lv_iconst (v := 0) hx hb dX12_count_43 (by decide) ?_
        refine lv_istore (lv' := [(4, .int 0), (3, .int 0), (2, .int x29693_2), (0, .ref h), (1, .int a)]) hx hb dX12_count_44 hl (by decide) rfl (fun ls hl => ?_)
        have lp30229 : ∀ (nn30229 : Nat) (x30228_4 : Int32) (x30228_3 : Int32), 0 ≤ x30228_4.toInt ∧ x30228_4.toInt ≤ 40 → 40 - x30228_4.toInt < (nn30229 : Int) → ∀ (H : Heap) (locs : List Loc), ∀ (ls : Array Slot), va_P (dC, dI) classes (WM h g ca iv lv fa la) H → va_D A (WM h g ca iv lv fa la) → va_S A s.heap H locs → lv_has ls 5 [(4, .int x30228_4), (3, .int x30228_3), (2, .int x29693_2), (0, .ref h), (1, .int a)] → W p l e ({ frames := 4, cells := 0, slots := 0, locals := 107 } : Room) s m ([.ref h, .int a] : List Value).toArray below meth c H locs 0 0 (MQ below (va_Qi (fun r (u : SS) => ∃ (na_12_39 : Nat → Int32) (na_12_40 : Nat → Int32) (nb_12_42 : Nat → Int64) (nb_12_43 : Nat → Int64) (ni_12_19 : Int32) (ni_12_41 : Int32) (nl_12_17 : Int64) (nl_12_18 : Int64) (nl_12_44 : Int64) (nl_12_45 : Int64), (∀ j, inb (bA 12 39 j) (na_12_39 j)) ∧ (∀ j, inb (bA 12 40 j) (na_12_40 j)) ∧ inb (bI 12 41) ni_12_41 ∧ (True) ∧ u = ((u2 (u2 iv 12 19 ni_12_19) 12 41 ni_12_41), (u2 (u2 (u2 (u2 lv 12 17 nl_12_17) 12 18 nl_12_18) 12 44 nl_12_44) 12 45 nl_12_45), (u2 (u2 fa 12 39 na_12_39) 12 40 na_12_40), (u2 (u2 la 12 42 nb_12_42) 12 43 nb_12_43))) (bM (dC, dI) h g ca A) A) ([.ref h, .int a] : List Value).toArray s 0 0 A) (F0 m 46 ls []) := by
          intro nn30229
          induction nn30229 with
          | zero => intro x30228_4 x30228_3 hx30228_4 hm30229; exfalso; omega
          | succ nn30229 ih30229 =>
            intro x30228_4 x30228_3 hx30228_4 hm30229 H locs ls hP hD hS hl
            refine lv_iload hx hb dX12_count_46 (lv_at hl 0 rfl) ?_
            refine lv_aload_n hx hb dX12_count_48 rfl (lv_at hl 3 rfl) ?_
            have i_12_67 : 0 ≤ (iv 12 67).toInt ∧ (iv 12 67).toInt ≤ 40 := hI.1 12 67
            refine gM_12_67 hx hb ht hown hK hP m_1206 (v := (iv 12 67)) rfl dX12_count_49 ?_
            refine lv_icmp_ge (tgt := 71) hx hb dX12_count_52 (by decide) (fun c30230 => ?_) (fun c30230 => ?_)
            · have fc30230 := z_le (rfl : ((iv 12 67)).toInt = _) (rfl : (x30228_4).toInt = _) c30230
              refine lv_iload_n hx hb dX12_count_71 rfl (lv_at hl 4 rfl) ?_
              rcases sw_0_10 a with h30231 | rfl | rfl | rfl | rfl | rfl | rfl | rfl | rfl | rfl | rfl | rfl
              · refine lv_tableOut (tgt := 183) hx hb dX12_count_72 h30231 (by decide) ?_
                refine lv_ldc hx hb hown (ht _ m_1373) dX12_count_183 ?_
                have hP9 : va_P (dC, dI) classes (WM h g ca (u2 (u2 iv 12 19 (iv 12 19)) 12 41 (iv 12 41)) (u2 (u2 (u2 (u2 lv 12 17 (lv 12 17)) 12 18 (lv 12 18)) 12 44 (lv 12 44)) 12 45 (lv 12 45)) (u2 (u2 fa 12 39 (fa 12 39)) 12 40 (fa 12 40)) (u2 (u2 la 12 42 (la 12 42)) 12 43 (la 12 43))) H := hP
                have hD9 : va_D A (WM h g ca (u2 (u2 iv 12 19 (iv 12 19)) 12 41 (iv 12 41)) (u2 (u2 (u2 (u2 lv 12 17 (lv 12 17)) 12 18 (lv 12 18)) 12 44 (lv 12 44)) 12 45 (lv 12 45)) (u2 (u2 fa 12 39 (fa 12 39)) 12 40 (fa 12 40)) (u2 (u2 la 12 42 (la 12 42)) 12 43 (la 12 43))) := hD
                exact W.iret (v := (-100002)) hx hb hr (fun t ht9 hW => ⟨⟨(-100002), ((u2 (u2 iv 12 19 (iv 12 19)) 12 41 (iv 12 41)), (u2 (u2 (u2 (u2 lv 12 17 (lv 12 17)) 12 18 (lv 12 18)) 12 44 (lv 12 44)) 12 45 (lv 12 45)), (u2 (u2 fa 12 39 (fa 12 39)) 12 40 (fa 12 40)), (u2 (u2 la 12 42 (la 12 42)) 12 43 (la 12 43))), rfl, ⟨(fa 12 39), (fa 12 40), (la 12 42), (la 12 43), (iv 12 19), (iv 12 41), (lv 12 17), (lv 12 18), (lv 12 44), (lv 12 45), (hI.2 12 39), (hI.2 12 40), (hI.1 12 41), trivial, rfl⟩, by rw [ht9]; exact hP9, hD9⟩, hS.F ht9⟩) hS.2.2 dX12_count_185
              · refine lv_tableIn (tgt := 132) (off := 60) hx hb dX12_count_72 (by decide) (by decide) rfl (by decide) ?_
                refine lv_aload_n hx hb dX12_count_132 rfl (lv_at hl 3 rfl) ?_
                have i_12_0 : 0 ≤ (iv 12 0).toInt ∧ (iv 12 0).toInt ≤ 3000 := hI.1 12 0
                refine gM_12_0 hx hb ht hown hK hP m_1139 (v := (iv 12 0)) rfl dX12_count_133 ?_
                have hP9 : va_P (dC, dI) classes (WM h g ca (u2 (u2 iv 12 19 (iv 12 19)) 12 41 (iv 12 41)) (u2 (u2 (u2 (u2 lv 12 17 (lv 12 17)) 12 18 (lv 12 18)) 12 44 (lv 12 44)) 12 45 (lv 12 45)) (u2 (u2 fa 12 39 (fa 12 39)) 12 40 (fa 12 40)) (u2 (u2 la 12 42 (la 12 42)) 12 43 (la 12 43))) H := hP
                have hD9 : va_D A (WM h g ca (u2 (u2 iv 12 19 (iv 12 19)) 12 41 (iv 12 41)) (u2 (u2 (u2 (u2 lv 12 17 (lv 12 17)) 12 18 (lv 12 18)) 12 44 (lv 12 44)) 12 45 (lv 12 45)) (u2 (u2 fa 12 39 (fa 12 39)) 12 40 (fa 12 40)) (u2 (u2 la 12 42 (la 12 42)) 12 43 (la 12 43))) := hD
                exact W.iret (v := (iv 12 0)) hx hb hr (fun t ht9 hW => ⟨⟨(iv 12 0), ((u2 (u2 iv 12 19 (iv 12 19)) 12 41 (iv 12 41)), (u2 (u2 (u2 (u2 lv 12 17 (lv 12 17)) 12 18 (lv 12 18)) 12 44 (lv 12 44)) 12 45 (lv 12 45)), (u2 (u2 fa 12 39 (fa 12 39)) 12 40 (fa 12 40)), (u2 (u2 la 12 42 (la 12 42)) 12 43 (la 12 43))), rfl, ⟨(fa 12 39), (fa 12 40), (la 12 42), (la 12 43), (iv 12 19), (iv 12 41), (lv 12 17), (lv 12 18), (lv 12 44), (lv 12 45), (hI.2 12 39), (hI.2 12 40), (hI.1 12 41), trivial, rfl⟩, by rw [ht9]; exact hP9, hD9⟩, hS.F ht9⟩) hS.2.2 dX12_count_136
              · refine lv_tableIn (tgt := 137) (off := 65) hx hb dX12_count_72 (by decide) (by decide) rfl (by decide) ?_
                refine lv_aload_n hx hb dX12_count_137 rfl (lv_at hl 3 rfl) ?_
                have i_12_1 : 0 ≤ (iv 12 1).toInt ∧ (iv 12 1).toInt ≤ 10 := hI.1 12 1
                refine gM_12_1 hx hb ht hown hK hP m_1140 (v := (iv 12 1)) rfl dX12_count_138 ?_
                have hP9 : va_P (dC, dI) classes (WM h g ca (u2 (u2 iv 12 19 (iv 12 19)) 12 41 (iv 12 41)) (u2 (u2 (u2 (u2 lv 12 17 (lv 12 17)) 12 18 (lv 12 18)) 12 44 (lv 12 44)) 12 45 (lv 12 45)) (u2 (u2 fa 12 39 (fa 12 39)) 12 40 (fa 12 40)) (u2 (u2 la 12 42 (la 12 42)) 12 43 (la 12 43))) H := hP
                have hD9 : va_D A (WM h g ca (u2 (u2 iv 12 19 (iv 12 19)) 12 41 (iv 12 41)) (u2 (u2 (u2 (u2 lv 12 17 (lv 12 17)) 12 18 (lv 12 18)) 12 44 (lv 12 44)) 12 45 (lv 12 45)) (u2 (u2 fa 12 39 (fa 12 39)) 12 40 (fa 12 40)) (u2 (u2 la 12 42 (la 12 42)) 12 43 (la 12 43))) := hD
                exact W.iret (v := (iv 12 1)) hx hb hr (fun t ht9 hW => ⟨⟨(iv 12 1), ((u2 (u2 iv 12 19 (iv 12 19)) 12 41 (iv 12 41)), (u2 (u2 (u2 (u2 lv 12 17 (lv 12 17)) 12 18 (lv 12 18)) 12 44 (lv 12 44)) 12 45 (lv 12 45)), (u2 (u2 fa 12 39 (fa 12 39)) 12 40 (fa 12 40)), (u2 (u2 la 12 42 (la 12 42)) 12 43 (la 12 43))), rfl, ⟨(fa 12 39), (fa 12 40), (la 12 42), (la 12 43), (iv 12 19), (iv 12 41), (lv 12 17), (lv 12 18), (lv 12 44), (lv 12 45), (hI.2 12 39), (hI.2 12 40), (hI.1 12 41), trivial, rfl⟩, by rw [ht9]; exact hP9, hD9⟩, hS.F ht9⟩) hS.2.2 dX12_count_141
              · refine lv_tableIn (tgt := 142) (off := 70) hx hb dX12_count_72 (by decide) (by decide) rfl (by decide) ?_
                refine lv_aload_n hx hb dX12_count_142 rfl (lv_at hl 3 rfl) ?_
                refine gM_12_3 hx hb ht hown hK hP m_1142 (v := (iv 12 3)) rfl dX12_count_143 ?_
                have hP9 : va_P (dC, dI) classes (WM h g ca (u2 (u2 iv 12 19 (iv 12 19)) 12 41 (iv 12 41)) (u2 (u2 (u2 (u2 lv 12 17 (lv 12 17)) 12 18 (lv 12 18)) 12 44 (lv 12 44)) 12 45 (lv 12 45)) (u2 (u2 fa 12 39 (fa 12 39)) 12 40 (fa 12 40)) (u2 (u2 la 12 42 (la 12 42)) 12 43 (la 12 43))) H := hP
                have hD9 : va_D A (WM h g ca (u2 (u2 iv 12 19 (iv 12 19)) 12 41 (iv 12 41)) (u2 (u2 (u2 (u2 lv 12 17 (lv 12 17)) 12 18 (lv 12 18)) 12 44 (lv 12 44)) 12 45 (lv 12 45)) (u2 (u2 fa 12 39 (fa 12 39)) 12 40 (fa 12 40)) (u2 (u2 la 12 42 (la 12 42)) 12 43 (la 12 43))) := hD
                exact W.iret (v := (iv 12 3)) hx hb hr (fun t ht9 hW => ⟨⟨(iv 12 3), ((u2 (u2 iv 12 19 (iv 12 19)) 12 41 (iv 12 41)), (u2 (u2 (u2 (u2 lv 12 17 (lv 12 17)) 12 18 (lv 12 18)) 12 44 (lv 12 44)) 12 45 (lv 12 45)), (u2 (u2 fa 12 39 (fa 12 39)) 12 40 (fa 12 40)), (u2 (u2 la 12 42 (la 12 42)) 12 43 (la 12 43))), rfl, ⟨(fa 12 39), (fa 12 40), (la 12 42), (la 12 43), (iv 12 19), (iv 12 41), (lv 12 17), (lv 12 18), (lv 12 44), (lv 12 45), (hI.2 12 39), (hI.2 12 40), (hI.1 12 41), trivial, rfl⟩, by rw [ht9]; exact hP9, hD9⟩, hS.F ht9⟩) hS.2.2 dX12_count_146
              · refine lv_tableIn (tgt := 147) (off := 75) hx hb dX12_count_72 (by decide) (by decide) rfl (by decide) ?_
                refine lv_iload_n hx hb dX12_count_147 rfl (lv_at hl 2 rfl) ?_
                have hP9 : va_P (dC, dI) classes (WM h g ca (u2 (u2 iv 12 19 (iv 12 19)) 12 41 (iv 12 41)) (u2 (u2 (u2 (u2 lv 12 17 (lv 12 17)) 12 18 (lv 12 18)) 12 44 (lv 12 44)) 12 45 (lv 12 45)) (u2 (u2 fa 12 39 (fa 12 39)) 12 40 (fa 12 40)) (u2 (u2 la 12 42 (la 12 42)) 12 43 (la 12 43))) H := hP
                have hD9 : va_D A (WM h g ca (u2 (u2 iv 12 19 (iv 12 19)) 12 41 (iv 12 41)) (u2 (u2 (u2 (u2 lv 12 17 (lv 12 17)) 12 18 (lv 12 18)) 12 44 (lv 12 44)) 12 45 (lv 12 45)) (u2 (u2 fa 12 39 (fa 12 39)) 12 40 (fa 12 40)) (u2 (u2 la 12 42 (la 12 42)) 12 43 (la 12 43))) := hD
                exact W.iret (v := x29693_2) hx hb hr (fun t ht9 hW => ⟨⟨x29693_2, ((u2 (u2 iv 12 19 (iv 12 19)) 12 41 (iv 12 41)), (u2 (u2 (u2 (u2 lv 12 17 (lv 12 17)) 12 18 (lv 12 18)) 12 44 (lv 12 44)) 12 45 (lv 12 45)), (u2 (u2 fa 12 39 (fa 12 39)) 12 40 (fa 12 40)), (u2 (u2 la 12 42 (la 12 42)) 12 43 (la 12 43))), rfl, ⟨(fa 12 39), (fa 12 40), (la 12 42), (la 12 43), (iv 12 19), (iv 12 41), (lv 12 17), (lv 12 18), (lv 12 44), (lv 12 45), (hI.2 12 39), (hI.2 12 40), (hI.1 12 41), trivial, rfl⟩, by rw [ht9]; exact hP9, hD9⟩, hS.F ht9⟩) hS.2.2 dX12_count_148
              · refine lv_tableIn (tgt := 149) (off := 77) hx hb dX12_count_72 (by decide) (by decide) rfl (by decide) ?_
                refine lv_aload_n hx hb dX12_count_149 rfl (lv_at hl 3 rfl) ?_
                have i_12_13 : 0 ≤ (iv 12 13).toInt ∧ (iv 12 13).toInt ≤ 30 := hI.1 12 13
                refine gM_12_13 hx hb ht hown hK hP m_1152 (v := (iv 12 13)) rfl dX12_count_150 ?_
                have hP9 : va_P (dC, dI) classes (WM h g ca (u2 (u2 iv 12 19 (iv 12 19)) 12 41 (iv 12 41)) (u2 (u2 (u2 (u2 lv 12 17 (lv 12 17)) 12 18 (lv 12 18)) 12 44 (lv 12 44)) 12 45 (lv 12 45)) (u2 (u2 fa 12 39 (fa 12 39)) 12 40 (fa 12 40)) (u2 (u2 la 12 42 (la 12 42)) 12 43 (la 12 43))) H := hP
                have hD9 : va_D A (WM h g ca (u2 (u2 iv 12 19 (iv 12 19)) 12 41 (iv 12 41)) (u2 (u2 (u2 (u2 lv 12 17 (lv 12 17)) 12 18 (lv 12 18)) 12 44 (lv 12 44)) 12 45 (lv 12 45)) (u2 (u2 fa 12 39 (fa 12 39)) 12 40 (fa 12 40)) (u2 (u2 la 12 42 (la 12 42)) 12 43 (la 12 43))) := hD
                exact W.iret (v := (iv 12 13)) hx hb hr (fun t ht9 hW => ⟨⟨(iv 12 13), ((u2 (u2 iv 12 19 (iv 12 19)) 12 41 (iv 12 41)), (u2 (u2 (u2 (u2 lv 12 17 (lv 12 17)) 12 18 (lv 12 18)) 12 44 (lv 12 44)) 12 45 (lv 12 45)), (u2 (u2 fa 12 39 (fa 12 39)) 12 40 (fa 12 40)), (u2 (u2 la 12 42 (la 12 42)) 12 43 (la 12 43))), rfl, ⟨(fa 12 39), (fa 12 40), (la 12 42), (la 12 43), (iv 12 19), (iv 12 41), (lv 12 17), (lv 12 18), (lv 12 44), (lv 12 45), (hI.2 12 39), (hI.2 12 40), (hI.1 12 41), trivial, rfl⟩, by rw [ht9]; exact hP9, hD9⟩, hS.F ht9⟩) hS.2.2 dX12_count_153
              · refine lv_tableIn (tgt := 154) (off := 82) hx hb dX12_count_72 (by decide) (by decide) rfl (by decide) ?_
                refine lv_aload_n hx hb dX12_count_154 rfl (lv_at hl 3 rfl) ?_
                have i_12_23 : 0 ≤ (iv 12 23).toInt ∧ (iv 12 23).toInt ≤ 8 := hI.1 12 23
                refine gM_12_23 hx hb ht hown hK hP m_1162 (v := (iv 12 23)) rfl dX12_count_155 ?_
                have hP9 : va_P (dC, dI) classes (WM h g ca (u2 (u2 iv 12 19 (iv 12 19)) 12 41 (iv 12 41)) (u2 (u2 (u2 (u2 lv 12 17 (lv 12 17)) 12 18 (lv 12 18)) 12 44 (lv 12 44)) 12 45 (lv 12 45)) (u2 (u2 fa 12 39 (fa 12 39)) 12 40 (fa 12 40)) (u2 (u2 la 12 42 (la 12 42)) 12 43 (la 12 43))) H := hP
                have hD9 : va_D A (WM h g ca (u2 (u2 iv 12 19 (iv 12 19)) 12 41 (iv 12 41)) (u2 (u2 (u2 (u2 lv 12 17 (lv 12 17)) 12 18 (lv 12 18)) 12 44 (lv 12 44)) 12 45 (lv 12 45)) (u2 (u2 fa 12 39 (fa 12 39)) 12 40 (fa 12 40)) (u2 (u2 la 12 42 (la 12 42)) 12 43 (la 12 43))) := hD
                exact W.iret (v := (iv 12 23)) hx hb hr (fun t ht9 hW => ⟨⟨(iv 12 23), ((u2 (u2 iv 12 19 (iv 12 19)) 12 41 (iv 12 41)), (u2 (u2 (u2 (u2 lv 12 17 (lv 12 17)) 12 18 (lv 12 18)) 12 44 (lv 12 44)) 12 45 (lv 12 45)), (u2 (u2 fa 12 39 (fa 12 39)) 12 40 (fa 12 40)), (u2 (u2 la 12 42 (la 12 42)) 12 43 (la 12 43))), rfl, ⟨(fa 12 39), (fa 12 40), (la 12 42), (la 12 43), (iv 12 19), (iv 12 41), (lv 12 17), (lv 12 18), (lv 12 44), (lv 12 45), (hI.2 12 39), (hI.2 12 40), (hI.1 12 41), trivial, rfl⟩, by rw [ht9]; exact hP9, hD9⟩, hS.F ht9⟩) hS.2.2 dX12_count_158
              · refine lv_tableIn (tgt := 159) (off := 87) hx hb dX12_count_72 (by decide) (by decide) rfl (by decide) ?_
                refine lv_aload_n hx hb dX12_count_159 rfl (lv_at hl 3 rfl) ?_
                refine gM_12_67 hx hb ht hown hK hP m_1206 (v := (iv 12 67)) rfl dX12_count_160 ?_
                have hP9 : va_P (dC, dI) classes (WM h g ca (u2 (u2 iv 12 19 (iv 12 19)) 12 41 (iv 12 41)) (u2 (u2 (u2 (u2 lv 12 17 (lv 12 17)) 12 18 (lv 12 18)) 12 44 (lv 12 44)) 12 45 (lv 12 45)) (u2 (u2 fa 12 39 (fa 12 39)) 12 40 (fa 12 40)) (u2 (u2 la 12 42 (la 12 42)) 12 43 (la 12 43))) H := hP
                have hD9 : va_D A (WM h g ca (u2 (u2 iv 12 19 (iv 12 19)) 12 41 (iv 12 41)) (u2 (u2 (u2 (u2 lv 12 17 (lv 12 17)) 12 18 (lv 12 18)) 12 44 (lv 12 44)) 12 45 (lv 12 45)) (u2 (u2 fa 12 39 (fa 12 39)) 12 40 (fa 12 40)) (u2 (u2 la 12 42 (la 12 42)) 12 43 (la 12 43))) := hD
                exact W.iret (v := (iv 12 67)) hx hb hr (fun t ht9 hW => ⟨⟨(iv 12 67), ((u2 (u2 iv 12 19 (iv 12 19)) 12 41 (iv 12 41)), (u2 (u2 (u2 (u2 lv 12 17 (lv 12 17)) 12 18 (lv 12 18)) 12 44 (lv 12 44)) 12 45 (lv 12 45)), (u2 (u2 fa 12 39 (fa 12 39)) 12 40 (fa 12 40)), (u2 (u2 la 12 42 (la 12 42)) 12 43 (la 12 43))), rfl, ⟨(fa 12 39), (fa 12 40), (la 12 42), (la 12 43), (iv 12 19), (iv 12 41), (lv 12 17), (lv 12 18), (lv 12 44), (lv 12 45), (hI.2 12 39), (hI.2 12 40), (hI.1 12 41), trivial, rfl⟩, by rw [ht9]; exact hP9, hD9⟩, hS.F ht9⟩) hS.2.2 dX12_count_163
              · refine lv_tableIn (tgt := 164) (off := 92) hx hb dX12_count_72 (by decide) (by decide) rfl (by decide) ?_
                refine lv_aload_n hx hb dX12_count_164 rfl (lv_at hl 3 rfl) ?_
                refine lv_iconst (v := 1) hx hb dX12_count_165 (by decide) ?_
                have hFc := free_all hD hS hA
                refine va_calli (va_runV (As := [.int 1]) (rest := []) ⟨hx, hb, hml, hown, ht⟩ (c_X12_balesIn l dC dI H.size h g ca iv lv fa la hI 1 hJC hJR) (kV 1 ht m_1712 m_1714 m_75 m_89 m_1715 rfl rfl hd_X12_balesIn_v ⟨Nat.le_of_ble_eq_true rfl, Nat.le_of_ble_eq_true rfl⟩) (vW hP hK hD (rM_12 hK hP)) rfl rfl hl.1 rfl (lv_room (Nat.le_of_ble_eq_true rfl)) dX12_count_166 ⟨Nat.le_of_ble_eq_true rfl, Nat.le_of_ble_eq_true rfl⟩) hS (fun q _ h => hFc q h) hFc (fun r30232 u t H1 locs ht9 hvm hr30232 hB hz1 hk1 hS => ?_)
                obtain ⟨n30233, n30234, n30235, n30236, n30237, n30238, n30239, n30240, n30241, n30242, hn30233, hn30234, hn30238, hr30232, rfl⟩ := hr30232
                have hn30238 : 0 ≤ n30238.toInt ∧ n30238.toInt ≤ 8 := hn30238
                obtain ⟨hP, hD⟩ := hB
                rw [ht9] at hP
                generalize H1 = H at hP hS ⊢
                have hP : va_P (dC, dI) classes (WM h g ca (u2 (u2 iv 12 19 n30237) 12 41 n30238) (u2 (u2 (u2 (u2 lv 12 17 n30239) 12 18 n30240) 12 44 n30241) 12 45 n30242) (u2 (u2 fa 12 39 n30233) 12 40 n30234) (u2 (u2 la 12 42 n30235) 12 43 n30236)) H := hP
                have hD : va_D A (WM h g ca (u2 (u2 iv 12 19 n30237) 12 41 n30238) (u2 (u2 (u2 (u2 lv 12 17 n30239) 12 18 n30240) 12 44 n30241) 12 45 n30242) (u2 (u2 fa 12 39 n30233) 12 40 n30234) (u2 (u2 la 12 42 n30235) 12 43 n30236)) := (show va_D _ (WM h g ca (u2 (u2 iv 12 19 n30237) 12 41 n30238) (u2 (u2 (u2 (u2 lv 12 17 n30239) 12 18 n30240) 12 44 n30241) 12 45 n30242) (u2 (u2 fa 12 39 n30233) 12 40 n30234) (u2 (u2 la 12 42 n30235) 12 43 n30236)) from hD).weaken (fun _ _ _ h => hFc _ h)
                have hP9 : va_P (dC, dI) classes (WM h g ca (u2 (u2 iv 12 19 n30237) 12 41 n30238) (u2 (u2 (u2 (u2 lv 12 17 n30239) 12 18 n30240) 12 44 n30241) 12 45 n30242) (u2 (u2 fa 12 39 n30233) 12 40 n30234) (u2 (u2 la 12 42 n30235) 12 43 n30236)) H := hP
                have hD9 : va_D A (WM h g ca (u2 (u2 iv 12 19 n30237) 12 41 n30238) (u2 (u2 (u2 (u2 lv 12 17 n30239) 12 18 n30240) 12 44 n30241) 12 45 n30242) (u2 (u2 fa 12 39 n30233) 12 40 n30234) (u2 (u2 la 12 42 n30235) 12 43 n30236)) := hD
                exact W.iret (v := r30232) hx hb hr (fun t ht9 hW => ⟨⟨r30232, ((u2 (u2 iv 12 19 n30237) 12 41 n30238), (u2 (u2 (u2 (u2 lv 12 17 n30239) 12 18 n30240) 12 44 n30241) 12 45 n30242), (u2 (u2 fa 12 39 n30233) 12 40 n30234), (u2 (u2 la 12 42 n30235) 12 43 n30236)), rfl, ⟨n30233, n30234, n30235, n30236, n30237, n30238, n30239, n30240, n30241, n30242, hn30233, hn30234, (show inb (0, 8) n30238 from ⟨by omega, by omega⟩), trivial, rfl⟩, by rw [ht9]; exact hP9, hD9⟩, hS.F ht9⟩) hS.2.2 dX12_count_169
              · refine lv_tableIn (tgt := 170) (off := 98) hx hb dX12_count_72 (by decide) (by decide) rfl (by decide) ?_
                refine lv_aload_n hx hb dX12_count_170 rfl (lv_at hl 3 rfl) ?_
                refine lv_iconst (v := 2) hx hb dX12_count_171 (by decide) ?_
                have hFc := free_all hD hS hA
                refine va_calli (va_runV (As := [.int 2]) (rest := []) ⟨hx, hb, hml, hown, ht⟩ (c_X12_balesIn l dC dI H.size h g ca iv lv fa la hI 2 hJC hJR) (kV 1 ht m_1712 m_1714 m_75 m_89 m_1715 rfl rfl hd_X12_balesIn_v ⟨Nat.le_of_ble_eq_true rfl, Nat.le_of_ble_eq_true rfl⟩) (vW hP hK hD (rM_12 hK hP)) rfl rfl hl.1 rfl (lv_room (Nat.le_of_ble_eq_true rfl)) dX12_count_172 ⟨Nat.le_of_ble_eq_true rfl, Nat.le_of_ble_eq_true rfl⟩) hS (fun q _ h => hFc q h) hFc (fun r30243 u t H1 locs ht9 hvm hr30243 hB hz1 hk1 hS => ?_)
                obtain ⟨n30244, n30245, n30246, n30247, n30248, n30249, n30250, n30251, n30252, n30253, hn30244, hn30245, hn30249, hr30243, rfl⟩ := hr30243
                have hn30249 : 0 ≤ n30249.toInt ∧ n30249.toInt ≤ 8 := hn30249
                obtain ⟨hP, hD⟩ := hB
                rw [ht9] at hP
                generalize H1 = H at hP hS ⊢
                have hP : va_P (dC, dI) classes (WM h g ca (u2 (u2 iv 12 19 n30248) 12 41 n30249) (u2 (u2 (u2 (u2 lv 12 17 n30250) 12 18 n30251) 12 44 n30252) 12 45 n30253) (u2 (u2 fa 12 39 n30244) 12 40 n30245) (u2 (u2 la 12 42 n30246) 12 43 n30247)) H := hP
                have hD : va_D A (WM h g ca (u2 (u2 iv 12 19 n30248) 12 41 n30249) (u2 (u2 (u2 (u2 lv 12 17 n30250) 12 18 n30251) 12 44 n30252) 12 45 n30253) (u2 (u2 fa 12 39 n30244) 12 40 n30245) (u2 (u2 la 12 42 n30246) 12 43 n30247)) := (show va_D _ (WM h g ca (u2 (u2 iv 12 19 n30248) 12 41 n30249) (u2 (u2 (u2 (u2 lv 12 17 n30250) 12 18 n30251) 12 44 n30252) 12 45 n30253) (u2 (u2 fa 12 39 n30244) 12 40 n30245) (u2 (u2 la 12 42 n30246) 12 43 n30247)) from hD).weaken (fun _ _ _ h => hFc _ h)
                have hP9 : va_P (dC, dI) classes (WM h g ca (u2 (u2 iv 12 19 n30248) 12 41 n30249) (u2 (u2 (u2 (u2 lv 12 17 n30250) 12 18 n30251) 12 44 n30252) 12 45 n30253) (u2 (u2 fa 12 39 n30244) 12 40 n30245) (u2 (u2 la 12 42 n30246) 12 43 n30247)) H := hP
                have hD9 : va_D A (WM h g ca (u2 (u2 iv 12 19 n30248) 12 41 n30249) (u2 (u2 (u2 (u2 lv 12 17 n30250) 12 18 n30251) 12 44 n30252) 12 45 n30253) (u2 (u2 fa 12 39 n30244) 12 40 n30245) (u2 (u2 la 12 42 n30246) 12 43 n30247)) := hD
                exact W.iret (v := r30243) hx hb hr (fun t ht9 hW => ⟨⟨r30243, ((u2 (u2 iv 12 19 n30248) 12 41 n30249), (u2 (u2 (u2 (u2 lv 12 17 n30250) 12 18 n30251) 12 44 n30252) 12 45 n30253), (u2 (u2 fa 12 39 n30244) 12 40 n30245), (u2 (u2 la 12 42 n30246) 12 43 n30247)), rfl, ⟨n30244, n30245, n30246, n30247, n30248, n30249, n30250, n30251, n30252, n30253, hn30244, hn30245, (show inb (0, 8) n30249 from ⟨by omega, by omega⟩), trivial, rfl⟩, by rw [ht9]; exact hP9, hD9⟩, hS.F ht9⟩) hS.2.2 dX12_count_175
              · refine lv_tableIn (tgt := 176) (off := 104) hx hb dX12_count_72 (by decide) (by decide) rfl (by decide) ?_
                refine lv_aload_n hx hb dX12_count_176 rfl (lv_at hl 3 rfl) ?_
                have i_12_33 : 0 ≤ (iv 12 33).toInt ∧ (iv 12 33).toInt ≤ 200 := hI.1 12 33
                refine gM_12_33 hx hb ht hown hK hP m_1172 (v := (iv 12 33)) rfl dX12_count_177 ?_
                have hP9 : va_P (dC, dI) classes (WM h g ca (u2 (u2 iv 12 19 (iv 12 19)) 12 41 (iv 12 41)) (u2 (u2 (u2 (u2 lv 12 17 (lv 12 17)) 12 18 (lv 12 18)) 12 44 (lv 12 44)) 12 45 (lv 12 45)) (u2 (u2 fa 12 39 (fa 12 39)) 12 40 (fa 12 40)) (u2 (u2 la 12 42 (la 12 42)) 12 43 (la 12 43))) H := hP
                have hD9 : va_D A (WM h g ca (u2 (u2 iv 12 19 (iv 12 19)) 12 41 (iv 12 41)) (u2 (u2 (u2 (u2 lv 12 17 (lv 12 17)) 12 18 (lv 12 18)) 12 44 (lv 12 44)) 12 45 (lv 12 45)) (u2 (u2 fa 12 39 (fa 12 39)) 12 40 (fa 12 40)) (u2 (u2 la 12 42 (la 12 42)) 12 43 (la 12 43))) := hD
                exact W.iret (v := (iv 12 33)) hx hb hr (fun t ht9 hW => ⟨⟨(iv 12 33), ((u2 (u2 iv 12 19 (iv 12 19)) 12 41 (iv 12 41)), (u2 (u2 (u2 (u2 lv 12 17 (lv 12 17)) 12 18 (lv 12 18)) 12 44 (lv 12 44)) 12 45 (lv 12 45)), (u2 (u2 fa 12 39 (fa 12 39)) 12 40 (fa 12 40)), (u2 (u2 la 12 42 (la 12 42)) 12 43 (la 12 43))), rfl, ⟨(fa 12 39), (fa 12 40), (la 12 42), (la 12 43), (iv 12 19), (iv 12 41), (lv 12 17), (lv 12 18), (lv 12 44), (lv 12 45), (hI.2 12 39), (hI.2 12 40), (hI.1 12 41), trivial, rfl⟩, by rw [ht9]; exact hP9, hD9⟩, hS.F ht9⟩) hS.2.2 dX12_count_180
              · refine lv_tableIn (tgt := 181) (off := 109) hx hb dX12_count_72 (by decide) (by decide) rfl (by decide) ?_
                refine lv_iload_n hx hb dX12_count_181 rfl (lv_at hl 1 rfl) ?_
                have hP9 : va_P (dC, dI) classes (WM h g ca (u2 (u2 iv 12 19 (iv 12 19)) 12 41 (iv 12 41)) (u2 (u2 (u2 (u2 lv 12 17 (lv 12 17)) 12 18 (lv 12 18)) 12 44 (lv 12 44)) 12 45 (lv 12 45)) (u2 (u2 fa 12 39 (fa 12 39)) 12 40 (fa 12 40)) (u2 (u2 la 12 42 (la 12 42)) 12 43 (la 12 43))) H := hP
                have hD9 : va_D A (WM h g ca (u2 (u2 iv 12 19 (iv 12 19)) 12 41 (iv 12 41)) (u2 (u2 (u2 (u2 lv 12 17 (lv 12 17)) 12 18 (lv 12 18)) 12 44 (lv 12 44)) 12 45 (lv 12 45)) (u2 (u2 fa 12 39 (fa 12 39)) 12 40 (fa 12 40)) (u2 (u2 la 12 42 (la 12 42)) 12 43 (la 12 43))) := hD
                exact W.iret (v := x30228_3) hx hb hr (fun t ht9 hW => ⟨⟨x30228_3, ((u2 (u2 iv 12 19 (iv 12 19)) 12 41 (iv 12 41)), (u2 (u2 (u2 (u2 lv 12 17 (lv 12 17)) 12 18 (lv 12 18)) 12 44 (lv 12 44)) 12 45 (lv 12 45)), (u2 (u2 fa 12 39 (fa 12 39)) 12 40 (fa 12 40)), (u2 (u2 la 12 42 (la 12 42)) 12 43 (la 12 43))), rfl, ⟨(fa 12 39), (fa 12 40), (la 12 42), (la 12 43), (iv 12 19), (iv 12 41), (lv 12 17), (lv 12 18), (lv 12 44), (lv 12 45), (hI.2 12 39), (hI.2 12 40), (hI.1 12 41), trivial, rfl⟩, by rw [ht9]; exact hP9, hD9⟩, hS.F ht9⟩) hS.2.2 dX12_count_182
            · have fc30230 := z_nle (rfl : ((iv 12 67)).toInt = _) (rfl : (x30228_4).toInt = _) c30230
              refine lv_iload_n hx hb dX12_count_55 rfl (lv_at hl 1 rfl) ?_
              refine lv_aload_n hx hb dX12_count_56 rfl (lv_at hl 3 rfl) ?_
              refine gM_12_74 hx hb ht hown hK hP m_1213 dX12_count_57 ?_
              refine lv_iload hx hb dX12_count_60 (lv_at hl 0 rfl) ?_
              refine lM_12_74 hx hb hK hP (f := (fa 12 74)) rfl (vp_in_iff.mpr ⟨by omega, by omega⟩) dX12_count_62 ?_
              refine lv_topi (fun v30254 ev30254 => ?_)
              refine lv_iadd hx hb dX12_count_63 ?_
              refine lv_topi (fun v30255 ev30255 => ?_)
              refine lv_istore_n (lv' := [(3, .int v30255), (4, .int x30228_4), (2, .int x29693_2), (0, .ref h), (1, .int a)]) hx hb dX12_count_64 rfl hl (by decide) rfl (fun ls hl => ?_)
              obtain ⟨v30256, ev30256⟩ : ∃ y : Int32, y = x30228_4 + 1 := ⟨_, rfl⟩
              have tv30256 := z_add ev30256 rfl (by decide : (1 : Int32).toInt = 1) (by omega) (by omega)
              refine lv_iinc (v := v30256) (lv' := [(4, .int v30256), (3, .int v30255), (2, .int x29693_2), (0, .ref h), (1, .int a)]) hx hb dX12_count_65 hl (k := 1) rfl (by rw [ev30256]; rfl) (by decide) rfl (fun ls hl => ?_)
              refine lv_goto (tgt := 46) hx hb dX12_count_68 (by decide) ?_
              exact ih30229 v30256 v30255 ⟨by omega, by omega⟩ (by omega) _ _ ls hP hD hS (lv_sub hl [0, 1, 2, 3, 4] rfl)
        exact lp30229 41 0 0 ⟨by decide, by decide⟩ (by first | decide | omega) _ _ ls hP hD hS (lv_sub hl [0, 1, 2, 3, 4] rfl)
      · have fc29695 := z_nle (rfl : ((iv 12 3)).toInt = _) (rfl : (x29693_4).toInt = _) c29695
        refine lv_iload_n hx hb dX12_count_16 rfl (lv_at hl 2 rfl) ?_
        refine lv_aload_n hx hb dX12_count_17 rfl (lv_at hl 3 rfl) ?_
        refine gM_12_12 hx hb ht hown hK hP m_1151 dX12_count_18 ?_
        refine lv_iload hx hb dX12_count_21 (lv_at hl 0 rfl) ?_
        refine lM_12_12 hx hb hK hP (f := (fa 12 12)) rfl (vp_in_iff.mpr ⟨by omega, by omega⟩) dX12_count_23 ?_
        refine lv_topi (fun v30257 ev30257 => ?_)
        refine lv_if_lt (tgt := 31) hx hb dX12_count_24 (by decide) (fun c30258 => ?_) (fun c30258 => ?_)
        · have fc30258 := z_lt (rfl : (v30257).toInt = _) (by decide : (0 : Int32).toInt = 0) c30258
          refine lv_iconst (v := 0) hx hb dX12_count_31 (by decide) ?_
          refine vp_callSi (W.runS (As := [.int 0]) (rest := [.int x29693_2]) ⟨hx, hb, hml, hown, ht⟩ (c_X12_bit_0 l dC dI) (kS 1 ht m_1396 m_1397 m_89 m_1398 rfl rfl hd_X12_bit_v ⟨Nat.le_of_ble_eq_true rfl, Nat.le_of_ble_eq_true rfl⟩) (sR noP (hK.sub (tys' := []) [] rfl)) rfl rfl hl.1 rfl (lv_room (Nat.le_of_ble_eq_true rfl)) dX12_count_32 ⟨Nat.le_of_ble_eq_true rfl, Nat.le_of_ble_eq_true rfl⟩) (fun r30259 hr30259 => ?_)
          obtain rfl : 0 = r30259 := hr30259.symm
          refine lv_iadd hx hb dX12_count_35 ?_
          refine lv_topi (fun v30260 ev30260 => ?_)
          refine lv_istore_n (lv' := [(2, .int v30260), (4, .int x29693_4), (3, .int 0), (0, .ref h), (1, .int a)]) hx hb dX12_count_36 rfl hl (by decide) rfl (fun ls hl => ?_)
          obtain ⟨v30261, ev30261⟩ : ∃ y : Int32, y = x29693_4 + 1 := ⟨_, rfl⟩
          have tv30261 := z_add ev30261 rfl (by decide : (1 : Int32).toInt = 1) (by omega) (by omega)
          refine lv_iinc (v := v30261) (lv' := [(4, .int v30261), (2, .int v30260), (3, .int 0), (0, .ref h), (1, .int a)]) hx hb dX12_count_37 hl (k := 1) rfl (by rw [ev30261]; rfl) (by decide) rfl (fun ls hl => ?_)
          refine lv_goto (tgt := 7) hx hb dX12_count_40 (by decide) ?_
          exact ih29694 v30261 v30260 ⟨by omega, by omega⟩ (by omega) _ _ ls hP hD hS (lv_sub hl [0, 2, 1, 3, 4] rfl)
        · have fc30258 := z_nlt (rfl : (v30257).toInt = _) (by decide : (0 : Int32).toInt = 0) c30258
          refine lv_iconst (v := 1) hx hb dX12_count_27 (by decide) ?_
          refine lv_goto (tgt := 32) hx hb dX12_count_28 (by decide) ?_
          refine vp_callSi (W.runS (As := [.int 1]) (rest := [.int x29693_2]) ⟨hx, hb, hml, hown, ht⟩ (c_X12_bit_1 l dC dI) (kS 1 ht m_1396 m_1397 m_89 m_1398 rfl rfl hd_X12_bit_v ⟨Nat.le_of_ble_eq_true rfl, Nat.le_of_ble_eq_true rfl⟩) (sR noP (hK.sub (tys' := []) [] rfl)) rfl rfl hl.1 rfl (lv_room (Nat.le_of_ble_eq_true rfl)) dX12_count_32 ⟨Nat.le_of_ble_eq_true rfl, Nat.le_of_ble_eq_true rfl⟩) (fun r30262 hr30262 => ?_)
          obtain rfl : 1 = r30262 := hr30262.symm
          refine lv_iadd hx hb dX12_count_35 ?_
          refine lv_topi (fun v30263 ev30263 => ?_)
          refine lv_istore_n (lv' := [(2, .int v30263), (4, .int x29693_4), (3, .int 0), (0, .ref h), (1, .int a)]) hx hb dX12_count_36 rfl hl (by decide) rfl (fun ls hl => ?_)
          obtain ⟨v30264, ev30264⟩ : ∃ y : Int32, y = x29693_4 + 1 := ⟨_, rfl⟩
          have tv30264 := z_add ev30264 rfl (by decide : (1 : Int32).toInt = 1) (by omega) (by omega)
          refine lv_iinc (v := v30264) (lv' := [(4, .int v30264), (2, .int v30263), (3, .int 0), (0, .ref h), (1, .int a)]) hx hb dX12_count_37 hl (k := 1) rfl (by rw [ev30264]; rfl) (by decide) rfl (fun ls hl => ?_)
          refine lv_goto (tgt := 7) hx hb dX12_count_40 (by decide) ?_
          exact ih29694 v30264 v30263 ⟨by omega, by omega⟩ (by omega) _ _ ls hP hD hS (lv_sub hl [0, 2, 1, 3, 4] rfl)
  exact lp29694 61 0 0 ⟨by decide, by decide⟩ (by first | decide | omega) _ _ ls hP hD hS (lv_sub hl [0, 1, 2, 3, 4] rfl)
set_option maxHeartbeats 4000000 in
set_option maxRecDepth 100000 in
/-- X12_size -/
theorem c_X12_size (l : Launch) (dC : Nat → ClassId) (dI : Nat → Nat → Nat) (sz : Nat) (h : Nat) (g : Nat → Nat → Nat) (ca : Nat → Nat → ClassId) (iv : Nat → Nat → Int32) (lv : Nat → Nat → Int64) (fa : Nat → Nat → Nat → Int32) (la : Nat → Nat → Nat → Int64) (hI : IX iv fa) (a : Int32) (b : Int32) : Met l yX12_size (wc yX12_size cX12_size 14 (some .int)) ({ frames := 2, cells := 0, slots := 0, locals := 50 } : Room) (pW (dC, dI) classes (WM h g ca iv lv fa la) (TM ca) sz [.ref h, .int a, .int b]) (va_Qi (fun r (u : SS) => (True) ∧ u = (iv, lv, fa, la)) (bM (dC, dI) h g ca (va_A (WM h g ca iv lv fa la) sz)) (va_A (WM h g ca iv lv fa la) sz)) 0 0 (va_A (WM h g ca iv lv fa la) sz) := by
  refine Met.ofW (cc := cX12_size) (maxL := 14) (ret := (some .int)) (by decide) rfl ?_
  intro p e s m args below meth c s₁ B hml hv
  obtain ⟨rfl, hsz, hP, hK, hD0⟩ := hv
  have hx := B.exec
  have hb := B.bytes
  have hr := B.returns
  have ht := tb_tl (atoms_spec (ws := wc yX12_size cX12_size 14 (some .int)) B.pre)
  have hown : s.vm.findClass RX12 = some m.cls := findClass_of_methodNamed B.named
  have hlocks := B.notSynchronized
  subst hsz
  have hD := hD0.self (sz := s.heap.size)
  generalize hAe : va_A (WM h g ca iv lv fa la) s.heap.size = A at hD ⊢
  have hA : ∀ q : Nat, s.heap.size ≤ q → A q := fun q h => by rw [← hAe]; exact Or.inr h
  have hS : va_S A s.heap s.heap [] := va_S.rf
  have hl := lv_entry [.ref h, .int a, .int b] (n := 14) (Nat.le_of_ble_eq_true rfl)
  rw [lg_entry_eq]
  generalize (lg_sl [.ref h, .int a, .int b] ++ List.replicate (14 - (lg_sl [.ref h, .int a, .int b]).length) Slot.unset).toArray = ls at hl ⊢
  have hl : lv_has ls 14 [(0, .ref h), (1, .int a), (2, .int b)] := hl
  refine lv_aload_n hx hb dX12_size_0 rfl (lv_at hl 0 rfl) ?_
  refine lv_iload_n hx hb dX12_size_1 rfl (lv_at hl 1 rfl) ?_
  refine vp_callSi (W.runV (As := [.int a]) (rest := []) ⟨hx, hb, hml, hown, ht⟩ (c_X12_noBale l dC dI h g ca iv lv fa la hI a) (kV 1 ht m_1385 m_1387 m_42 m_89 m_1388 rfl rfl hd_X12_noBale_v ⟨Nat.le_of_ble_eq_true rfl, Nat.le_of_ble_eq_true rfl⟩) (vR hP hK (rM_12 hK hP)) rfl rfl hl.1 rfl (lv_room (Nat.le_of_ble_eq_true rfl)) dX12_size_2 ⟨Nat.le_of_ble_eq_true rfl, Nat.le_of_ble_eq_true rfl⟩) (fun r1 hr1 => ?_)
  rcases hr1 with ⟨rfl, fr1⟩ | ⟨rfl, fr1⟩
  · skip
    have i_12_1 : 0 ≤ (iv 12 1).toInt ∧ (iv 12 1).toInt ≤ 10 := hI.1 12 1
    have fr1 : ¬ (0 ≤ (a : Int32).toInt ∧ (a : Int32).toInt < ((iv 12 1) : Int32).toInt) := fr1
    refine lv_if_eq (tgt := 11) hx hb dX12_size_5 (by decide) (fun c2 => ?_) (fun c2 => ?_)
    · exact absurd c2 (by decide)
    · skip
      refine lv_ldc hx hb hown (ht _ m_1389) dX12_size_8 ?_
      have hP9 : va_P (dC, dI) classes (WM h g ca iv lv fa la) s.heap := hP
      have hD9 : va_D A (WM h g ca iv lv fa la) := hD
      exact W.iret (v := (-100001)) hx hb hr (fun t ht9 hW => ⟨⟨(-100001), (iv, lv, fa, la), rfl, ⟨trivial, rfl⟩, by rw [ht9]; exact hP9, hD9⟩, hS.F ht9⟩) hS.2.2 dX12_size_10
  · skip
    have i_12_1 : 0 ≤ (iv 12 1).toInt ∧ (iv 12 1).toInt ≤ 10 := hI.1 12 1
    have fr1 : (0 ≤ (a : Int32).toInt ∧ (a : Int32).toInt < ((iv 12 1) : Int32).toInt) := Decidable.not_not.mp fr1
    refine lv_if_eq (tgt := 11) hx hb dX12_size_5 (by decide) (fun c3 => ?_) (fun c3 => ?_)
    · skip
      refine lv_iload_n hx hb dX12_size_11 rfl (lv_at hl 2 rfl) ?_
      refine lv_i2l (v := (b.toInt64)) hx hb dX12_size_12 rfl ?_
      refine lv_lconst (v := 0) hx hb dX12_size_13 (by decide) ?_
      refine lv_ldc2 hx hb hown (ht _ m_1391) dX12_size_14 ?_
      refine vp_callSi (W.runS (As := [.long (b.toInt64), .long 0, .long 3]) (rest := []) ⟨hx, hb, hml, hown, ht⟩ (c_X12_in l dC dI (b.toInt64) 0 3 (b.toInt) (0) (3) ((Int32.toInt_toInt64 b).trans rfl) (by decide : (0 : Int64).toInt = 0) (by decide : (3 : Int64).toInt = 3)) (kS 3 ht m_1370 m_1371 m_89 m_1372 rfl rfl hd_X12_in_v ⟨Nat.le_of_ble_eq_true rfl, Nat.le_of_ble_eq_true rfl⟩) (sR noP (hK.sub (tys' := []) [] rfl)) rfl rfl hl.1 rfl (lv_room (Nat.le_of_ble_eq_true rfl)) dX12_size_17 ⟨Nat.le_of_ble_eq_true rfl, Nat.le_of_ble_eq_true rfl⟩) (fun r4 hr4 => ?_)
      rcases hr4 with ⟨rfl, fr4⟩ | ⟨rfl, fr4⟩
      · skip
        refine lv_if_ne (tgt := 26) hx hb dX12_size_20 (by decide) (fun c5 => ?_) (fun c5 => ?_)
        · skip
          refine lv_aload_n hx hb dX12_size_26 rfl (lv_at hl 0 rfl) ?_
          refine gM_12_51 hx hb ht hown hK hP m_1190 dX12_size_27 ?_
          refine lv_iload_n hx hb dX12_size_30 rfl (lv_at hl 1 rfl) ?_
          refine lM_12_51 hx hb hK hP (f := (fa 12 51)) rfl (vp_in_iff.mpr ⟨by omega, by omega⟩) dX12_size_31 ?_
          refine lv_topi (fun v6 ev6 => ?_)
          have tv6 : 0 ≤ v6.toInt ∧ v6.toInt ≤ 12 := by rw [ev6]; exact hI.2 12 51 _
          refine lv_istore_n (lv' := [(3, .int v6), (0, .ref h), (1, .int a), (2, .int b)]) hx hb dX12_size_32 rfl hl (by decide) rfl (fun ls hl => ?_)
          refine lv_iload_n hx hb dX12_size_33 rfl (lv_at hl 0 rfl) ?_
          refine lv_if_ne (tgt := 39) hx hb dX12_size_34 (by decide) (fun c7 => ?_) (fun c7 => ?_)
          · have fc7 := z_ne (rfl : (v6).toInt = _) (by decide : (0 : Int32).toInt = 0) c7
            refine lv_lconst (v := 0) hx hb dX12_size_39 (by decide) ?_
            refine lv_lstore (lv' := [(4, .long 0), (3, .int v6), (0, .ref h), (1, .int a), (2, .int b)]) hx hb dX12_size_40 hl (by decide) rfl (fun ls hl => ?_)
            refine lv_lconst (v := 0) hx hb dX12_size_42 (by decide) ?_
            refine lv_lstore (lv' := [(6, .long 0), (4, .long 0), (3, .int v6), (0, .ref h), (1, .int a), (2, .int b)]) hx hb dX12_size_43 hl (by decide) rfl (fun ls hl => ?_)
            refine lv_iconst (v := 0) hx hb dX12_size_45 (by decide) ?_
            refine lv_istore (lv' := [(8, .int 0), (6, .long 0), (4, .long 0), (3, .int v6), (0, .ref h), (1, .int a), (2, .int b)]) hx hb dX12_size_46 hl (by decide) rfl (fun ls hl => ?_)
            have lp391 : ∀ (nn391 : Nat) (x390_8 : Int32) (x390_6 : Int64) (x390_4 : Int64), 0 ≤ x390_8.toInt ∧ x390_8.toInt ≤ 12 → 12 - x390_8.toInt < (nn391 : Int) → ∀ (H : Heap) (locs : List Loc), ∀ (ls : Array Slot), va_P (dC, dI) classes (WM h g ca iv lv fa la) H → va_D A (WM h g ca iv lv fa la) → va_S A s.heap H locs → lv_has ls 14 [(8, .int x390_8), (6, .long x390_6), (4, .long x390_4), (3, .int v6), (0, .ref h), (1, .int a), (2, .int b)] → W p l e ({ frames := 2, cells := 0, slots := 0, locals := 50 } : Room) s m ([.ref h, .int a, .int b] : List Value).toArray below meth c H locs 0 0 (MQ below (va_Qi (fun r (u : SS) => (True) ∧ u = (iv, lv, fa, la)) (bM (dC, dI) h g ca A) A) ([.ref h, .int a, .int b] : List Value).toArray s 0 0 A) (F0 m 48 ls []) := by
              intro nn391
              induction nn391 with
              | zero => intro x390_8 x390_6 x390_4 hx390_8 hm391; exfalso; omega
              | succ nn391 ih391 =>
                intro x390_8 x390_6 x390_4 hx390_8 hm391 H locs ls hP hD hS hl
                refine lv_iload hx hb dX12_size_48 (lv_at hl 0 rfl) ?_
                refine lv_iload_n hx hb dX12_size_50 rfl (lv_at hl 3 rfl) ?_
                refine lv_icmp_ge (tgt := 96) hx hb dX12_size_51 (by decide) (fun c392 => ?_) (fun c392 => ?_)
                · have fc392 := z_le (rfl : (v6).toInt = _) (rfl : (x390_8).toInt = _) c392
                  refine lv_iload_n hx hb dX12_size_96 rfl (lv_at hl 6 rfl) ?_
                  refine lv_iconst (v := 2) hx hb dX12_size_97 (by decide) ?_
                  refine lv_icmp_ge (tgt := 106) hx hb dX12_size_98 (by decide) (fun c393 => ?_) (fun c393 => ?_)
                  · have fc393 := z_le (by decide : (2 : Int32).toInt = 2) (rfl : (b).toInt = _) c393
                    refine lv_iload_n hx hb dX12_size_106 rfl (lv_at hl 3 rfl) ?_
                    refine lv_i2l (v := (v6.toInt64)) hx hb dX12_size_107 rfl ?_
                    refine lv_lload hx hb dX12_size_108 (lv_at hl 1 rfl) ?_
                    refine lv_lmul hx hb dX12_size_110 ?_
                    refine lv_topl (fun w394 ew394 => ?_)
                    refine lv_lload hx hb dX12_size_111 (lv_at hl 2 rfl) ?_
                    refine lv_lload hx hb dX12_size_113 (lv_at hl 2 rfl) ?_
                    refine lv_lmul hx hb dX12_size_115 ?_
                    refine lv_topl (fun w395 ew395 => ?_)
                    refine lv_lsub hx hb dX12_size_116 ?_
                    refine lv_topl (fun w396 ew396 => ?_)
                    refine lv_lstore (lv' := [(8, .long w396), (6, .long x390_6), (4, .long x390_4), (3, .int v6), (0, .ref h), (1, .int a), (2, .int b)]) hx hb dX12_size_117 hl (by decide) rfl (fun ls hl => ?_)
                    refine lv_iload_n hx hb dX12_size_119 rfl (lv_at hl 6 rfl) ?_
                    refine lv_iconst (v := 2) hx hb dX12_size_120 (by decide) ?_
                    refine lv_icmp_ge (tgt := 129) hx hb dX12_size_121 (by decide) (fun c397 => ?_) (fun c397 => ?_)
                    · skip
                      refine lv_iload_n hx hb dX12_size_129 rfl (lv_at hl 3 rfl) ?_
                      refine lv_i2l (v := (v6.toInt64)) hx hb dX12_size_130 rfl ?_
                      refine lv_iload_n hx hb dX12_size_131 rfl (lv_at hl 3 rfl) ?_
                      refine lv_i2l (v := (v6.toInt64)) hx hb dX12_size_132 rfl ?_
                      have : ((v6.toInt64) : Int64).toInt = v6.toInt := ((Int32.toInt_toInt64 v6).trans rfl)
                      refine lv_lmul hx hb dX12_size_133 ?_
                      refine lv_topl (fun w398 ew398 => ?_)
                      have tw398 := l_mulb (a1 := 1) (b1 := 12) (a2 := 1) (b2 := 12) ew398 (rfl : ((v6.toInt64) : Int64).toInt = _) (rfl : ((v6.toInt64) : Int64).toInt = _) (by omega) (by omega) (by omega) (by omega) (by decide) (by decide) (by decide)
                      have : 1 ≤ w398.toInt ∧ w398.toInt ≤ 144 := ⟨by omega, by omega⟩
                      refine lv_lstore (lv' := [(10, .long w398), (8, .long w396), (6, .long x390_6), (4, .long x390_4), (3, .int v6), (0, .ref h), (1, .int a), (2, .int b)]) hx hb dX12_size_134 hl (by decide) rfl (fun ls hl => ?_)
                      refine lv_lload hx hb dX12_size_136 (lv_at hl 1 rfl) ?_
                      refine lv_lload hx hb dX12_size_138 (lv_at hl 0 rfl) ?_
                      refine vp_callSl (W.runS (As := [.long w396, .long w398]) (rest := []) ⟨hx, hb, hml, hown, ht⟩ (c_X12_gcd_q l dC dI w396 w398 (show (w398 : Int64).toInt ≠ 0 from by omega)) (kS 2 ht m_1442 m_1443 m_89 m_1444 rfl rfl hd_X12_gcd_v ⟨Nat.le_of_ble_eq_true rfl, Nat.le_of_ble_eq_true rfl⟩) (sR noP (hK.sub (tys' := []) [] rfl)) rfl rfl hl.1 rfl (lv_room (Nat.le_of_ble_eq_true rfl)) dX12_size_140 ⟨Nat.le_of_ble_eq_true rfl, Nat.le_of_ble_eq_true rfl⟩) (fun r399 hr399 => ?_)
                      obtain ⟨hr399, xr399_0, xr399_1⟩ := hr399
                      have xr399_0 : (r399 : Int64).toInt ≠ 0 := xr399_0
                      have xr399_1 : gok (r399 : Int64).toInt (w398 : Int64).toInt := xr399_1
                      refine lv_lstore (lv' := [(12, .long r399), (10, .long w398), (8, .long w396), (6, .long x390_6), (4, .long x390_4), (3, .int v6), (0, .ref h), (1, .int a), (2, .int b)]) hx hb dX12_size_143 hl (by decide) rfl (fun ls hl => ?_)
                      refine lv_iload_n hx hb dX12_size_145 rfl (lv_at hl 8 rfl) ?_
                      refine lv_iconst (v := 2) hx hb dX12_size_146 (by decide) ?_
                      refine lv_irem hx hb dX12_size_147 (by decide) ?_
                      refine lv_topi (fun v400 ev400 => ?_)
                      have tv400 := z_remp ev400 (rfl : (b).toInt = _) (by decide : (2 : Int32).toInt = 2) (by omega) (by omega)
                      refine lv_if_ne (tgt := 159) hx hb dX12_size_148 (by decide) (fun c401 => ?_) (fun c401 => ?_)
                      · have fc401 := z_ne (rfl : (v400).toInt = _) (by decide : (0 : Int32).toInt = 0) c401
                        refine lv_lload hx hb dX12_size_159 (lv_at hl 1 rfl) ?_
                        refine lv_lload hx hb dX12_size_161 (lv_at hl 0 rfl) ?_
                        have zw402 : (r399 : Int64).toInt ≠ 0 := by omega
                        refine lv_ldiv hx hb dX12_size_163 (l_nz rfl zw402) ?_
                        refine lv_topl (fun w402 ew402 => ?_)
                        obtain ⟨v403, ev403⟩ : ∃ y : Int32, w402.toInt32 = y := ⟨_, rfl⟩
                        refine lv_l2i (v := v403) hx hb dX12_size_164 ev403 ?_
                        have hP9 : va_P (dC, dI) classes (WM h g ca iv lv fa la) H := hP
                        have hD9 : va_D A (WM h g ca iv lv fa la) := hD
                        exact W.iret (v := v403) hx hb hr (fun t ht9 hW => ⟨⟨v403, (iv, lv, fa, la), rfl, ⟨trivial, rfl⟩, by rw [ht9]; exact hP9, hD9⟩, hS.F ht9⟩) hS.2.2 dX12_size_165
                      · have fc401 := z_eq (rfl : (v400).toInt = _) (by decide : (0 : Int32).toInt = 0) c401
                        refine lv_lload hx hb dX12_size_151 (lv_at hl 2 rfl) ?_
                        refine lv_lload hx hb dX12_size_153 (lv_at hl 0 rfl) ?_
                        have zw404 : (r399 : Int64).toInt ≠ 0 := by omega
                        refine lv_ldiv hx hb dX12_size_155 (l_nz rfl zw404) ?_
                        refine lv_topl (fun w404 ew404 => ?_)
                        refine lv_goto (tgt := 164) hx hb dX12_size_156 (by decide) ?_
                        obtain ⟨v405, ev405⟩ : ∃ y : Int32, w404.toInt32 = y := ⟨_, rfl⟩
                        refine lv_l2i (v := v405) hx hb dX12_size_164 ev405 ?_
                        have hP9 : va_P (dC, dI) classes (WM h g ca iv lv fa la) H := hP
                        have hD9 : va_D A (WM h g ca iv lv fa la) := hD
                        exact W.iret (v := v405) hx hb hr (fun t ht9 hW => ⟨⟨v405, (iv, lv, fa, la), rfl, ⟨trivial, rfl⟩, by rw [ht9]; exact hP9, hD9⟩, hS.F ht9⟩) hS.2.2 dX12_size_165
                    · have fc397 := z_nle (by decide : (2 : Int32).toInt = 2) (rfl : (b).toInt = _) c397; exfalso; omega
                  · have fc393 := z_nle (by decide : (2 : Int32).toInt = 2) (rfl : (b).toInt = _) c393
                    refine lv_lload hx hb dX12_size_101 (lv_at hl 2 rfl) ?_
                    refine lv_goto (tgt := 117) hx hb dX12_size_103 (by decide) ?_
                    refine lv_lstore (lv' := [(8, .long x390_4), (6, .long x390_6), (4, .long x390_4), (3, .int v6), (0, .ref h), (1, .int a), (2, .int b)]) hx hb dX12_size_117 hl (by decide) rfl (fun ls hl => ?_)
                    refine lv_iload_n hx hb dX12_size_119 rfl (lv_at hl 6 rfl) ?_
                    refine lv_iconst (v := 2) hx hb dX12_size_120 (by decide) ?_
                    refine lv_icmp_ge (tgt := 129) hx hb dX12_size_121 (by decide) (fun c406 => ?_) (fun c406 => ?_)
                    · have fc406 := z_le (by decide : (2 : Int32).toInt = 2) (rfl : (b).toInt = _) c406; exfalso; omega
                    · skip
                      refine lv_iload_n hx hb dX12_size_124 rfl (lv_at hl 3 rfl) ?_
                      refine lv_i2l (v := (v6.toInt64)) hx hb dX12_size_125 rfl ?_
                      refine lv_goto (tgt := 134) hx hb dX12_size_126 (by decide) ?_
                      refine lv_lstore (lv' := [(10, .long (v6.toInt64)), (8, .long x390_4), (6, .long x390_6), (4, .long x390_4), (3, .int v6), (0, .ref h), (1, .int a), (2, .int b)]) hx hb dX12_size_134 hl (by decide) rfl (fun ls hl => ?_)
                      refine lv_lload hx hb dX12_size_136 (lv_at hl 1 rfl) ?_
                      refine lv_lload hx hb dX12_size_138 (lv_at hl 0 rfl) ?_
                      have : ((v6.toInt64) : Int64).toInt = v6.toInt := ((Int32.toInt_toInt64 v6).trans rfl)
                      refine vp_callSl (W.runS (As := [.long x390_4, .long (v6.toInt64)]) (rest := []) ⟨hx, hb, hml, hown, ht⟩ (c_X12_gcd_q l dC dI x390_4 (v6.toInt64) (show ((v6.toInt64) : Int64).toInt ≠ 0 from by omega)) (kS 2 ht m_1442 m_1443 m_89 m_1444 rfl rfl hd_X12_gcd_v ⟨Nat.le_of_ble_eq_true rfl, Nat.le_of_ble_eq_true rfl⟩) (sR noP (hK.sub (tys' := []) [] rfl)) rfl rfl hl.1 rfl (lv_room (Nat.le_of_ble_eq_true rfl)) dX12_size_140 ⟨Nat.le_of_ble_eq_true rfl, Nat.le_of_ble_eq_true rfl⟩) (fun r407 hr407 => ?_)
                      obtain ⟨hr407, xr407_0, xr407_1⟩ := hr407
                      have xr407_0 : (r407 : Int64).toInt ≠ 0 := xr407_0
                      have xr407_1 : gok (r407 : Int64).toInt ((v6.toInt64) : Int64).toInt := xr407_1
                      refine lv_lstore (lv' := [(12, .long r407), (10, .long (v6.toInt64)), (8, .long x390_4), (6, .long x390_6), (4, .long x390_4), (3, .int v6), (0, .ref h), (1, .int a), (2, .int b)]) hx hb dX12_size_143 hl (by decide) rfl (fun ls hl => ?_)
                      refine lv_iload_n hx hb dX12_size_145 rfl (lv_at hl 8 rfl) ?_
                      refine lv_iconst (v := 2) hx hb dX12_size_146 (by decide) ?_
                      refine lv_irem hx hb dX12_size_147 (by decide) ?_
                      refine lv_topi (fun v408 ev408 => ?_)
                      have tv408 := z_remp ev408 (rfl : (b).toInt = _) (by decide : (2 : Int32).toInt = 2) (by omega) (by omega)
                      refine lv_if_ne (tgt := 159) hx hb dX12_size_148 (by decide) (fun c409 => ?_) (fun c409 => ?_)
                      · have fc409 := z_ne (rfl : (v408).toInt = _) (by decide : (0 : Int32).toInt = 0) c409
                        refine lv_lload hx hb dX12_size_159 (lv_at hl 1 rfl) ?_
                        refine lv_lload hx hb dX12_size_161 (lv_at hl 0 rfl) ?_
                        have zw410 : (r407 : Int64).toInt ≠ 0 := by omega
                        refine lv_ldiv hx hb dX12_size_163 (l_nz rfl zw410) ?_
                        refine lv_topl (fun w410 ew410 => ?_)
                        obtain ⟨v411, ev411⟩ : ∃ y : Int32, w410.toInt32 = y := ⟨_, rfl⟩
                        refine lv_l2i (v := v411) hx hb dX12_size_164 ev411 ?_
                        have hP9 : va_P (dC, dI) classes (WM h g ca iv lv fa la) H := hP
                        have hD9 : va_D A (WM h g ca iv lv fa la) := hD
                        exact W.iret (v := v411) hx hb hr (fun t ht9 hW => ⟨⟨v411, (iv, lv, fa, la), rfl, ⟨trivial, rfl⟩, by rw [ht9]; exact hP9, hD9⟩, hS.F ht9⟩) hS.2.2 dX12_size_165
                      · have fc409 := z_eq (rfl : (v408).toInt = _) (by decide : (0 : Int32).toInt = 0) c409
                        refine lv_lload hx hb dX12_size_151 (lv_at hl 2 rfl) ?_
                        refine lv_lload hx hb dX12_size_153 (lv_at hl 0 rfl) ?_
                        have zw412 : (r407 : Int64).toInt ≠ 0 := by omega
                        refine lv_ldiv hx hb dX12_size_155 (l_nz rfl zw412) ?_
                        refine lv_topl (fun w412 ew412 => ?_)
                        refine lv_goto (tgt := 164) hx hb dX12_size_156 (by decide) ?_
                        obtain ⟨v413, ev413⟩ : ∃ y : Int32, w412.toInt32 = y := ⟨_, rfl⟩
                        refine lv_l2i (v := v413) hx hb dX12_size_164 ev413 ?_
                        have hP9 : va_P (dC, dI) classes (WM h g ca iv lv fa la) H := hP
                        have hD9 : va_D A (WM h g ca iv lv fa la) := hD
                        exact W.iret (v := v413) hx hb hr (fun t ht9 hW => ⟨⟨v413, (iv, lv, fa, la), rfl, ⟨trivial, rfl⟩, by rw [ht9]; exact hP9, hD9⟩, hS.F ht9⟩) hS.2.2 dX12_size_165
                · have fc392 := z_nle (rfl : (v6).toInt = _) (rfl : (x390_8).toInt = _) c392
                  refine lv_ldc2 hx hb hown (ht _ m_1390) dX12_size_54 ?_
                  refine lv_aload_n hx hb dX12_size_57 rfl (lv_at hl 4 rfl) ?_
                  refine gM_12_52 hx hb ht hown hK hP m_1191 dX12_size_58 ?_
                  refine lv_bipush (v := 12) hx hb dX12_size_61 (by decide) ?_
                  refine lv_iload_n hx hb dX12_size_63 rfl (lv_at hl 5 rfl) ?_
                  refine lv_imul hx hb dX12_size_64 ?_
                  refine lv_topi (fun v414 ev414 => ?_)
                  have tv414 := z_mul ev414 (by decide : (12 : Int32).toInt = 12) (rfl : (a).toInt = _) (by omega) (by omega)
                  refine lv_iload hx hb dX12_size_65 (lv_at hl 0 rfl) ?_
                  refine lv_iadd hx hb dX12_size_67 ?_
                  refine lv_topi (fun v415 ev415 => ?_)
                  have tv415 := z_add ev415 (rfl : (v414).toInt = _) (rfl : (x390_8).toInt = _) (by omega) (by omega)
                  refine lM_12_52 hx hb hK hP (f := (fa 12 52)) rfl (vp_in_iff.mpr ⟨by omega, by omega⟩) dX12_size_68 ?_
                  refine lv_topi (fun v416 ev416 => ?_)
                  refine lv_i2l (v := (v416.toInt64)) hx hb dX12_size_69 rfl ?_
                  refine lv_lmul hx hb dX12_size_70 ?_
                  refine lv_topl (fun w417 ew417 => ?_)
                  refine lv_lstore (lv' := [(9, .long w417), (8, .int x390_8), (6, .long x390_6), (4, .long x390_4), (3, .int v6), (0, .ref h), (1, .int a), (2, .int b)]) hx hb dX12_size_71 hl (by decide) rfl (fun ls hl => ?_)
                  refine lv_lload hx hb dX12_size_73 (lv_at hl 3 rfl) ?_
                  refine lv_lload hx hb dX12_size_75 (lv_at hl 0 rfl) ?_
                  refine lv_ladd hx hb dX12_size_77 ?_
                  refine lv_topl (fun w418 ew418 => ?_)
                  refine lv_lstore (lv' := [(4, .long w418), (9, .long w417), (8, .int x390_8), (6, .long x390_6), (3, .int v6), (0, .ref h), (1, .int a), (2, .int b)]) hx hb dX12_size_78 hl (by decide) rfl (fun ls hl => ?_)
                  refine lv_lload hx hb dX12_size_80 (lv_at hl 3 rfl) ?_
                  refine lv_lload hx hb dX12_size_82 (lv_at hl 1 rfl) ?_
                  refine lv_lload hx hb dX12_size_84 (lv_at hl 1 rfl) ?_
                  refine lv_lmul hx hb dX12_size_86 ?_
                  refine lv_topl (fun w419 ew419 => ?_)
                  refine lv_ladd hx hb dX12_size_87 ?_
                  refine lv_topl (fun w420 ew420 => ?_)
                  refine lv_lstore (lv' := [(6, .long w420), (4, .long w418), (9, .long w417), (8, .int x390_8), (3, .int v6), (0, .ref h), (1, .int a), (2, .int b)]) hx hb dX12_size_88 hl (by decide) rfl (fun ls hl => ?_)
                  obtain ⟨v421, ev421⟩ : ∃ y : Int32, y = x390_8 + 1 := ⟨_, rfl⟩
                  have tv421 := z_add ev421 rfl (by decide : (1 : Int32).toInt = 1) (by omega) (by omega)
                  refine lv_iinc (v := v421) (lv' := [(8, .int v421), (6, .long w420), (4, .long w418), (9, .long w417), (3, .int v6), (0, .ref h), (1, .int a), (2, .int b)]) hx hb dX12_size_90 hl (k := 3) rfl (by rw [ev421]; rfl) (by decide) rfl (fun ls hl => ?_)
                  refine lv_goto (tgt := 48) hx hb dX12_size_93 (by decide) ?_
                  exact ih391 v421 w420 w418 ⟨by omega, by omega⟩ (by omega) _ _ ls hP hD hS (lv_sub hl [0, 1, 2, 4, 5, 6, 7] rfl)
            exact lp391 13 0 0 0 ⟨by decide, by decide⟩ (by first | decide | omega) _ _ ls hP hD hS (lv_sub hl [0, 1, 2, 3, 4, 5, 6] rfl)
          · have fc7 := z_eq (rfl : (v6).toInt = _) (by decide : (0 : Int32).toInt = 0) c7
            refine lv_iconst (v := (-1)) hx hb dX12_size_37 (by decide) ?_
            have hP9 : va_P (dC, dI) classes (WM h g ca iv lv fa la) s.heap := hP
            have hD9 : va_D A (WM h g ca iv lv fa la) := hD
            exact W.iret (v := (-1)) hx hb hr (fun t ht9 hW => ⟨⟨(-1), (iv, lv, fa, la), rfl, ⟨trivial, rfl⟩, by rw [ht9]; exact hP9, hD9⟩, hS.F ht9⟩) hS.2.2 dX12_size_38
        · exact absurd c5 (by decide)
      · skip
        refine lv_if_ne (tgt := 26) hx hb dX12_size_20 (by decide) (fun c422 => ?_) (fun c422 => ?_)
        · exact absurd rfl c422
        · skip
          refine lv_ldc hx hb hown (ht _ m_1373) dX12_size_23 ?_
          have hP9 : va_P (dC, dI) classes (WM h g ca iv lv fa la) s.heap := hP
          have hD9 : va_D A (WM h g ca iv lv fa la) := hD
          exact W.iret (v := (-100002)) hx hb hr (fun t ht9 hW => ⟨⟨(-100002), (iv, lv, fa, la), rfl, ⟨trivial, rfl⟩, by rw [ht9]; exact hP9, hD9⟩, hS.F ht9⟩) hS.2.2 dX12_size_25
    · exact absurd rfl c3
/-! ===== n10 ===== -/
theorem m_1571 : Cond.methodLink RX12 372 yX12_held ∈ tb := mb_7_2 _ (List.mem_of_getElem? (i := 0) rfl)
theorem m_1572 : Cond.static yX12_held ∈ tb := mb_7_2 _ (List.mem_of_getElem? (i := 1) rfl)
theorem m_1573 : Cond.code yX12_held cX12_held 1 (some .int) ∈ tb := mb_7_2 _ (List.mem_of_getElem? (i := 2) rfl)
theorem hd_X12_held_v : yX12_held.cls = RX12 ∧ yX12_held.cls ≠ "java/lang/invoke/MethodHandle" ∧ yX12_held.cls ≠ "java/lang/invoke/VarHandle" ∧ (parseMethodDescriptor yX12_held.desc).map (fun d => d.parameters.length) = some 1 := by decide +kernel
set_option maxRecDepth 100000 in
theorem dvX12_span_0 : ([(0, .aload_n 0, 1), (1, .iload_n 1, 1), (2, .invokevirtual 183, 3), (5, .ifCond .eq 7, 3), (8, .ldc2_w 362, 3), (11, .lreturn, 1), (12, .iload_n 2, 1), (13, .i2l, 1), (14, .lconst 0, 1), (15, .ldc2_w 190, 3), (18, .invokestatic 167, 3), (21, .ifCond .ne 7, 3), (24, .ldc2_w 364, 3), (27, .lreturn, 1), (28, .aload_n 0, 1), (29, .iload_n 1, 1), (30, .iconst 0, 1), (31, .aload_n 0, 1), (32, .getfield 171, 3), (35, .invokevirtual 237, 3), (38, .ifCond .ne 7, 3), (41, .ldc2_w 366, 3), (44, .lreturn, 1), (45, .lconst 0, 1)] : List (Nat × Instr × Nat)).all (fun q => decide (decode cX12_span q.1 = .ok (q.2.1, q.2.2))) = true := by decide +kernel
theorem dX12_span_0 : decode cX12_span 0 = .ok (.aload_n 0, 1) := all_at dvX12_span_0 0 rfl
theorem dX12_span_1 : decode cX12_span 1 = .ok (.iload_n 1, 1) := all_at dvX12_span_0 1 rfl
theorem dX12_span_2 : decode cX12_span 2 = .ok (.invokevirtual 183, 3) := all_at dvX12_span_0 2 rfl
theorem dX12_span_5 : decode cX12_span 5 = .ok (.ifCond .eq 7, 3) := all_at dvX12_span_0 3 rfl
theorem dX12_span_8 : decode cX12_span 8 = .ok (.ldc2_w 362, 3) := all_at dvX12_span_0 4 rfl
theorem dX12_span_11 : decode cX12_span 11 = .ok (.lreturn, 1) := all_at dvX12_span_0 5 rfl
theorem dX12_span_12 : decode cX12_span 12 = .ok (.iload_n 2, 1) := all_at dvX12_span_0 6 rfl
theorem dX12_span_13 : decode cX12_span 13 = .ok (.i2l, 1) := all_at dvX12_span_0 7 rfl
theorem dX12_span_14 : decode cX12_span 14 = .ok (.lconst 0, 1) := all_at dvX12_span_0 8 rfl
theorem dX12_span_15 : decode cX12_span 15 = .ok (.ldc2_w 190, 3) := all_at dvX12_span_0 9 rfl
theorem dX12_span_18 : decode cX12_span 18 = .ok (.invokestatic 167, 3) := all_at dvX12_span_0 10 rfl
theorem dX12_span_21 : decode cX12_span 21 = .ok (.ifCond .ne 7, 3) := all_at dvX12_span_0 11 rfl
theorem dX12_span_24 : decode cX12_span 24 = .ok (.ldc2_w 364, 3) := all_at dvX12_span_0 12 rfl
theorem dX12_span_27 : decode cX12_span 27 = .ok (.lreturn, 1) := all_at dvX12_span_0 13 rfl
theorem dX12_span_28 : decode cX12_span 28 = .ok (.aload_n 0, 1) := all_at dvX12_span_0 14 rfl
theorem dX12_span_29 : decode cX12_span 29 = .ok (.iload_n 1, 1) := all_at dvX12_span_0 15 rfl
theorem dX12_span_30 : decode cX12_span 30 = .ok (.iconst 0, 1) := all_at dvX12_span_0 16 rfl
theorem dX12_span_31 : decode cX12_span 31 = .ok (.aload_n 0, 1) := all_at dvX12_span_0 17 rfl
theorem dX12_span_32 : decode cX12_span 32 = .ok (.getfield 171, 3) := all_at dvX12_span_0 18 rfl
theorem dX12_span_35 : decode cX12_span 35 = .ok (.invokevirtual 237, 3) := all_at dvX12_span_0 19 rfl
theorem dX12_span_38 : decode cX12_span 38 = .ok (.ifCond .ne 7, 3) := all_at dvX12_span_0 20 rfl
theorem dX12_span_41 : decode cX12_span 41 = .ok (.ldc2_w 366, 3) := all_at dvX12_span_0 21 rfl
theorem dX12_span_44 : decode cX12_span 44 = .ok (.lreturn, 1) := all_at dvX12_span_0 22 rfl
theorem dX12_span_45 : decode cX12_span 45 = .ok (.lconst 0, 1) := all_at dvX12_span_0 23 rfl
set_option maxRecDepth 100000 in
theorem dvX12_span_46 : ([(46, .lstore_n 3, 1), (47, .iconst 0, 1), (48, .istore 5, 2), (50, .iload 5, 2), (52, .aload_n 0, 1), (53, .getfield 200, 3), (56, .if_icmp .ge 78, 3), (59, .aload_n 0, 1), (60, .getfield 13, 3), (63, .iload 5, 2), (65, .iaload, 1), (66, .iload_n 1, 1), (67, .if_icmp .ne 61, 3), (70, .aload_n 0, 1), (71, .getfield 16, 3), (74, .iload 5, 2), (76, .iaload, 1), (77, .ifCond .ne 51, 3), (80, .aload_n 0, 1), (81, .iload 5, 2), (83, .aload_n 0, 1), (84, .getfield 171, 3), (87, .invokevirtual 233, 3), (90, .ifCond .eq 38, 3)] : List (Nat × Instr × Nat)).all (fun q => decide (decode cX12_span q.1 = .ok (q.2.1, q.2.2))) = true := by decide +kernel
theorem dX12_span_46 : decode cX12_span 46 = .ok (.lstore_n 3, 1) := all_at dvX12_span_46 0 rfl
theorem dX12_span_47 : decode cX12_span 47 = .ok (.iconst 0, 1) := all_at dvX12_span_46 1 rfl
theorem dX12_span_48 : decode cX12_span 48 = .ok (.istore 5, 2) := all_at dvX12_span_46 2 rfl
theorem dX12_span_50 : decode cX12_span 50 = .ok (.iload 5, 2) := all_at dvX12_span_46 3 rfl
theorem dX12_span_52 : decode cX12_span 52 = .ok (.aload_n 0, 1) := all_at dvX12_span_46 4 rfl
theorem dX12_span_53 : decode cX12_span 53 = .ok (.getfield 200, 3) := all_at dvX12_span_46 5 rfl
theorem dX12_span_56 : decode cX12_span 56 = .ok (.if_icmp .ge 78, 3) := all_at dvX12_span_46 6 rfl
theorem dX12_span_59 : decode cX12_span 59 = .ok (.aload_n 0, 1) := all_at dvX12_span_46 7 rfl
theorem dX12_span_60 : decode cX12_span 60 = .ok (.getfield 13, 3) := all_at dvX12_span_46 8 rfl
theorem dX12_span_63 : decode cX12_span 63 = .ok (.iload 5, 2) := all_at dvX12_span_46 9 rfl
theorem dX12_span_65 : decode cX12_span 65 = .ok (.iaload, 1) := all_at dvX12_span_46 10 rfl
theorem dX12_span_66 : decode cX12_span 66 = .ok (.iload_n 1, 1) := all_at dvX12_span_46 11 rfl
theorem dX12_span_67 : decode cX12_span 67 = .ok (.if_icmp .ne 61, 3) := all_at dvX12_span_46 12 rfl
theorem dX12_span_70 : decode cX12_span 70 = .ok (.aload_n 0, 1) := all_at dvX12_span_46 13 rfl
theorem dX12_span_71 : decode cX12_span 71 = .ok (.getfield 16, 3) := all_at dvX12_span_46 14 rfl
theorem dX12_span_74 : decode cX12_span 74 = .ok (.iload 5, 2) := all_at dvX12_span_46 15 rfl
theorem dX12_span_76 : decode cX12_span 76 = .ok (.iaload, 1) := all_at dvX12_span_46 16 rfl
theorem dX12_span_77 : decode cX12_span 77 = .ok (.ifCond .ne 51, 3) := all_at dvX12_span_46 17 rfl
theorem dX12_span_80 : decode cX12_span 80 = .ok (.aload_n 0, 1) := all_at dvX12_span_46 18 rfl
theorem dX12_span_81 : decode cX12_span 81 = .ok (.iload 5, 2) := all_at dvX12_span_46 19 rfl
theorem dX12_span_83 : decode cX12_span 83 = .ok (.aload_n 0, 1) := all_at dvX12_span_46 20 rfl
theorem dX12_span_84 : decode cX12_span 84 = .ok (.getfield 171, 3) := all_at dvX12_span_46 21 rfl
theorem dX12_span_87 : decode cX12_span 87 = .ok (.invokevirtual 233, 3) := all_at dvX12_span_46 22 rfl
theorem dX12_span_90 : decode cX12_span 90 = .ok (.ifCond .eq 38, 3) := all_at dvX12_span_46 23 rfl
set_option maxRecDepth 100000 in
theorem dvX12_span_93 : ([(93, .lload_n 3, 1), (94, .aload_n 0, 1), (95, .aload_n 0, 1), (96, .getfield 19, 3), (99, .iload 5, 2), (101, .iaload, 1), (102, .aload_n 0, 1), (103, .getfield 34, 3), (106, .iload 5, 2), (108, .iaload, 1), (109, .iload_n 2, 1), (110, .iconst 2, 1), (111, .if_icmp .ge 7, 3), (114, .iconst 1, 1), (115, .goto 4, 3), (118, .iconst 0, 1), (119, .invokevirtual 219, 3), (122, .invokestatic 372, 3), (125, .i2l, 1), (126, .ladd, 1), (127, .lstore_n 3, 1), (128, .iinc 5 1, 3), (131, .goto (-81), 3), (134, .aload_n 0, 1)] : List (Nat × Instr × Nat)).all (fun q => decide (decode cX12_span q.1 = .ok (q.2.1, q.2.2))) = true := by decide +kernel
theorem dX12_span_93 : decode cX12_span 93 = .ok (.lload_n 3, 1) := all_at dvX12_span_93 0 rfl
theorem dX12_span_94 : decode cX12_span 94 = .ok (.aload_n 0, 1) := all_at dvX12_span_93 1 rfl
theorem dX12_span_95 : decode cX12_span 95 = .ok (.aload_n 0, 1) := all_at dvX12_span_93 2 rfl
theorem dX12_span_96 : decode cX12_span 96 = .ok (.getfield 19, 3) := all_at dvX12_span_93 3 rfl
theorem dX12_span_99 : decode cX12_span 99 = .ok (.iload 5, 2) := all_at dvX12_span_93 4 rfl
theorem dX12_span_101 : decode cX12_span 101 = .ok (.iaload, 1) := all_at dvX12_span_93 5 rfl
theorem dX12_span_102 : decode cX12_span 102 = .ok (.aload_n 0, 1) := all_at dvX12_span_93 6 rfl
theorem dX12_span_103 : decode cX12_span 103 = .ok (.getfield 34, 3) := all_at dvX12_span_93 7 rfl
theorem dX12_span_106 : decode cX12_span 106 = .ok (.iload 5, 2) := all_at dvX12_span_93 8 rfl
theorem dX12_span_108 : decode cX12_span 108 = .ok (.iaload, 1) := all_at dvX12_span_93 9 rfl
theorem dX12_span_109 : decode cX12_span 109 = .ok (.iload_n 2, 1) := all_at dvX12_span_93 10 rfl
theorem dX12_span_110 : decode cX12_span 110 = .ok (.iconst 2, 1) := all_at dvX12_span_93 11 rfl
theorem dX12_span_111 : decode cX12_span 111 = .ok (.if_icmp .ge 7, 3) := all_at dvX12_span_93 12 rfl
theorem dX12_span_114 : decode cX12_span 114 = .ok (.iconst 1, 1) := all_at dvX12_span_93 13 rfl
theorem dX12_span_115 : decode cX12_span 115 = .ok (.goto 4, 3) := all_at dvX12_span_93 14 rfl
theorem dX12_span_118 : decode cX12_span 118 = .ok (.iconst 0, 1) := all_at dvX12_span_93 15 rfl
theorem dX12_span_119 : decode cX12_span 119 = .ok (.invokevirtual 219, 3) := all_at dvX12_span_93 16 rfl
theorem dX12_span_122 : decode cX12_span 122 = .ok (.invokestatic 372, 3) := all_at dvX12_span_93 17 rfl
theorem dX12_span_125 : decode cX12_span 125 = .ok (.i2l, 1) := all_at dvX12_span_93 18 rfl
theorem dX12_span_126 : decode cX12_span 126 = .ok (.ladd, 1) := all_at dvX12_span_93 19 rfl
theorem dX12_span_127 : decode cX12_span 127 = .ok (.lstore_n 3, 1) := all_at dvX12_span_93 20 rfl
theorem dX12_span_128 : decode cX12_span 128 = .ok (.iinc 5 1, 3) := all_at dvX12_span_93 21 rfl
theorem dX12_span_131 : decode cX12_span 131 = .ok (.goto (-81), 3) := all_at dvX12_span_93 22 rfl
theorem dX12_span_134 : decode cX12_span 134 = .ok (.aload_n 0, 1) := all_at dvX12_span_93 23 rfl
set_option maxRecDepth 100000 in
theorem dvX12_span_135 : ([(135, .iload_n 1, 1), (136, .aload_n 0, 1), (137, .getfield 223, 3), (140, .lload_n 3, 1), (141, .lsub, 1), (142, .aload_n 0, 1), (143, .getfield 227, 3), (146, .lload_n 3, 1), (147, .lsub, 1), (148, .aload_n 0, 1), (149, .getfield 171, 3), (152, .invokevirtual 368, 3), (155, .iload_n 2, 1), (156, .iconst 2, 1), (157, .irem, 1), (158, .ifCond .ne 10, 3), (161, .aload_n 0, 1), (162, .getfield 356, 3), (165, .goto 7, 3), (168, .aload_n 0, 1), (169, .getfield 359, 3), (172, .lreturn, 1)] : List (Nat × Instr × Nat)).all (fun q => decide (decode cX12_span q.1 = .ok (q.2.1, q.2.2))) = true := by decide +kernel
theorem dX12_span_135 : decode cX12_span 135 = .ok (.iload_n 1, 1) := all_at dvX12_span_135 0 rfl
theorem dX12_span_136 : decode cX12_span 136 = .ok (.aload_n 0, 1) := all_at dvX12_span_135 1 rfl
theorem dX12_span_137 : decode cX12_span 137 = .ok (.getfield 223, 3) := all_at dvX12_span_135 2 rfl
theorem dX12_span_140 : decode cX12_span 140 = .ok (.lload_n 3, 1) := all_at dvX12_span_135 3 rfl
theorem dX12_span_141 : decode cX12_span 141 = .ok (.lsub, 1) := all_at dvX12_span_135 4 rfl
theorem dX12_span_142 : decode cX12_span 142 = .ok (.aload_n 0, 1) := all_at dvX12_span_135 5 rfl
theorem dX12_span_143 : decode cX12_span 143 = .ok (.getfield 227, 3) := all_at dvX12_span_135 6 rfl
theorem dX12_span_146 : decode cX12_span 146 = .ok (.lload_n 3, 1) := all_at dvX12_span_135 7 rfl
theorem dX12_span_147 : decode cX12_span 147 = .ok (.lsub, 1) := all_at dvX12_span_135 8 rfl
theorem dX12_span_148 : decode cX12_span 148 = .ok (.aload_n 0, 1) := all_at dvX12_span_135 9 rfl
theorem dX12_span_149 : decode cX12_span 149 = .ok (.getfield 171, 3) := all_at dvX12_span_135 10 rfl
theorem dX12_span_152 : decode cX12_span 152 = .ok (.invokevirtual 368, 3) := all_at dvX12_span_135 11 rfl
theorem dX12_span_155 : decode cX12_span 155 = .ok (.iload_n 2, 1) := all_at dvX12_span_135 12 rfl
theorem dX12_span_156 : decode cX12_span 156 = .ok (.iconst 2, 1) := all_at dvX12_span_135 13 rfl
theorem dX12_span_157 : decode cX12_span 157 = .ok (.irem, 1) := all_at dvX12_span_135 14 rfl
theorem dX12_span_158 : decode cX12_span 158 = .ok (.ifCond .ne 10, 3) := all_at dvX12_span_135 15 rfl
theorem dX12_span_161 : decode cX12_span 161 = .ok (.aload_n 0, 1) := all_at dvX12_span_135 16 rfl
theorem dX12_span_162 : decode cX12_span 162 = .ok (.getfield 356, 3) := all_at dvX12_span_135 17 rfl
theorem dX12_span_165 : decode cX12_span 165 = .ok (.goto 7, 3) := all_at dvX12_span_135 18 rfl
theorem dX12_span_168 : decode cX12_span 168 = .ok (.aload_n 0, 1) := all_at dvX12_span_135 19 rfl
theorem dX12_span_169 : decode cX12_span 169 = .ok (.getfield 359, 3) := all_at dvX12_span_135 20 rfl
theorem dX12_span_172 : decode cX12_span 172 = .ok (.lreturn, 1) := all_at dvX12_span_135 21 rfl
set_option maxHeartbeats 4000000 in
set_option maxRecDepth 100000 in
/-- X12_held -/
theorem c_X12_held_x (l : Launch) (dC : Nat → ClassId) (dI : Nat → Nat → Nat) (a : Int32) : Met l yX12_held (wc yX12_held cX12_held 1 (some .int)) ({ frames := 0, cells := 0, slots := 0, locals := 0 } : Room) (pR (dC, dI) classes [] [] [.int a]) (vp_Si (fun r => (-40) ≤ r.toInt ∧ r.toInt ≤ 40)) 0 0 (fun _ => False) := by
  refine Met.ofW (cc := cX12_held) (maxL := 1) (ret := (some .int)) (by decide) rfl ?_
  intro p e s m args below meth c s₁ B hml hv
  obtain ⟨rfl, hP, hK⟩ := hv
  have hx := B.exec
  have hb := B.bytes
  have hr := B.returns
  have ht := tb_tl (atoms_spec (ws := wc yX12_held cX12_held 1 (some .int)) B.pre)
  have hown : s.vm.findClass RX12 = some m.cls := findClass_of_methodNamed B.named
  have hlocks := B.notSynchronized
  have hl := lv_entry [.int a] (n := 1) (Nat.le_of_ble_eq_true rfl)
  rw [lg_entry_eq]
  generalize (lg_sl [.int a] ++ List.replicate (1 - (lg_sl [.int a]).length) Slot.unset).toArray = ls at hl ⊢
  have hl : lv_has ls 1 [(0, .int a)] := hl
  refine lv_iload_n hx hb dX12_held_0 rfl (lv_at hl 0 rfl) ?_
  refine lv_bipush (v := 40) hx hb dX12_held_1 (by decide) ?_
  refine lv_icmp_le (tgt := 11) hx hb dX12_held_3 (by decide) (fun c1 => ?_) (fun c1 => ?_)
  · have fc1 := z_le (rfl : (a).toInt = _) (by decide : (40 : Int32).toInt = 40) c1
    refine lv_iload_n hx hb dX12_held_11 rfl (lv_at hl 0 rfl) ?_
    refine lv_bipush (v := (-40)) hx hb dX12_held_12 (by decide) ?_
    refine lv_icmp_ge (tgt := 22) hx hb dX12_held_14 (by decide) (fun c2 => ?_) (fun c2 => ?_)
    · have fc2 := z_le (by decide : ((-40) : Int32).toInt = (-40)) (rfl : (a).toInt = _) c2
      refine lv_iload_n hx hb dX12_held_22 rfl (lv_at hl 0 rfl) ?_
      exact W.iret (v := a) hx hb hr (fun t ht9 hW => ⟨a, rfl, ⟨by omega, by omega⟩, ht9⟩) (fun q hq => by cases hq) dX12_held_23
    · have fc2 := z_nle (by decide : ((-40) : Int32).toInt = (-40)) (rfl : (a).toInt = _) c2
      refine lv_bipush (v := (-40)) hx hb dX12_held_17 (by decide) ?_
      refine lv_goto (tgt := 23) hx hb dX12_held_19 (by decide) ?_
      exact W.iret (v := (-40)) hx hb hr (fun t ht9 hW => ⟨(-40), rfl, ⟨by decide, by decide⟩, ht9⟩) (fun q hq => by cases hq) dX12_held_23
  · have fc1 := z_nle (rfl : (a).toInt = _) (by decide : (40 : Int32).toInt = 40) c1
    refine lv_bipush (v := 40) hx hb dX12_held_6 (by decide) ?_
    refine lv_goto (tgt := 23) hx hb dX12_held_8 (by decide) ?_
    exact W.iret (v := 40) hx hb hr (fun t ht9 hW => ⟨40, rfl, ⟨by decide, by decide⟩, ht9⟩) (fun q hq => by cases hq) dX12_held_23
set_option maxHeartbeats 4000000 in
set_option maxRecDepth 100000 in
/-- X12_span -/
theorem c_X12_span (l : Launch) (dC : Nat → ClassId) (dI : Nat → Nat → Nat) (sz : Nat) (h : Nat) (g : Nat → Nat → Nat) (ca : Nat → Nat → ClassId) (iv : Nat → Nat → Int32) (lv : Nat → Nat → Int64) (fa : Nat → Nat → Nat → Int32) (la : Nat → Nat → Nat → Int64) (hI : IX iv fa) (a : Int32) (b : Int32) (hJC : JCf (iv 12 23).toInt (fa 12 25) (fa 12 26) (fa 12 27) (fa 12 28)) (hJR : JRf (iv 12 3).toInt (fa 12 7)) (hJO : (iv 12 20).toInt = -1 ∧ (iv 12 21).toInt = -1 ∧ (iv 12 22).toInt = -1) : Met l yX12_span (wc yX12_span cX12_span 6 (some .long)) ({ frames := 3, cells := 0, slots := 0, locals := 92 } : Room) (pW (dC, dI) classes (WM h g ca iv lv fa la) (TM ca) sz [.ref h, .int a, .int b]) (va_Ql (fun r (u : SS) => ∃ (na_12_39 : Nat → Int32) (na_12_40 : Nat → Int32) (ni_12_19 : Int32) (ni_12_41 : Int32) (nl_12_17 : Int64) (nl_12_18 : Int64) (nl_12_46 : Int64) (nl_12_47 : Int64), (∀ j, inb (bA 12 39 j) (na_12_39 j)) ∧ (∀ j, inb (bA 12 40 j) (na_12_40 j)) ∧ inb (bI 12 41) ni_12_41 ∧ (True) ∧ u = ((u2 (u2 iv 12 19 ni_12_19) 12 41 ni_12_41), (u2 (u2 (u2 (u2 lv 12 17 nl_12_17) 12 18 nl_12_18) 12 46 nl_12_46) 12 47 nl_12_47), (u2 (u2 fa 12 39 na_12_39) 12 40 na_12_40), la)) (bM (dC, dI) h g ca (va_A (WM h g ca iv lv fa la) sz)) (va_A (WM h g ca iv lv fa la) sz)) 0 0 (va_A (WM h g ca iv lv fa la) sz) := by
  refine Met.ofW (cc := cX12_span) (maxL := 6) (ret := (some .long)) (by decide) rfl ?_
  intro p e s m args below meth c s₁ B hml hv
  obtain ⟨rfl, hsz, hP, hK, hD0⟩ := hv
  have hx := B.exec
  have hb := B.bytes
  have hr := B.returns
  have ht := tb_tl (atoms_spec (ws := wc yX12_span cX12_span 6 (some .long)) B.pre)
  have hown : s.vm.findClass RX12 = some m.cls := findClass_of_methodNamed B.named
  have hlocks := B.notSynchronized
  subst hsz
  have hD := hD0.self (sz := s.heap.size)
  generalize hAe : va_A (WM h g ca iv lv fa la) s.heap.size = A at hD ⊢
  have hA : ∀ q : Nat, s.heap.size ≤ q → A q := fun q h => by rw [← hAe]; exact Or.inr h
  have hS : va_S A s.heap s.heap [] := va_S.rf
  have hl := lv_entry [.ref h, .int a, .int b] (n := 6) (Nat.le_of_ble_eq_true rfl)
  rw [lg_entry_eq]
  generalize (lg_sl [.ref h, .int a, .int b] ++ List.replicate (6 - (lg_sl [.ref h, .int a, .int b]).length) Slot.unset).toArray = ls at hl ⊢
  have hl : lv_has ls 6 [(0, .ref h), (1, .int a), (2, .int b)] := hl
  refine lv_aload_n hx hb dX12_span_0 rfl (lv_at hl 0 rfl) ?_
  refine lv_iload_n hx hb dX12_span_1 rfl (lv_at hl 1 rfl) ?_
  refine vp_callSi (W.runV (As := [.int a]) (rest := []) ⟨hx, hb, hml, hown, ht⟩ (c_X12_noBale l dC dI h g ca iv lv fa la hI a) (kV 1 ht m_1385 m_1387 m_42 m_89 m_1388 rfl rfl hd_X12_noBale_v ⟨Nat.le_of_ble_eq_true rfl, Nat.le_of_ble_eq_true rfl⟩) (vR hP hK (rM_12 hK hP)) rfl rfl hl.1 rfl (lv_room (Nat.le_of_ble_eq_true rfl)) dX12_span_2 ⟨Nat.le_of_ble_eq_true rfl, Nat.le_of_ble_eq_true rfl⟩) (fun r1 hr1 => ?_)
  rcases hr1 with ⟨rfl, fr1⟩ | ⟨rfl, fr1⟩
  · skip
    have i_12_1 : 0 ≤ (iv 12 1).toInt ∧ (iv 12 1).toInt ≤ 10 := hI.1 12 1
    have fr1 : ¬ (0 ≤ (a : Int32).toInt ∧ (a : Int32).toInt < ((iv 12 1) : Int32).toInt) := fr1
    refine lv_if_eq (tgt := 12) hx hb dX12_span_5 (by decide) (fun c2 => ?_) (fun c2 => ?_)
    · exact absurd c2 (by decide)
    · skip
      refine lv_ldc2 hx hb hown (ht _ m_1560) dX12_span_8 ?_
      have hP9 : va_P (dC, dI) classes (WM h g ca (u2 (u2 iv 12 19 (iv 12 19)) 12 41 (iv 12 41)) (u2 (u2 (u2 (u2 lv 12 17 (lv 12 17)) 12 18 (lv 12 18)) 12 46 (lv 12 46)) 12 47 (lv 12 47)) (u2 (u2 fa 12 39 (fa 12 39)) 12 40 (fa 12 40)) la) s.heap := hP
      have hD9 : va_D A (WM h g ca (u2 (u2 iv 12 19 (iv 12 19)) 12 41 (iv 12 41)) (u2 (u2 (u2 (u2 lv 12 17 (lv 12 17)) 12 18 (lv 12 18)) 12 46 (lv 12 46)) 12 47 (lv 12 47)) (u2 (u2 fa 12 39 (fa 12 39)) 12 40 (fa 12 40)) la) := hD
      exact W.lret (v := (-100001)) hx hb hr (fun t ht9 hW => ⟨⟨(-100001), ((u2 (u2 iv 12 19 (iv 12 19)) 12 41 (iv 12 41)), (u2 (u2 (u2 (u2 lv 12 17 (lv 12 17)) 12 18 (lv 12 18)) 12 46 (lv 12 46)) 12 47 (lv 12 47)), (u2 (u2 fa 12 39 (fa 12 39)) 12 40 (fa 12 40)), la), rfl, ⟨(fa 12 39), (fa 12 40), (iv 12 19), (iv 12 41), (lv 12 17), (lv 12 18), (lv 12 46), (lv 12 47), (hI.2 12 39), (hI.2 12 40), (hI.1 12 41), trivial, rfl⟩, by rw [ht9]; exact hP9, hD9⟩, hS.F ht9⟩) hS.2.2 dX12_span_11
  · skip
    have i_12_1 : 0 ≤ (iv 12 1).toInt ∧ (iv 12 1).toInt ≤ 10 := hI.1 12 1
    have fr1 : (0 ≤ (a : Int32).toInt ∧ (a : Int32).toInt < ((iv 12 1) : Int32).toInt) := Decidable.not_not.mp fr1
    refine lv_if_eq (tgt := 12) hx hb dX12_span_5 (by decide) (fun c3 => ?_) (fun c3 => ?_)
    · skip
      refine lv_iload_n hx hb dX12_span_12 rfl (lv_at hl 2 rfl) ?_
      refine lv_i2l (v := (b.toInt64)) hx hb dX12_span_13 rfl ?_
      refine lv_lconst (v := 0) hx hb dX12_span_14 (by decide) ?_
      refine lv_ldc2 hx hb hown (ht _ m_1391) dX12_span_15 ?_
      refine vp_callSi (W.runS (As := [.long (b.toInt64), .long 0, .long 3]) (rest := []) ⟨hx, hb, hml, hown, ht⟩ (c_X12_in l dC dI (b.toInt64) 0 3 (b.toInt) (0) (3) ((Int32.toInt_toInt64 b).trans rfl) (by decide : (0 : Int64).toInt = 0) (by decide : (3 : Int64).toInt = 3)) (kS 3 ht m_1370 m_1371 m_89 m_1372 rfl rfl hd_X12_in_v ⟨Nat.le_of_ble_eq_true rfl, Nat.le_of_ble_eq_true rfl⟩) (sR noP (hK.sub (tys' := []) [] rfl)) rfl rfl hl.1 rfl (lv_room (Nat.le_of_ble_eq_true rfl)) dX12_span_18 ⟨Nat.le_of_ble_eq_true rfl, Nat.le_of_ble_eq_true rfl⟩) (fun r4 hr4 => ?_)
      rcases hr4 with ⟨rfl, fr4⟩ | ⟨rfl, fr4⟩
      · skip
        refine lv_if_ne (tgt := 28) hx hb dX12_span_21 (by decide) (fun c5 => ?_) (fun c5 => ?_)
        · skip
          have : (-1) ≤ ((iv 12 20) : Int32).toInt ∧ ((iv 12 20) : Int32).toInt ≤ (-1) := ⟨by omega, by omega⟩
          have : (-1) ≤ ((iv 12 21) : Int32).toInt ∧ ((iv 12 21) : Int32).toInt ≤ (-1) := ⟨by omega, by omega⟩
          have : (-1) ≤ ((iv 12 22) : Int32).toInt ∧ ((iv 12 22) : Int32).toInt ≤ (-1) := ⟨by omega, by omega⟩
          refine lv_aload_n hx hb dX12_span_28 rfl (lv_at hl 0 rfl) ?_
          refine lv_iload_n hx hb dX12_span_29 rfl (lv_at hl 1 rfl) ?_
          refine lv_iconst (v := 0) hx hb dX12_span_30 (by decide) ?_
          refine lv_aload_n hx hb dX12_span_31 rfl (lv_at hl 0 rfl) ?_
          have i_12_0 : 0 ≤ (iv 12 0).toInt ∧ (iv 12 0).toInt ≤ 3000 := hI.1 12 0
          refine gM_12_0 hx hb ht hown hK hP m_1139 (v := (iv 12 0)) rfl dX12_span_32 ?_
          have hFc := free_all hD hS hA
          refine va_calli (va_runV (As := [.int a, .int 0, .int (iv 12 0)]) (rest := []) ⟨hx, hb, hml, hown, ht⟩ (c_X12_sumUp_c l dC dI s.heap.size h g ca iv lv fa la hI a 0 (iv 12 0) (show (-1) ≤ ((iv 12 20) : Int32).toInt ∧ ((iv 12 20) : Int32).toInt ≤ (-1) from ⟨by omega, by omega⟩) (show (-1) ≤ ((iv 12 21) : Int32).toInt ∧ ((iv 12 21) : Int32).toInt ≤ (-1) from ⟨by omega, by omega⟩) (show (-1) ≤ ((iv 12 22) : Int32).toInt ∧ ((iv 12 22) : Int32).toInt ≤ (-1) from ⟨by omega, by omega⟩) hJR) (kV 3 ht m_1434 m_1436 m_45 m_89 m_1437 rfl rfl hd_X12_sumUp_v ⟨Nat.le_of_ble_eq_true rfl, Nat.le_of_ble_eq_true rfl⟩) (vW hP hK hD (rM_12 hK hP)) rfl rfl hl.1 rfl (lv_room (Nat.le_of_ble_eq_true rfl)) dX12_span_35 ⟨Nat.le_of_ble_eq_true rfl, Nat.le_of_ble_eq_true rfl⟩) hS (fun q _ h => hFc q h) hFc (fun r6 u t H1 locs ht9 hvm hr6 hB hz1 hk1 hS => ?_)
          obtain ⟨n7, n8, n9, xr6_0, xr6_1, xr6_2, xr6_3, xr6_4, xr6_5, hr6, rfl⟩ := hr6
          obtain ⟨hP, hD⟩ := hB
          rw [ht9] at hP
          generalize H1 = H at hP hS ⊢
          have hP : va_P (dC, dI) classes (WM h g ca (u2 iv 12 19 n7) (u2 (u2 lv 12 17 n8) 12 18 n9) fa la) H := hP
          have hD : va_D A (WM h g ca (u2 iv 12 19 n7) (u2 (u2 lv 12 17 n8) 12 18 n9) fa la) := (show va_D _ (WM h g ca (u2 iv 12 19 n7) (u2 (u2 lv 12 17 n8) 12 18 n9) fa la) from hD).weaken (fun _ _ _ h => hFc _ h)
          have xr6_0 : 0 ≤ (r6 : Int32).toInt := xr6_0
          have xr6_1 : (r6 : Int32).toInt ≤ 60 := xr6_1
          have xr6_2 : 0 ≤ (n9 : Int64).toInt := xr6_2
          have xr6_3 : (n9 : Int64).toInt ≤ 599940 := xr6_3
          have xr6_4 : 100 * (r6 : Int32).toInt ≤ (n9 : Int64).toInt := xr6_4
          have i_12_3 : 0 ≤ (iv 12 3).toInt ∧ (iv 12 3).toInt ≤ 60 := hI.1 12 3
          have xr6_5 : 100 * ((cn1 (fa 12 4) (fa 12 5) (fa 12 11) (fa 12 12) (a : Int32) (0 : Int32) ((iv 12 0) : Int32) (((iv 12 3) : Int32).toInt).toNat : Nat) : Int) ≤ (n9 : Int64).toInt := xr6_5
          refine lv_if_ne (tgt := 45) hx hb dX12_span_38 (by decide) (fun c10 => ?_) (fun c10 => ?_)
          · have fc10 := z_ne (rfl : (r6).toInt = _) (by decide : (0 : Int32).toInt = 0) c10
            refine lv_lconst (v := 0) hx hb dX12_span_45 (by decide) ?_
            refine lv_lstore_n (lv' := [(3, .long 0), (0, .ref h), (1, .int a), (2, .int b)]) hx hb dX12_span_46 rfl hl (by decide) rfl (fun ls hl => ?_)
            refine lv_iconst (v := 0) hx hb dX12_span_47 (by decide) ?_
            refine lv_istore (lv' := [(5, .int 0), (3, .long 0), (0, .ref h), (1, .int a), (2, .int b)]) hx hb dX12_span_48 hl (by decide) rfl (fun ls hl => ?_)
            have lp716 : ∀ (nn716 : Nat) (x715_5 : Int32) (x715_3 : Int64), 0 ≤ x715_5.toInt ∧ x715_5.toInt ≤ 60 → ((x715_3 : Int64).toInt ≤ 40 * ((cn1 (fa 12 4) (fa 12 5) (fa 12 11) (fa 12 12) a 0 (iv 12 0) ((x715_5 : Int32).toInt).toNat : Nat) : Int)) → -40 * (x715_5 : Int32).toInt ≤ (x715_3 : Int64).toInt → (x715_3 : Int64).toInt ≤ 40 * (x715_5 : Int32).toInt → (x715_5 : Int32).toInt ≤ ((iv 12 3) : Int32).toInt → 60 - x715_5.toInt < (nn716 : Int) → ∀ (H : Heap) (locs : List Loc), ∀ (ls : Array Slot), va_P (dC, dI) classes (WM h g ca (u2 iv 12 19 n7) (u2 (u2 lv 12 17 n8) 12 18 n9) fa la) H → va_D A (WM h g ca (u2 iv 12 19 n7) (u2 (u2 lv 12 17 n8) 12 18 n9) fa la) → va_S A s.heap H locs → lv_has ls 6 [(5, .int x715_5), (3, .long x715_3), (0, .ref h), (1, .int a), (2, .int b)] → W p l e ({ frames := 3, cells := 0, slots := 0, locals := 92 } : Room) s m ([.ref h, .int a, .int b] : List Value).toArray below meth c H locs 0 0 (MQ below (va_Ql (fun r (u : SS) => ∃ (na_12_39 : Nat → Int32) (na_12_40 : Nat → Int32) (ni_12_19 : Int32) (ni_12_41 : Int32) (nl_12_17 : Int64) (nl_12_18 : Int64) (nl_12_46 : Int64) (nl_12_47 : Int64), (∀ j, inb (bA 12 39 j) (na_12_39 j)) ∧ (∀ j, inb (bA 12 40 j) (na_12_40 j)) ∧ inb (bI 12 41) ni_12_41 ∧ (True) ∧ u = ((u2 (u2 iv 12 19 ni_12_19) 12 41 ni_12_41), (u2 (u2 (u2 (u2 lv 12 17 nl_12_17) 12 18 nl_12_18) 12 46 nl_12_46) 12 47 nl_12_47), (u2 (u2 fa 12 39 na_12_39) 12 40 na_12_40), la)) (bM (dC, dI) h g ca A) A) ([.ref h, .int a, .int b] : List Value).toArray s 0 0 A) (F0 m 50 ls []) := by
              intro nn716
              induction nn716 with
              | zero => intro x715_5 x715_3 hx715_5 hq716_0 hq716_1 hq716_2 hq716_3 hm716; exfalso; omega
              | succ nn716 ih716 =>
                intro x715_5 x715_3 hx715_5 hq716_0 hq716_1 hq716_2 hq716_3 hm716 H locs ls hP hD hS hl
                refine lv_iload hx hb dX12_span_50 (lv_at hl 0 rfl) ?_
                refine lv_aload_n hx hb dX12_span_52 rfl (lv_at hl 2 rfl) ?_
                refine gM_12_3 hx hb ht hown hK hP m_1142 (v := (iv 12 3)) rfl dX12_span_53 ?_
                refine lv_icmp_ge (tgt := 134) hx hb dX12_span_56 (by decide) (fun c717 => ?_) (fun c717 => ?_)
                · have fc717 := z_le (rfl : ((iv 12 3)).toInt = _) (rfl : (x715_5).toInt = _) c717
                  have he9 : (x715_5 : Int32).toInt = (iv 12 3).toInt := by omega
                  have hq9 := hq716_0
                  rw [he9] at hq9
                  refine lv_aload_n hx hb dX12_span_134 rfl (lv_at hl 2 rfl) ?_
                  refine lv_iload_n hx hb dX12_span_135 rfl (lv_at hl 3 rfl) ?_
                  refine lv_aload_n hx hb dX12_span_136 rfl (lv_at hl 2 rfl) ?_
                  refine gM_12_17 hx hb ht hown hK hP m_1156 (v := n8) rfl dX12_span_137 ?_
                  refine lv_lload_n hx hb dX12_span_140 rfl (lv_at hl 1 rfl) ?_
                  refine lv_lsub hx hb dX12_span_141 ?_
                  refine lv_topl (fun w718 ew718 => ?_)
                  refine lv_aload_n hx hb dX12_span_142 rfl (lv_at hl 2 rfl) ?_
                  refine gM_12_18 hx hb ht hown hK hP m_1157 (v := n9) rfl dX12_span_143 ?_
                  refine lv_lload_n hx hb dX12_span_146 rfl (lv_at hl 1 rfl) ?_
                  have : (-2400) ≤ (x715_3 : Int64).toInt ∧ (x715_3 : Int64).toInt ≤ 2400 := ⟨by omega, by omega⟩
                  have : 0 ≤ (n9 : Int64).toInt ∧ (n9 : Int64).toInt ≤ 599940 := ⟨by omega, by omega⟩
                  refine lv_lsub hx hb dX12_span_147 ?_
                  refine lv_topl (fun w719 ew719 => ?_)
                  have tw719 := l_sub ew719 (rfl : (n9).toInt = _) (rfl : (x715_3).toInt = _) (by omega) (by omega)
                  refine lv_aload_n hx hb dX12_span_148 rfl (lv_at hl 2 rfl) ?_
                  refine gM_12_0 hx hb ht hown hK hP m_1139 (v := (iv 12 0)) rfl dX12_span_149 ?_
                  have hFc := free_all hD hS hA
                  refine va_callv (va_runV (As := [.int a, .long w718, .long w719, .int (iv 12 0)]) (rest := []) ⟨hx, hb, hml, hown, ht⟩ (c_X12_findLawful l dC dI H.size h g ca (u2 iv 12 19 n7) (u2 (u2 lv 12 17 n8) 12 18 n9) fa la (IX_i (c := 12) (k := 19) hI (full_i _)) a w718 w719 (iv 12 0) ⟨by omega, by omega⟩ (show (w719 : Int64).toInt ≠ 0 from by omega) (show -1000000000000 ≤ (w719 : Int64).toInt from by omega) (show (w719 : Int64).toInt ≤ 1000000000000 from by omega) hJC) (kV 4 ht m_1563 m_1565 m_63 m_89 m_1566 rfl rfl hd_X12_findLawful_v ⟨Nat.le_of_ble_eq_true rfl, Nat.le_of_ble_eq_true rfl⟩) (vW hP hK hD (rM_12 hK hP)) rfl rfl hl.1 rfl (lv_room (Nat.le_of_ble_eq_true rfl)) dX12_span_152 ⟨Nat.le_of_ble_eq_true rfl, Nat.le_of_ble_eq_true rfl⟩) hS (fun q _ h => hFc q h) hFc (fun u t H1 locs ht9 hvm hr720 hB hz1 hk1 hS => ?_)
                  obtain ⟨n721, n722, n723, n724, n725, hn721, hn722, hn723, xr720_0, rfl⟩ := hr720
                  have hn723 : 0 ≤ n723.toInt ∧ n723.toInt ≤ 8 := hn723
                  obtain ⟨hP, hD⟩ := hB
                  rw [ht9] at hP
                  generalize H1 = H at hP hS ⊢
                  have hP : va_P (dC, dI) classes (WM h g ca (u2 (u2 iv 12 19 n7) 12 41 n723) (u2 (u2 (u2 (u2 lv 12 17 n8) 12 18 n9) 12 46 n724) 12 47 n725) (u2 (u2 fa 12 39 n721) 12 40 n722) la) H := hP
                  have hD : va_D A (WM h g ca (u2 (u2 iv 12 19 n7) 12 41 n723) (u2 (u2 (u2 (u2 lv 12 17 n8) 12 18 n9) 12 46 n724) 12 47 n725) (u2 (u2 fa 12 39 n721) 12 40 n722) la) := (show va_D _ (WM h g ca (u2 (u2 iv 12 19 n7) 12 41 n723) (u2 (u2 (u2 (u2 lv 12 17 n8) 12 18 n9) 12 46 n724) 12 47 n725) (u2 (u2 fa 12 39 n721) 12 40 n722) la) from hD).weaken (fun _ _ _ h => hFc _ h)
                  have xr720_0 : (n725 : Int64).toInt ≠ 0 := xr720_0
                  refine lv_iload_n hx hb dX12_span_155 rfl (lv_at hl 4 rfl) ?_
                  refine lv_iconst (v := 2) hx hb dX12_span_156 (by decide) ?_
                  refine lv_irem hx hb dX12_span_157 (by decide) ?_
                  refine lv_topi (fun v726 ev726 => ?_)
                  have tv726 := z_remp ev726 (rfl : (b).toInt = _) (by decide : (2 : Int32).toInt = 2) (by omega) (by omega)
                  refine lv_if_ne (tgt := 168) hx hb dX12_span_158 (by decide) (fun c727 => ?_) (fun c727 => ?_)
                  · have fc727 := z_ne (rfl : (v726).toInt = _) (by decide : (0 : Int32).toInt = 0) c727
                    refine lv_aload_n hx hb dX12_span_168 rfl (lv_at hl 2 rfl) ?_
                    refine gM_12_47 hx hb ht hown hK hP m_1186 (v := n725) rfl dX12_span_169 ?_
                    have hP9 : va_P (dC, dI) classes (WM h g ca (u2 (u2 iv 12 19 n7) 12 41 n723) (u2 (u2 (u2 (u2 lv 12 17 n8) 12 18 n9) 12 46 n724) 12 47 n725) (u2 (u2 fa 12 39 n721) 12 40 n722) la) H := hP
                    have hD9 : va_D A (WM h g ca (u2 (u2 iv 12 19 n7) 12 41 n723) (u2 (u2 (u2 (u2 lv 12 17 n8) 12 18 n9) 12 46 n724) 12 47 n725) (u2 (u2 fa 12 39 n721) 12 40 n722) la) := hD
                    exact W.lret (v := n725) hx hb hr (fun t ht9 hW => ⟨⟨n725, ((u2 (u2 iv 12 19 n7) 12 41 n723), (u2 (u2 (u2 (u2 lv 12 17 n8) 12 18 n9) 12 46 n724) 12 47 n725), (u2 (u2 fa 12 39 n721) 12 40 n722), la), rfl, ⟨n721, n722, n7, n723, n8, n9, n724, n725, hn721, hn722, (show inb (0, 8) n723 from ⟨by omega, by omega⟩), trivial, rfl⟩, by rw [ht9]; exact hP9, hD9⟩, hS.F ht9⟩) hS.2.2 dX12_span_172
                  · have fc727 := z_eq (rfl : (v726).toInt = _) (by decide : (0 : Int32).toInt = 0) c727
                    refine lv_aload_n hx hb dX12_span_161 rfl (lv_at hl 2 rfl) ?_
                    refine gM_12_46 hx hb ht hown hK hP m_1185 (v := n724) rfl dX12_span_162 ?_
                    refine lv_goto (tgt := 172) hx hb dX12_span_165 (by decide) ?_
                    have hP9 : va_P (dC, dI) classes (WM h g ca (u2 (u2 iv 12 19 n7) 12 41 n723) (u2 (u2 (u2 (u2 lv 12 17 n8) 12 18 n9) 12 46 n724) 12 47 n725) (u2 (u2 fa 12 39 n721) 12 40 n722) la) H := hP
                    have hD9 : va_D A (WM h g ca (u2 (u2 iv 12 19 n7) 12 41 n723) (u2 (u2 (u2 (u2 lv 12 17 n8) 12 18 n9) 12 46 n724) 12 47 n725) (u2 (u2 fa 12 39 n721) 12 40 n722) la) := hD
                    exact W.lret (v := n724) hx hb hr (fun t ht9 hW => ⟨⟨n724, ((u2 (u2 iv 12 19 n7) 12 41 n723), (u2 (u2 (u2 (u2 lv 12 17 n8) 12 18 n9) 12 46 n724) 12 47 n725), (u2 (u2 fa 12 39 n721) 12 40 n722), la), rfl, ⟨n721, n722, n7, n723, n8, n9, n724, n725, hn721, hn722, (show inb (0, 8) n723 from ⟨by omega, by omega⟩), trivial, rfl⟩, by rw [ht9]; exact hP9, hD9⟩, hS.F ht9⟩) hS.2.2 dX12_span_172
                · have fc717 := z_nle (rfl : ((iv 12 3)).toInt = _) (rfl : (x715_5).toInt = _) c717
                  refine lv_aload_n hx hb dX12_span_59 rfl (lv_at hl 2 rfl) ?_
                  refine gM_12_4 hx hb ht hown hK hP m_1143 dX12_span_60 ?_
                  refine lv_iload hx hb dX12_span_63 (lv_at hl 0 rfl) ?_
                  refine lM_12_4 hx hb hK hP (f := (fa 12 4)) rfl (vp_in_iff.mpr ⟨by omega, by omega⟩) dX12_span_65 ?_
                  refine lv_topi (fun v728 ev728 => ?_)
                  refine lv_iload_n hx hb dX12_span_66 rfl (lv_at hl 3 rfl) ?_
                  refine lv_icmp_ne (tgt := 128) hx hb dX12_span_67 (by decide) (fun c729 => ?_) (fun c729 => ?_)
                  · have fc729 := z_ne (rfl : (v728).toInt = _) (rfl : (a).toInt = _) c729
                    obtain ⟨v730, ev730⟩ : ∃ y : Int32, y = x715_5 + 1 := ⟨_, rfl⟩
                    have tv730 := z_add ev730 rfl (by decide : (1 : Int32).toInt = 1) (by omega) (by omega)
                    refine lv_iinc (v := v730) (lv' := [(5, .int v730), (3, .long x715_3), (0, .ref h), (1, .int a), (2, .int b)]) hx hb dX12_span_128 hl (k := 0) rfl (by rw [ev730]; rfl) (by decide) rfl (fun ls hl => ?_)
                    refine lv_goto (tgt := 50) hx hb dX12_span_131 (by decide) ?_
                    exact ih716 v730 x715_3 ⟨by omega, by omega⟩ (show (x715_3 : Int64).toInt ≤ 40 * ((cn1 (fa 12 4) (fa 12 5) (fa 12 11) (fa 12 12) a 0 (iv 12 0) ((v730 : Int32).toInt).toNat : Nat) : Int) from (by have hc := (cn1_up (ob := fa 12 4) (ol := fa 12 5) (dy := fa 12 11) (lo := fa 12 12) (b := a) (l := 0) (d := (iv 12 0)) (s := x715_5) (s' := v730) (by omega) (by omega)).1; have hq9 := hq716_0; omega)) (show -40 * (v730 : Int32).toInt ≤ (x715_3 : Int64).toInt from by omega) (show (x715_3 : Int64).toInt ≤ 40 * (v730 : Int32).toInt from by omega) (show (v730 : Int32).toInt ≤ ((iv 12 3) : Int32).toInt from by omega) (by omega) _ _ ls hP hD hS (lv_sub hl [0, 1, 2, 3, 4] rfl)
                  · have fc729 := z_eq (rfl : (v728).toInt = _) (rfl : (a).toInt = _) c729
                    refine lv_aload_n hx hb dX12_span_70 rfl (lv_at hl 2 rfl) ?_
                    refine gM_12_5 hx hb ht hown hK hP m_1144 dX12_span_71 ?_
                    refine lv_iload hx hb dX12_span_74 (lv_at hl 0 rfl) ?_
                    refine lM_12_5 hx hb hK hP (f := (fa 12 5)) rfl (vp_in_iff.mpr ⟨by omega, by omega⟩) dX12_span_76 ?_
                    refine lv_topi (fun v731 ev731 => ?_)
                    refine lv_if_ne (tgt := 128) hx hb dX12_span_77 (by decide) (fun c732 => ?_) (fun c732 => ?_)
                    · have fc732 := z_ne (rfl : (v731).toInt = _) (by decide : (0 : Int32).toInt = 0) c732
                      obtain ⟨v733, ev733⟩ : ∃ y : Int32, y = x715_5 + 1 := ⟨_, rfl⟩
                      have tv733 := z_add ev733 rfl (by decide : (1 : Int32).toInt = 1) (by omega) (by omega)
                      refine lv_iinc (v := v733) (lv' := [(5, .int v733), (3, .long x715_3), (0, .ref h), (1, .int a), (2, .int b)]) hx hb dX12_span_128 hl (k := 0) rfl (by rw [ev733]; rfl) (by decide) rfl (fun ls hl => ?_)
                      refine lv_goto (tgt := 50) hx hb dX12_span_131 (by decide) ?_
                      exact ih716 v733 x715_3 ⟨by omega, by omega⟩ (show (x715_3 : Int64).toInt ≤ 40 * ((cn1 (fa 12 4) (fa 12 5) (fa 12 11) (fa 12 12) a 0 (iv 12 0) ((v733 : Int32).toInt).toNat : Nat) : Int) from (by have hc := (cn1_up (ob := fa 12 4) (ol := fa 12 5) (dy := fa 12 11) (lo := fa 12 12) (b := a) (l := 0) (d := (iv 12 0)) (s := x715_5) (s' := v733) (by omega) (by omega)).1; have hq9 := hq716_0; omega)) (show -40 * (v733 : Int32).toInt ≤ (x715_3 : Int64).toInt from by omega) (show (x715_3 : Int64).toInt ≤ 40 * (v733 : Int32).toInt from by omega) (show (v733 : Int32).toInt ≤ ((iv 12 3) : Int32).toInt from by omega) (by omega) _ _ ls hP hD hS (lv_sub hl [0, 1, 2, 3, 4] rfl)
                    · have fc732 := z_eq (rfl : (v731).toInt = _) (by decide : (0 : Int32).toInt = 0) c732
                      refine lv_aload_n hx hb dX12_span_80 rfl (lv_at hl 2 rfl) ?_
                      refine lv_iload hx hb dX12_span_81 (lv_at hl 0 rfl) ?_
                      refine lv_aload_n hx hb dX12_span_83 rfl (lv_at hl 2 rfl) ?_
                      refine gM_12_0 hx hb ht hown hK hP m_1139 (v := (iv 12 0)) rfl dX12_span_84 ?_
                      refine vp_callSi (W.runV (As := [.int x715_5, .int (iv 12 0)]) (rest := []) ⟨hx, hb, hml, hown, ht⟩ (c_X12_isThere_x l dC dI h g ca (u2 iv 12 19 n7) (u2 (u2 lv 12 17 n8) 12 18 n9) fa la (IX_i (c := 12) (k := 19) hI (full_i _)) x715_5 (iv 12 0) ⟨by omega, by omega⟩) (kV 2 ht m_1438 m_1440 m_46 m_89 m_1441 rfl rfl hd_X12_isThere_v ⟨Nat.le_of_ble_eq_true rfl, Nat.le_of_ble_eq_true rfl⟩) (vR hP hK (rM_12 hK hP)) rfl rfl hl.1 rfl (lv_room (Nat.le_of_ble_eq_true rfl)) dX12_span_87 ⟨Nat.le_of_ble_eq_true rfl, Nat.le_of_ble_eq_true rfl⟩) (fun r734 hr734 => ?_)
                      obtain ⟨hr734, xr734_0⟩ := hr734
                      have xr734_0 : (((r734 : Int32).toInt = 1 ∧ ((fa 12 11) (x715_5 : Int32).toNatClampNeg).toInt ≤ ((iv 12 0) : Int32).toInt ∧ (((fa 12 12) (x715_5 : Int32).toNatClampNeg).toInt < 0 ∨ ((iv 12 0) : Int32).toInt < ((fa 12 12) (x715_5 : Int32).toNatClampNeg).toInt)) ∨ ((r734 : Int32).toInt = 0 ∧ ¬ (((fa 12 11) (x715_5 : Int32).toNatClampNeg).toInt ≤ ((iv 12 0) : Int32).toInt ∧ (((fa 12 12) (x715_5 : Int32).toNatClampNeg).toInt < 0 ∨ ((iv 12 0) : Int32).toInt < ((fa 12 12) (x715_5 : Int32).toNatClampNeg).toInt)))) := xr734_0
                      refine lv_if_eq (tgt := 128) hx hb dX12_span_90 (by decide) (fun c735 => ?_) (fun c735 => ?_)
                      · have fc735 := z_eq (rfl : (r734).toInt = _) (by decide : (0 : Int32).toInt = 0) c735
                        obtain ⟨v736, ev736⟩ : ∃ y : Int32, y = x715_5 + 1 := ⟨_, rfl⟩
                        have tv736 := z_add ev736 rfl (by decide : (1 : Int32).toInt = 1) (by omega) (by omega)
                        refine lv_iinc (v := v736) (lv' := [(5, .int v736), (3, .long x715_3), (0, .ref h), (1, .int a), (2, .int b)]) hx hb dX12_span_128 hl (k := 0) rfl (by rw [ev736]; rfl) (by decide) rfl (fun ls hl => ?_)
                        refine lv_goto (tgt := 50) hx hb dX12_span_131 (by decide) ?_
                        exact ih716 v736 x715_3 ⟨by omega, by omega⟩ (show (x715_3 : Int64).toInt ≤ 40 * ((cn1 (fa 12 4) (fa 12 5) (fa 12 11) (fa 12 12) a 0 (iv 12 0) ((v736 : Int32).toInt).toNat : Nat) : Int) from (by have hc := (cn1_up (ob := fa 12 4) (ol := fa 12 5) (dy := fa 12 11) (lo := fa 12 12) (b := a) (l := 0) (d := (iv 12 0)) (s := x715_5) (s' := v736) (by omega) (by omega)).1; have hq9 := hq716_0; omega)) (show -40 * (v736 : Int32).toInt ≤ (x715_3 : Int64).toInt from by omega) (show (x715_3 : Int64).toInt ≤ 40 * (v736 : Int32).toInt from by omega) (show (v736 : Int32).toInt ≤ ((iv 12 3) : Int32).toInt from by omega) (by omega) _ _ ls hP hD hS (lv_sub hl [0, 1, 2, 3, 4] rfl)
                      · have fc735 := z_ne (rfl : (r734).toInt = _) (by decide : (0 : Int32).toInt = 0) c735
                        refine lv_lload_n hx hb dX12_span_93 rfl (lv_at hl 1 rfl) ?_
                        refine lv_aload_n hx hb dX12_span_94 rfl (lv_at hl 2 rfl) ?_
                        refine lv_aload_n hx hb dX12_span_95 rfl (lv_at hl 2 rfl) ?_
                        refine gM_12_6 hx hb ht hown hK hP m_1145 dX12_span_96 ?_
                        refine lv_iload hx hb dX12_span_99 (lv_at hl 0 rfl) ?_
                        refine lM_12_6 hx hb hK hP (f := (fa 12 6)) rfl (vp_in_iff.mpr ⟨by omega, by omega⟩) dX12_span_101 ?_
                        refine lv_topi (fun v737 ev737 => ?_)
                        refine lv_aload_n hx hb dX12_span_102 rfl (lv_at hl 2 rfl) ?_
                        refine gM_12_11 hx hb ht hown hK hP m_1150 dX12_span_103 ?_
                        refine lv_iload hx hb dX12_span_106 (lv_at hl 0 rfl) ?_
                        refine lM_12_11 hx hb hK hP (f := (fa 12 11)) rfl (vp_in_iff.mpr ⟨by omega, by omega⟩) dX12_span_108 ?_
                        refine lv_topi (fun v738 ev738 => ?_)
                        refine lv_iload_n hx hb dX12_span_109 rfl (lv_at hl 4 rfl) ?_
                        refine lv_iconst (v := 2) hx hb dX12_span_110 (by decide) ?_
                        refine lv_icmp_ge (tgt := 118) hx hb dX12_span_111 (by decide) (fun c739 => ?_) (fun c739 => ?_)
                        · have fc739 := z_le (by decide : (2 : Int32).toInt = 2) (rfl : (b).toInt = _) c739
                          refine lv_iconst (v := 0) hx hb dX12_span_118 (by decide) ?_
                          refine vp_callSi (W.runV (As := [.int v737, .int v738, .int 0]) (rest := [.long x715_3]) ⟨hx, hb, hml, hown, ht⟩ (c_X12_errorOf l dC dI h g ca (u2 iv 12 19 n7) (u2 (u2 lv 12 17 n8) 12 18 n9) fa la (IX_i (c := 12) (k := 19) hI (full_i _)) v737 v738 0 ⟨by decide, by decide⟩) (kV 3 ht m_1426 m_1428 m_44 m_89 m_1429 rfl rfl hd_X12_errorOf_v ⟨Nat.le_of_ble_eq_true rfl, Nat.le_of_ble_eq_true rfl⟩) (vR hP hK (rM_12 hK hP)) rfl rfl hl.1 rfl (lv_room (Nat.le_of_ble_eq_true rfl)) dX12_span_119 ⟨Nat.le_of_ble_eq_true rfl, Nat.le_of_ble_eq_true rfl⟩) (fun r740 hr740 => ?_)
                          refine vp_callSi (W.runS (As := [.int r740]) (rest := [.long x715_3]) ⟨hx, hb, hml, hown, ht⟩ (c_X12_held_x l dC dI r740) (kS 1 ht m_1571 m_1572 m_89 m_1573 rfl rfl hd_X12_held_v ⟨Nat.le_of_ble_eq_true rfl, Nat.le_of_ble_eq_true rfl⟩) (sR noP (hK.sub (tys' := []) [] rfl)) rfl rfl hl.1 rfl (lv_room (Nat.le_of_ble_eq_true rfl)) dX12_span_122 ⟨Nat.le_of_ble_eq_true rfl, Nat.le_of_ble_eq_true rfl⟩) (fun r741 hr741 => ?_)
                          refine lv_i2l (v := (r741.toInt64)) hx hb dX12_span_125 rfl ?_
                          have : (-2400) ≤ (x715_3 : Int64).toInt ∧ (x715_3 : Int64).toInt ≤ 2400 := ⟨by omega, by omega⟩
                          refine lv_ladd hx hb dX12_span_126 ?_
                          refine lv_topl (fun w742 ew742 => ?_)
                          have tw742 := l_add ew742 (rfl : (x715_3).toInt = _) ((Int32.toInt_toInt64 r741).trans rfl) (by omega) (by omega)
                          refine lv_lstore_n (lv' := [(3, .long w742), (5, .int x715_5), (0, .ref h), (1, .int a), (2, .int b)]) hx hb dX12_span_127 rfl hl (by decide) rfl (fun ls hl => ?_)
                          obtain ⟨v743, ev743⟩ : ∃ y : Int32, y = x715_5 + 1 := ⟨_, rfl⟩
                          have tv743 := z_add ev743 rfl (by decide : (1 : Int32).toInt = 1) (by omega) (by omega)
                          refine lv_iinc (v := v743) (lv' := [(5, .int v743), (3, .long w742), (0, .ref h), (1, .int a), (2, .int b)]) hx hb dX12_span_128 hl (k := 1) rfl (by rw [ev743]; rfl) (by decide) rfl (fun ls hl => ?_)
                          refine lv_goto (tgt := 50) hx hb dX12_span_131 (by decide) ?_
                          exact ih716 v743 w742 ⟨by omega, by omega⟩ (show (w742 : Int64).toInt ≤ 40 * ((cn1 (fa 12 4) (fa 12 5) (fa 12 11) (fa 12 12) a 0 (iv 12 0) ((v743 : Int32).toInt).toNat : Nat) : Int) from (by have hc := cn1_next (ob := fa 12 4) (ol := fa 12 5) (dy := fa 12 11) (lo := fa 12 12) (b := a) (l := 0) (d := (iv 12 0)) (s := x715_5) (s' := v743) (by omega) (by omega) (by have : (0 : Int32).toInt = 0 := (by decide); have := congrArg Int32.toInt ev728; have := congrArg Int32.toInt ev731; have := congrArg Int32.toInt ev738; omega); have hq9 := hq716_0; omega)) (show -40 * (v743 : Int32).toInt ≤ (w742 : Int64).toInt from by omega) (show (w742 : Int64).toInt ≤ 40 * (v743 : Int32).toInt from by omega) (show (v743 : Int32).toInt ≤ ((iv 12 3) : Int32).toInt from by omega) (by omega) _ _ ls hP hD hS (lv_sub hl [0, 1, 2, 3, 4] rfl)
                        · have fc739 := z_nle (by decide : (2 : Int32).toInt = 2) (rfl : (b).toInt = _) c739
                          refine lv_iconst (v := 1) hx hb dX12_span_114 (by decide) ?_
                          refine lv_goto (tgt := 119) hx hb dX12_span_115 (by decide) ?_
                          refine vp_callSi (W.runV (As := [.int v737, .int v738, .int 1]) (rest := [.long x715_3]) ⟨hx, hb, hml, hown, ht⟩ (c_X12_errorOf l dC dI h g ca (u2 iv 12 19 n7) (u2 (u2 lv 12 17 n8) 12 18 n9) fa la (IX_i (c := 12) (k := 19) hI (full_i _)) v737 v738 1 ⟨by decide, by decide⟩) (kV 3 ht m_1426 m_1428 m_44 m_89 m_1429 rfl rfl hd_X12_errorOf_v ⟨Nat.le_of_ble_eq_true rfl, Nat.le_of_ble_eq_true rfl⟩) (vR hP hK (rM_12 hK hP)) rfl rfl hl.1 rfl (lv_room (Nat.le_of_ble_eq_true rfl)) dX12_span_119 ⟨Nat.le_of_ble_eq_true rfl, Nat.le_of_ble_eq_true rfl⟩) (fun r744 hr744 => ?_)
                          refine vp_callSi (W.runS (As := [.int r744]) (rest := [.long x715_3]) ⟨hx, hb, hml, hown, ht⟩ (c_X12_held_x l dC dI r744) (kS 1 ht m_1571 m_1572 m_89 m_1573 rfl rfl hd_X12_held_v ⟨Nat.le_of_ble_eq_true rfl, Nat.le_of_ble_eq_true rfl⟩) (sR noP (hK.sub (tys' := []) [] rfl)) rfl rfl hl.1 rfl (lv_room (Nat.le_of_ble_eq_true rfl)) dX12_span_122 ⟨Nat.le_of_ble_eq_true rfl, Nat.le_of_ble_eq_true rfl⟩) (fun r745 hr745 => ?_)
                          refine lv_i2l (v := (r745.toInt64)) hx hb dX12_span_125 rfl ?_
                          have : (-2400) ≤ (x715_3 : Int64).toInt ∧ (x715_3 : Int64).toInt ≤ 2400 := ⟨by omega, by omega⟩
                          refine lv_ladd hx hb dX12_span_126 ?_
                          refine lv_topl (fun w746 ew746 => ?_)
                          have tw746 := l_add ew746 (rfl : (x715_3).toInt = _) ((Int32.toInt_toInt64 r745).trans rfl) (by omega) (by omega)
                          refine lv_lstore_n (lv' := [(3, .long w746), (5, .int x715_5), (0, .ref h), (1, .int a), (2, .int b)]) hx hb dX12_span_127 rfl hl (by decide) rfl (fun ls hl => ?_)
                          obtain ⟨v747, ev747⟩ : ∃ y : Int32, y = x715_5 + 1 := ⟨_, rfl⟩
                          have tv747 := z_add ev747 rfl (by decide : (1 : Int32).toInt = 1) (by omega) (by omega)
                          refine lv_iinc (v := v747) (lv' := [(5, .int v747), (3, .long w746), (0, .ref h), (1, .int a), (2, .int b)]) hx hb dX12_span_128 hl (k := 1) rfl (by rw [ev747]; rfl) (by decide) rfl (fun ls hl => ?_)
                          refine lv_goto (tgt := 50) hx hb dX12_span_131 (by decide) ?_
                          exact ih716 v747 w746 ⟨by omega, by omega⟩ (show (w746 : Int64).toInt ≤ 40 * ((cn1 (fa 12 4) (fa 12 5) (fa 12 11) (fa 12 12) a 0 (iv 12 0) ((v747 : Int32).toInt).toNat : Nat) : Int) from (by have hc := cn1_next (ob := fa 12 4) (ol := fa 12 5) (dy := fa 12 11) (lo := fa 12 12) (b := a) (l := 0) (d := (iv 12 0)) (s := x715_5) (s' := v747) (by omega) (by omega) (by have : (0 : Int32).toInt = 0 := (by decide); have := congrArg Int32.toInt ev728; have := congrArg Int32.toInt ev731; have := congrArg Int32.toInt ev738; omega); have hq9 := hq716_0; omega)) (show -40 * (v747 : Int32).toInt ≤ (w746 : Int64).toInt from by omega) (show (w746 : Int64).toInt ≤ 40 * (v747 : Int32).toInt from by omega) (show (v747 : Int32).toInt ≤ ((iv 12 3) : Int32).toInt from by omega) (by omega) _ _ ls hP hD hS (lv_sub hl [0, 1, 2, 3, 4] rfl)
            have : (0 : Int32).toInt = 0 := (by decide)
            have : (0 : Int64).toInt = 0 := (by decide)
            exact lp716 61 0 0 ⟨by decide, by decide⟩ (show (0 : Int64).toInt ≤ 40 * ((cn1 (fa 12 4) (fa 12 5) (fa 12 11) (fa 12 12) a 0 (iv 12 0) ((0 : Int32).toInt).toNat : Nat) : Int) from by show _ ≤ 40 * ((0 : Nat) : Int); omega) (show -40 * (0 : Int32).toInt ≤ (0 : Int64).toInt from by omega) (show (0 : Int64).toInt ≤ 40 * (0 : Int32).toInt from by omega) (show (0 : Int32).toInt ≤ ((iv 12 3) : Int32).toInt from by omega) (by first | decide | omega) _ _ ls hP hD hS (lv_sub hl [0, 1, 2, 3, 4] rfl)
          · have fc10 := z_eq (rfl : (r6).toInt = _) (by decide : (0 : Int32).toInt = 0) c10
            refine lv_ldc2 hx hb hown (ht _ m_1562) dX12_span_41 ?_
            have hP9 : va_P (dC, dI) classes (WM h g ca (u2 (u2 iv 12 19 n7) 12 41 (iv 12 41)) (u2 (u2 (u2 (u2 lv 12 17 n8) 12 18 n9) 12 46 (lv 12 46)) 12 47 (lv 12 47)) (u2 (u2 fa 12 39 (fa 12 39)) 12 40 (fa 12 40)) la) H := hP
            have hD9 : va_D A (WM h g ca (u2 (u2 iv 12 19 n7) 12 41 (iv 12 41)) (u2 (u2 (u2 (u2 lv 12 17 n8) 12 18 n9) 12 46 (lv 12 46)) 12 47 (lv 12 47)) (u2 (u2 fa 12 39 (fa 12 39)) 12 40 (fa 12 40)) la) := hD
            exact W.lret (v := (-100003)) hx hb hr (fun t ht9 hW => ⟨⟨(-100003), ((u2 (u2 iv 12 19 n7) 12 41 (iv 12 41)), (u2 (u2 (u2 (u2 lv 12 17 n8) 12 18 n9) 12 46 (lv 12 46)) 12 47 (lv 12 47)), (u2 (u2 fa 12 39 (fa 12 39)) 12 40 (fa 12 40)), la), rfl, ⟨(fa 12 39), (fa 12 40), n7, (iv 12 41), n8, n9, (lv 12 46), (lv 12 47), (hI.2 12 39), (hI.2 12 40), (hI.1 12 41), trivial, rfl⟩, by rw [ht9]; exact hP9, hD9⟩, hS.F ht9⟩) hS.2.2 dX12_span_44
        · exact absurd c5 (by decide)
      · skip
        refine lv_if_ne (tgt := 28) hx hb dX12_span_21 (by decide) (fun c748 => ?_) (fun c748 => ?_)
        · exact absurd rfl c748
        · skip
          refine lv_ldc2 hx hb hown (ht _ m_1561) dX12_span_24 ?_
          have hP9 : va_P (dC, dI) classes (WM h g ca (u2 (u2 iv 12 19 (iv 12 19)) 12 41 (iv 12 41)) (u2 (u2 (u2 (u2 lv 12 17 (lv 12 17)) 12 18 (lv 12 18)) 12 46 (lv 12 46)) 12 47 (lv 12 47)) (u2 (u2 fa 12 39 (fa 12 39)) 12 40 (fa 12 40)) la) s.heap := hP
          have hD9 : va_D A (WM h g ca (u2 (u2 iv 12 19 (iv 12 19)) 12 41 (iv 12 41)) (u2 (u2 (u2 (u2 lv 12 17 (lv 12 17)) 12 18 (lv 12 18)) 12 46 (lv 12 46)) 12 47 (lv 12 47)) (u2 (u2 fa 12 39 (fa 12 39)) 12 40 (fa 12 40)) la) := hD
          exact W.lret (v := (-100002)) hx hb hr (fun t ht9 hW => ⟨⟨(-100002), ((u2 (u2 iv 12 19 (iv 12 19)) 12 41 (iv 12 41)), (u2 (u2 (u2 (u2 lv 12 17 (lv 12 17)) 12 18 (lv 12 18)) 12 46 (lv 12 46)) 12 47 (lv 12 47)), (u2 (u2 fa 12 39 (fa 12 39)) 12 40 (fa 12 40)), la), rfl, ⟨(fa 12 39), (fa 12 40), (iv 12 19), (iv 12 41), (lv 12 17), (lv 12 18), (lv 12 46), (lv 12 47), (hI.2 12 39), (hI.2 12 40), (hI.1 12 41), trivial, rfl⟩, by rw [ht9]; exact hP9, hD9⟩, hS.F ht9⟩) hS.2.2 dX12_span_27
    · exact absurd rfl c3
