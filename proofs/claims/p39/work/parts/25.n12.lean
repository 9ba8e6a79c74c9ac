/-! ===== n12 ===== -/
set_option maxRecDepth 100000 in
theorem m_68 : Cond.selects RX12 yX12_isEnough yX12_isEnough ∈ tb := tb_in 68 (by decide +kernel) rfl
theorem m_1189 : Cond.fieldLink RX12 106 "SilkHouseModel" "own" "[I" ∈ tb := mb_5_6 _ (List.mem_of_getElem? (i := 6) rfl)
theorem m_1602 : Cond.methodLink RX12 395 yX12_isEnough ∈ tb := mb_7_3 _ (List.mem_of_getElem? (i := 3) rfl)
theorem m_1604 : Cond.instanceMethod yX12_isEnough ∈ tb := mb_7_3 _ (List.mem_of_getElem? (i := 4) rfl)
theorem m_1605 : Cond.code yX12_isEnough cX12_isEnough 13 (some .boolean) ∈ tb := mb_7_3 _ (List.mem_of_getElem? (i := 5) rfl)
theorem hd_X12_isEnough_v : yX12_isEnough.cls = RX12 ∧ yX12_isEnough.cls ≠ "java/lang/invoke/MethodHandle" ∧ yX12_isEnough.cls ≠ "java/lang/invoke/VarHandle" ∧ (parseMethodDescriptor yX12_isEnough.desc).map (fun d => d.parameters.length) = some 4 := by decide +kernel
set_option maxRecDepth 100000 in
theorem dvX12_isEnough_0 : ([(0, .iconst 0, 1), (1, .istore 5, 2), (3, .iconst 0, 1), (4, .istore 6, 2), (6, .iconst 0, 1), (7, .istore 7, 2), (9, .iload 7, 2), (11, .iconst 1, 1), (12, .iload_n 1, 1), (13, .ishl, 1), (14, .if_icmp .ge 118, 3), (17, .iload 7, 2), (19, .invokestatic 392, 3), (22, .iload_n 2, 1), (23, .if_icmp .ne 103, 3), (26, .lconst 0, 1), (27, .lstore 8, 2), (29, .lconst 0, 1), (30, .lstore 10, 2), (32, .iconst 0, 1), (33, .istore 12, 2), (35, .iload 12, 2), (37, .iload_n 1, 1), (38, .if_icmp .ge 61, 3)] : List (Nat × Instr × Nat)).all (fun q => decide (decode cX12_isEnough q.1 = .ok (q.2.1, q.2.2))) = true := by decide +kernel
theorem dX12_isEnough_0 : decode cX12_isEnough 0 = .ok (.iconst 0, 1) := all_at dvX12_isEnough_0 0 rfl
theorem dX12_isEnough_1 : decode cX12_isEnough 1 = .ok (.istore 5, 2) := all_at dvX12_isEnough_0 1 rfl
theorem dX12_isEnough_3 : decode cX12_isEnough 3 = .ok (.iconst 0, 1) := all_at dvX12_isEnough_0 2 rfl
theorem dX12_isEnough_4 : decode cX12_isEnough 4 = .ok (.istore 6, 2) := all_at dvX12_isEnough_0 3 rfl
theorem dX12_isEnough_6 : decode cX12_isEnough 6 = .ok (.iconst 0, 1) := all_at dvX12_isEnough_0 4 rfl
theorem dX12_isEnough_7 : decode cX12_isEnough 7 = .ok (.istore 7, 2) := all_at dvX12_isEnough_0 5 rfl
theorem dX12_isEnough_9 : decode cX12_isEnough 9 = .ok (.iload 7, 2) := all_at dvX12_isEnough_0 6 rfl
theorem dX12_isEnough_11 : decode cX12_isEnough 11 = .ok (.iconst 1, 1) := all_at dvX12_isEnough_0 7 rfl
theorem dX12_isEnough_12 : decode cX12_isEnough 12 = .ok (.iload_n 1, 1) := all_at dvX12_isEnough_0 8 rfl
theorem dX12_isEnough_13 : decode cX12_isEnough 13 = .ok (.ishl, 1) := all_at dvX12_isEnough_0 9 rfl
theorem dX12_isEnough_14 : decode cX12_isEnough 14 = .ok (.if_icmp .ge 118, 3) := all_at dvX12_isEnough_0 10 rfl
theorem dX12_isEnough_17 : decode cX12_isEnough 17 = .ok (.iload 7, 2) := all_at dvX12_isEnough_0 11 rfl
theorem dX12_isEnough_19 : decode cX12_isEnough 19 = .ok (.invokestatic 392, 3) := all_at dvX12_isEnough_0 12 rfl
theorem dX12_isEnough_22 : decode cX12_isEnough 22 = .ok (.iload_n 2, 1) := all_at dvX12_isEnough_0 13 rfl
theorem dX12_isEnough_23 : decode cX12_isEnough 23 = .ok (.if_icmp .ne 103, 3) := all_at dvX12_isEnough_0 14 rfl
theorem dX12_isEnough_26 : decode cX12_isEnough 26 = .ok (.lconst 0, 1) := all_at dvX12_isEnough_0 15 rfl
theorem dX12_isEnough_27 : decode cX12_isEnough 27 = .ok (.lstore 8, 2) := all_at dvX12_isEnough_0 16 rfl
theorem dX12_isEnough_29 : decode cX12_isEnough 29 = .ok (.lconst 0, 1) := all_at dvX12_isEnough_0 17 rfl
theorem dX12_isEnough_30 : decode cX12_isEnough 30 = .ok (.lstore 10, 2) := all_at dvX12_isEnough_0 18 rfl
theorem dX12_isEnough_32 : decode cX12_isEnough 32 = .ok (.iconst 0, 1) := all_at dvX12_isEnough_0 19 rfl
theorem dX12_isEnough_33 : decode cX12_isEnough 33 = .ok (.istore 12, 2) := all_at dvX12_isEnough_0 20 rfl
theorem dX12_isEnough_35 : decode cX12_isEnough 35 = .ok (.iload 12, 2) := all_at dvX12_isEnough_0 21 rfl
theorem dX12_isEnough_37 : decode cX12_isEnough 37 = .ok (.iload_n 1, 1) := all_at dvX12_isEnough_0 22 rfl
theorem dX12_isEnough_38 : decode cX12_isEnough 38 = .ok (.if_icmp .ge 61, 3) := all_at dvX12_isEnough_0 23 rfl
set_option maxRecDepth 100000 in
theorem dvX12_isEnough_41 : ([(41, .lload 8, 2), (43, .iload 7, 2), (45, .iload 12, 2), (47, .ishr, 1), (48, .iconst 1, 1), (49, .iand, 1), (50, .aload_n 0, 1), (51, .getfield 25, 3), (54, .aload_n 0, 1), (55, .getfield 106, 3), (58, .iload 12, 2), (60, .iaload, 1), (61, .iaload, 1), (62, .imul, 1), (63, .i2l, 1), (64, .ladd, 1), (65, .lstore 8, 2), (67, .lload 10, 2), (69, .iload 7, 2), (71, .iload 12, 2), (73, .ishr, 1), (74, .iconst 1, 1), (75, .iand, 1), (76, .aload_n 0, 1)] : List (Nat × Instr × Nat)).all (fun q => decide (decode cX12_isEnough q.1 = .ok (q.2.1, q.2.2))) = true := by decide +kernel
theorem dX12_isEnough_41 : decode cX12_isEnough 41 = .ok (.lload 8, 2) := all_at dvX12_isEnough_41 0 rfl
theorem dX12_isEnough_43 : decode cX12_isEnough 43 = .ok (.iload 7, 2) := all_at dvX12_isEnough_41 1 rfl
theorem dX12_isEnough_45 : decode cX12_isEnough 45 = .ok (.iload 12, 2) := all_at dvX12_isEnough_41 2 rfl
theorem dX12_isEnough_47 : decode cX12_isEnough 47 = .ok (.ishr, 1) := all_at dvX12_isEnough_41 3 rfl
theorem dX12_isEnough_48 : decode cX12_isEnough 48 = .ok (.iconst 1, 1) := all_at dvX12_isEnough_41 4 rfl
theorem dX12_isEnough_49 : decode cX12_isEnough 49 = .ok (.iand, 1) := all_at dvX12_isEnough_41 5 rfl
theorem dX12_isEnough_50 : decode cX12_isEnough 50 = .ok (.aload_n 0, 1) := all_at dvX12_isEnough_41 6 rfl
theorem dX12_isEnough_51 : decode cX12_isEnough 51 = .ok (.getfield 25, 3) := all_at dvX12_isEnough_41 7 rfl
theorem dX12_isEnough_54 : decode cX12_isEnough 54 = .ok (.aload_n 0, 1) := all_at dvX12_isEnough_41 8 rfl
theorem dX12_isEnough_55 : decode cX12_isEnough 55 = .ok (.getfield 106, 3) := all_at dvX12_isEnough_41 9 rfl
theorem dX12_isEnough_58 : decode cX12_isEnough 58 = .ok (.iload 12, 2) := all_at dvX12_isEnough_41 10 rfl
theorem dX12_isEnough_60 : decode cX12_isEnough 60 = .ok (.iaload, 1) := all_at dvX12_isEnough_41 11 rfl
theorem dX12_isEnough_61 : decode cX12_isEnough 61 = .ok (.iaload, 1) := all_at dvX12_isEnough_41 12 rfl
theorem dX12_isEnough_62 : decode cX12_isEnough 62 = .ok (.imul, 1) := all_at dvX12_isEnough_41 13 rfl
theorem dX12_isEnough_63 : decode cX12_isEnough 63 = .ok (.i2l, 1) := all_at dvX12_isEnough_41 14 rfl
theorem dX12_isEnough_64 : decode cX12_isEnough 64 = .ok (.ladd, 1) := all_at dvX12_isEnough_41 15 rfl
theorem dX12_isEnough_65 : decode cX12_isEnough 65 = .ok (.lstore 8, 2) := all_at dvX12_isEnough_41 16 rfl
theorem dX12_isEnough_67 : decode cX12_isEnough 67 = .ok (.lload 10, 2) := all_at dvX12_isEnough_41 17 rfl
theorem dX12_isEnough_69 : decode cX12_isEnough 69 = .ok (.iload 7, 2) := all_at dvX12_isEnough_41 18 rfl
theorem dX12_isEnough_71 : decode cX12_isEnough 71 = .ok (.iload 12, 2) := all_at dvX12_isEnough_41 19 rfl
theorem dX12_isEnough_73 : decode cX12_isEnough 73 = .ok (.ishr, 1) := all_at dvX12_isEnough_41 20 rfl
theorem dX12_isEnough_74 : decode cX12_isEnough 74 = .ok (.iconst 1, 1) := all_at dvX12_isEnough_41 21 rfl
theorem dX12_isEnough_75 : decode cX12_isEnough 75 = .ok (.iand, 1) := all_at dvX12_isEnough_41 22 rfl
theorem dX12_isEnough_76 : decode cX12_isEnough 76 = .ok (.aload_n 0, 1) := all_at dvX12_isEnough_41 23 rfl
set_option maxRecDepth 100000 in
theorem dvX12_isEnough_77 : ([(77, .getfield 22, 3), (80, .aload_n 0, 1), (81, .getfield 106, 3), (84, .iload 12, 2), (86, .iaload, 1), (87, .iaload, 1), (88, .imul, 1), (89, .i2l, 1), (90, .ladd, 1), (91, .lstore 10, 2), (93, .iinc 12 1, 3), (96, .goto (-61), 3), (99, .iinc 5 1, 3), (102, .iload 6, 2), (104, .lload 8, 2), (106, .lload 10, 2), (108, .aload_n 0, 1), (109, .getfield 223, 3), (112, .aload_n 0, 1), (113, .getfield 227, 3), (116, .iload_n 3, 1), (117, .invokestatic 340, 3), (120, .invokestatic 203, 3), (123, .iadd, 1)] : List (Nat × Instr × Nat)).all (fun q => decide (decode cX12_isEnough q.1 = .ok (q.2.1, q.2.2))) = true := by decide +kernel
theorem dX12_isEnough_77 : decode cX12_isEnough 77 = .ok (.getfield 22, 3) := all_at dvX12_isEnough_77 0 rfl
theorem dX12_isEnough_80 : decode cX12_isEnough 80 = .ok (.aload_n 0, 1) := all_at dvX12_isEnough_77 1 rfl
theorem dX12_isEnough_81 : decode cX12_isEnough 81 = .ok (.getfield 106, 3) := all_at dvX12_isEnough_77 2 rfl
theorem dX12_isEnough_84 : decode cX12_isEnough 84 = .ok (.iload 12, 2) := all_at dvX12_isEnough_77 3 rfl
theorem dX12_isEnough_86 : decode cX12_isEnough 86 = .ok (.iaload, 1) := all_at dvX12_isEnough_77 4 rfl
theorem dX12_isEnough_87 : decode cX12_isEnough 87 = .ok (.iaload, 1) := all_at dvX12_isEnough_77 5 rfl
theorem dX12_isEnough_88 : decode cX12_isEnough 88 = .ok (.imul, 1) := all_at dvX12_isEnough_77 6 rfl
theorem dX12_isEnough_89 : decode cX12_isEnough 89 = .ok (.i2l, 1) := all_at dvX12_isEnough_77 7 rfl
theorem dX12_isEnough_90 : decode cX12_isEnough 90 = .ok (.ladd, 1) := all_at dvX12_isEnough_77 8 rfl
theorem dX12_isEnough_91 : decode cX12_isEnough 91 = .ok (.lstore 10, 2) := all_at dvX12_isEnough_77 9 rfl
theorem dX12_isEnough_93 : decode cX12_isEnough 93 = .ok (.iinc 12 1, 3) := all_at dvX12_isEnough_77 10 rfl
theorem dX12_isEnough_96 : decode cX12_isEnough 96 = .ok (.goto (-61), 3) := all_at dvX12_isEnough_77 11 rfl
theorem dX12_isEnough_99 : decode cX12_isEnough 99 = .ok (.iinc 5 1, 3) := all_at dvX12_isEnough_77 12 rfl
theorem dX12_isEnough_102 : decode cX12_isEnough 102 = .ok (.iload 6, 2) := all_at dvX12_isEnough_77 13 rfl
theorem dX12_isEnough_104 : decode cX12_isEnough 104 = .ok (.lload 8, 2) := all_at dvX12_isEnough_77 14 rfl
theorem dX12_isEnough_106 : decode cX12_isEnough 106 = .ok (.lload 10, 2) := all_at dvX12_isEnough_77 15 rfl
theorem dX12_isEnough_108 : decode cX12_isEnough 108 = .ok (.aload_n 0, 1) := all_at dvX12_isEnough_77 16 rfl
theorem dX12_isEnough_109 : decode cX12_isEnough 109 = .ok (.getfield 223, 3) := all_at dvX12_isEnough_77 17 rfl
theorem dX12_isEnough_112 : decode cX12_isEnough 112 = .ok (.aload_n 0, 1) := all_at dvX12_isEnough_77 18 rfl
theorem dX12_isEnough_113 : decode cX12_isEnough 113 = .ok (.getfield 227, 3) := all_at dvX12_isEnough_77 19 rfl
theorem dX12_isEnough_116 : decode cX12_isEnough 116 = .ok (.iload_n 3, 1) := all_at dvX12_isEnough_77 20 rfl
theorem dX12_isEnough_117 : decode cX12_isEnough 117 = .ok (.invokestatic 340, 3) := all_at dvX12_isEnough_77 21 rfl
theorem dX12_isEnough_120 : decode cX12_isEnough 120 = .ok (.invokestatic 203, 3) := all_at dvX12_isEnough_77 22 rfl
theorem dX12_isEnough_123 : decode cX12_isEnough 123 = .ok (.iadd, 1) := all_at dvX12_isEnough_77 23 rfl
set_option maxRecDepth 100000 in
theorem dvX12_isEnough_124 : ([(124, .istore 6, 2), (126, .iinc 7 1, 3), (129, .goto (-120), 3), (132, .bipush 100, 2), (134, .iload 6, 2), (136, .imul, 1), (137, .iload 4, 2), (139, .iload 5, 2), (141, .imul, 1), (142, .if_icmp .gt 7, 3), (145, .iconst 1, 1), (146, .goto 4, 3), (149, .iconst 0, 1), (150, .ireturn, 1)] : List (Nat × Instr × Nat)).all (fun q => decide (decode cX12_isEnough q.1 = .ok (q.2.1, q.2.2))) = true := by decide +kernel
theorem dX12_isEnough_124 : decode cX12_isEnough 124 = .ok (.istore 6, 2) := all_at dvX12_isEnough_124 0 rfl
theorem dX12_isEnough_126 : decode cX12_isEnough 126 = .ok (.iinc 7 1, 3) := all_at dvX12_isEnough_124 1 rfl
theorem dX12_isEnough_129 : decode cX12_isEnough 129 = .ok (.goto (-120), 3) := all_at dvX12_isEnough_124 2 rfl
theorem dX12_isEnough_132 : decode cX12_isEnough 132 = .ok (.bipush 100, 2) := all_at dvX12_isEnough_124 3 rfl
theorem dX12_isEnough_134 : decode cX12_isEnough 134 = .ok (.iload 6, 2) := all_at dvX12_isEnough_124 4 rfl
theorem dX12_isEnough_136 : decode cX12_isEnough 136 = .ok (.imul, 1) := all_at dvX12_isEnough_124 5 rfl
theorem dX12_isEnough_137 : decode cX12_isEnough 137 = .ok (.iload 4, 2) := all_at dvX12_isEnough_124 6 rfl
theorem dX12_isEnough_139 : decode cX12_isEnough 139 = .ok (.iload 5, 2) := all_at dvX12_isEnough_124 7 rfl
theorem dX12_isEnough_141 : decode cX12_isEnough 141 = .ok (.imul, 1) := all_at dvX12_isEnough_124 8 rfl
theorem dX12_isEnough_142 : decode cX12_isEnough 142 = .ok (.if_icmp .gt 7, 3) := all_at dvX12_isEnough_124 9 rfl
theorem dX12_isEnough_145 : decode cX12_isEnough 145 = .ok (.iconst 1, 1) := all_at dvX12_isEnough_124 10 rfl
theorem dX12_isEnough_146 : decode cX12_isEnough 146 = .ok (.goto 4, 3) := all_at dvX12_isEnough_124 11 rfl
theorem dX12_isEnough_149 : decode cX12_isEnough 149 = .ok (.iconst 0, 1) := all_at dvX12_isEnough_124 12 rfl
theorem dX12_isEnough_150 : decode cX12_isEnough 150 = .ok (.ireturn, 1) := all_at dvX12_isEnough_124 13 rfl
set_option maxRecDepth 100000 in
theorem dvX12_needed_0 : ([(0, .aload_n 0, 1), (1, .iload_n 1, 1), (2, .invokevirtual 183, 3), (5, .ifCond .eq 6, 3), (8, .ldc 187, 2), (10, .ireturn, 1), (11, .iload_n 2, 1), (12, .i2l, 1), (13, .lconst 1, 1), (14, .ldc2_w 192, 3), (17, .invokestatic 167, 3), (20, .ifCond .ne 6, 3), (23, .ldc 178, 2), (25, .ireturn, 1), (26, .aload_n 0, 1), (27, .iconst 2, 1), (28, .aload_n 0, 1), (29, .getfield 171, 3), (32, .invokevirtual 325, 3), (35, .istore_n 3, 1), (36, .iconst 0, 1), (37, .istore 4, 2), (39, .iconst 0, 1), (40, .istore 5, 2)] : List (Nat × Instr × Nat)).all (fun q => decide (decode cX12_needed q.1 = .ok (q.2.1, q.2.2))) = true := by decide +kernel
theorem dX12_needed_0 : decode cX12_needed 0 = .ok (.aload_n 0, 1) := all_at dvX12_needed_0 0 rfl
theorem dX12_needed_1 : decode cX12_needed 1 = .ok (.iload_n 1, 1) := all_at dvX12_needed_0 1 rfl
theorem dX12_needed_2 : decode cX12_needed 2 = .ok (.invokevirtual 183, 3) := all_at dvX12_needed_0 2 rfl
theorem dX12_needed_5 : decode cX12_needed 5 = .ok (.ifCond .eq 6, 3) := all_at dvX12_needed_0 3 rfl
theorem dX12_needed_8 : decode cX12_needed 8 = .ok (.ldc 187, 2) := all_at dvX12_needed_0 4 rfl
theorem dX12_needed_10 : decode cX12_needed 10 = .ok (.ireturn, 1) := all_at dvX12_needed_0 5 rfl
theorem dX12_needed_11 : decode cX12_needed 11 = .ok (.iload_n 2, 1) := all_at dvX12_needed_0 6 rfl
theorem dX12_needed_12 : decode cX12_needed 12 = .ok (.i2l, 1) := all_at dvX12_needed_0 7 rfl
theorem dX12_needed_13 : decode cX12_needed 13 = .ok (.lconst 1, 1) := all_at dvX12_needed_0 8 rfl
theorem dX12_needed_14 : decode cX12_needed 14 = .ok (.ldc2_w 192, 3) := all_at dvX12_needed_0 9 rfl
theorem dX12_needed_17 : decode cX12_needed 17 = .ok (.invokestatic 167, 3) := all_at dvX12_needed_0 10 rfl
theorem dX12_needed_20 : decode cX12_needed 20 = .ok (.ifCond .ne 6, 3) := all_at dvX12_needed_0 11 rfl
theorem dX12_needed_23 : decode cX12_needed 23 = .ok (.ldc 178, 2) := all_at dvX12_needed_0 12 rfl
theorem dX12_needed_25 : decode cX12_needed 25 = .ok (.ireturn, 1) := all_at dvX12_needed_0 13 rfl
theorem dX12_needed_26 : decode cX12_needed 26 = .ok (.aload_n 0, 1) := all_at dvX12_needed_0 14 rfl
theorem dX12_needed_27 : decode cX12_needed 27 = .ok (.iconst 2, 1) := all_at dvX12_needed_0 15 rfl
theorem dX12_needed_28 : decode cX12_needed 28 = .ok (.aload_n 0, 1) := all_at dvX12_needed_0 16 rfl
theorem dX12_needed_29 : decode cX12_needed 29 = .ok (.getfield 171, 3) := all_at dvX12_needed_0 17 rfl
theorem dX12_needed_32 : decode cX12_needed 32 = .ok (.invokevirtual 325, 3) := all_at dvX12_needed_0 18 rfl
theorem dX12_needed_35 : decode cX12_needed 35 = .ok (.istore_n 3, 1) := all_at dvX12_needed_0 19 rfl
theorem dX12_needed_36 : decode cX12_needed 36 = .ok (.iconst 0, 1) := all_at dvX12_needed_0 20 rfl
theorem dX12_needed_37 : decode cX12_needed 37 = .ok (.istore 4, 2) := all_at dvX12_needed_0 21 rfl
theorem dX12_needed_39 : decode cX12_needed 39 = .ok (.iconst 0, 1) := all_at dvX12_needed_0 22 rfl
theorem dX12_needed_40 : decode cX12_needed 40 = .ok (.istore 5, 2) := all_at dvX12_needed_0 23 rfl
set_option maxRecDepth 100000 in
theorem dvX12_needed_42 : ([(42, .iload 5, 2), (44, .aload_n 0, 1), (45, .getfield 200, 3), (48, .if_icmp .ge 55, 3), (51, .aload_n 0, 1), (52, .getfield 13, 3), (55, .iload 5, 2), (57, .iaload, 1), (58, .iload_n 1, 1), (59, .if_icmp .ne 38, 3), (62, .aload_n 0, 1), (63, .getfield 16, 3), (66, .iload 5, 2), (68, .iaload, 1), (69, .ifCond .ne 28, 3), (72, .aload_n 0, 1), (73, .iload 5, 2), (75, .aload_n 0, 1), (76, .getfield 171, 3), (79, .invokevirtual 233, 3), (82, .ifCond .eq 15, 3), (85, .aload_n 0, 1), (86, .getfield 106, 3), (89, .iload 4, 2)] : List (Nat × Instr × Nat)).all (fun q => decide (decode cX12_needed q.1 = .ok (q.2.1, q.2.2))) = true := by decide +kernel
theorem dX12_needed_42 : decode cX12_needed 42 = .ok (.iload 5, 2) := all_at dvX12_needed_42 0 rfl
theorem dX12_needed_44 : decode cX12_needed 44 = .ok (.aload_n 0, 1) := all_at dvX12_needed_42 1 rfl
theorem dX12_needed_45 : decode cX12_needed 45 = .ok (.getfield 200, 3) := all_at dvX12_needed_42 2 rfl
theorem dX12_needed_48 : decode cX12_needed 48 = .ok (.if_icmp .ge 55, 3) := all_at dvX12_needed_42 3 rfl
theorem dX12_needed_51 : decode cX12_needed 51 = .ok (.aload_n 0, 1) := all_at dvX12_needed_42 4 rfl
theorem dX12_needed_52 : decode cX12_needed 52 = .ok (.getfield 13, 3) := all_at dvX12_needed_42 5 rfl
theorem dX12_needed_55 : decode cX12_needed 55 = .ok (.iload 5, 2) := all_at dvX12_needed_42 6 rfl
theorem dX12_needed_57 : decode cX12_needed 57 = .ok (.iaload, 1) := all_at dvX12_needed_42 7 rfl
theorem dX12_needed_58 : decode cX12_needed 58 = .ok (.iload_n 1, 1) := all_at dvX12_needed_42 8 rfl
theorem dX12_needed_59 : decode cX12_needed 59 = .ok (.if_icmp .ne 38, 3) := all_at dvX12_needed_42 9 rfl
theorem dX12_needed_62 : decode cX12_needed 62 = .ok (.aload_n 0, 1) := all_at dvX12_needed_42 10 rfl
theorem dX12_needed_63 : decode cX12_needed 63 = .ok (.getfield 16, 3) := all_at dvX12_needed_42 11 rfl
theorem dX12_needed_66 : decode cX12_needed 66 = .ok (.iload 5, 2) := all_at dvX12_needed_42 12 rfl
theorem dX12_needed_68 : decode cX12_needed 68 = .ok (.iaload, 1) := all_at dvX12_needed_42 13 rfl
theorem dX12_needed_69 : decode cX12_needed 69 = .ok (.ifCond .ne 28, 3) := all_at dvX12_needed_42 14 rfl
theorem dX12_needed_72 : decode cX12_needed 72 = .ok (.aload_n 0, 1) := all_at dvX12_needed_42 15 rfl
theorem dX12_needed_73 : decode cX12_needed 73 = .ok (.iload 5, 2) := all_at dvX12_needed_42 16 rfl
theorem dX12_needed_75 : decode cX12_needed 75 = .ok (.aload_n 0, 1) := all_at dvX12_needed_42 17 rfl
theorem dX12_needed_76 : decode cX12_needed 76 = .ok (.getfield 171, 3) := all_at dvX12_needed_42 18 rfl
theorem dX12_needed_79 : decode cX12_needed 79 = .ok (.invokevirtual 233, 3) := all_at dvX12_needed_42 19 rfl
theorem dX12_needed_82 : decode cX12_needed 82 = .ok (.ifCond .eq 15, 3) := all_at dvX12_needed_42 20 rfl
theorem dX12_needed_85 : decode cX12_needed 85 = .ok (.aload_n 0, 1) := all_at dvX12_needed_42 21 rfl
theorem dX12_needed_86 : decode cX12_needed 86 = .ok (.getfield 106, 3) := all_at dvX12_needed_42 22 rfl
theorem dX12_needed_89 : decode cX12_needed 89 = .ok (.iload 4, 2) := all_at dvX12_needed_42 23 rfl
set_option maxRecDepth 100000 in
theorem dvX12_needed_91 : ([(91, .iload 5, 2), (93, .iastore, 1), (94, .iinc 4 1, 3), (97, .iinc 5 1, 3), (100, .goto (-58), 3), (103, .aload_n 0, 1), (104, .iload_n 1, 1), (105, .iconst 0, 1), (106, .aload_n 0, 1), (107, .getfield 171, 3), (110, .invokevirtual 237, 3), (113, .istore 5, 2), (115, .iconst 2, 1), (116, .istore 6, 2), (118, .iload 6, 2), (120, .iload 4, 2), (122, .if_icmp .gt 25, 3), (125, .aload_n 0, 1), (126, .iload 4, 2), (128, .iload 6, 2), (130, .iload_n 3, 1), (131, .iload_n 2, 1), (132, .invokevirtual 395, 3), (135, .ifCond .eq 6, 3)] : List (Nat × Instr × Nat)).all (fun q => decide (decode cX12_needed q.1 = .ok (q.2.1, q.2.2))) = true := by decide +kernel
theorem dX12_needed_91 : decode cX12_needed 91 = .ok (.iload 5, 2) := all_at dvX12_needed_91 0 rfl
theorem dX12_needed_93 : decode cX12_needed 93 = .ok (.iastore, 1) := all_at dvX12_needed_91 1 rfl
theorem dX12_needed_94 : decode cX12_needed 94 = .ok (.iinc 4 1, 3) := all_at dvX12_needed_91 2 rfl
theorem dX12_needed_97 : decode cX12_needed 97 = .ok (.iinc 5 1, 3) := all_at dvX12_needed_91 3 rfl
theorem dX12_needed_100 : decode cX12_needed 100 = .ok (.goto (-58), 3) := all_at dvX12_needed_91 4 rfl
theorem dX12_needed_103 : decode cX12_needed 103 = .ok (.aload_n 0, 1) := all_at dvX12_needed_91 5 rfl
theorem dX12_needed_104 : decode cX12_needed 104 = .ok (.iload_n 1, 1) := all_at dvX12_needed_91 6 rfl
theorem dX12_needed_105 : decode cX12_needed 105 = .ok (.iconst 0, 1) := all_at dvX12_needed_91 7 rfl
theorem dX12_needed_106 : decode cX12_needed 106 = .ok (.aload_n 0, 1) := all_at dvX12_needed_91 8 rfl
theorem dX12_needed_107 : decode cX12_needed 107 = .ok (.getfield 171, 3) := all_at dvX12_needed_91 9 rfl
theorem dX12_needed_110 : decode cX12_needed 110 = .ok (.invokevirtual 237, 3) := all_at dvX12_needed_91 10 rfl
theorem dX12_needed_113 : decode cX12_needed 113 = .ok (.istore 5, 2) := all_at dvX12_needed_91 11 rfl
theorem dX12_needed_115 : decode cX12_needed 115 = .ok (.iconst 2, 1) := all_at dvX12_needed_91 12 rfl
theorem dX12_needed_116 : decode cX12_needed 116 = .ok (.istore 6, 2) := all_at dvX12_needed_91 13 rfl
theorem dX12_needed_118 : decode cX12_needed 118 = .ok (.iload 6, 2) := all_at dvX12_needed_91 14 rfl
theorem dX12_needed_120 : decode cX12_needed 120 = .ok (.iload 4, 2) := all_at dvX12_needed_91 15 rfl
theorem dX12_needed_122 : decode cX12_needed 122 = .ok (.if_icmp .gt 25, 3) := all_at dvX12_needed_91 16 rfl
theorem dX12_needed_125 : decode cX12_needed 125 = .ok (.aload_n 0, 1) := all_at dvX12_needed_91 17 rfl
theorem dX12_needed_126 : decode cX12_needed 126 = .ok (.iload 4, 2) := all_at dvX12_needed_91 18 rfl
theorem dX12_needed_128 : decode cX12_needed 128 = .ok (.iload 6, 2) := all_at dvX12_needed_91 19 rfl
theorem dX12_needed_130 : decode cX12_needed 130 = .ok (.iload_n 3, 1) := all_at dvX12_needed_91 20 rfl
theorem dX12_needed_131 : decode cX12_needed 131 = .ok (.iload_n 2, 1) := all_at dvX12_needed_91 21 rfl
theorem dX12_needed_132 : decode cX12_needed 132 = .ok (.invokevirtual 395, 3) := all_at dvX12_needed_91 22 rfl
theorem dX12_needed_135 : decode cX12_needed 135 = .ok (.ifCond .eq 6, 3) := all_at dvX12_needed_91 23 rfl
set_option maxRecDepth 100000 in
theorem dvX12_needed_138 : ([(138, .iload 6, 2), (140, .ireturn, 1), (141, .iinc 6 1, 3), (144, .goto (-26), 3), (147, .iconst (-1), 1), (148, .ireturn, 1)] : List (Nat × Instr × Nat)).all (fun q => decide (decode cX12_needed q.1 = .ok (q.2.1, q.2.2))) = true := by decide +kernel
theorem dX12_needed_138 : decode cX12_needed 138 = .ok (.iload 6, 2) := all_at dvX12_needed_138 0 rfl
theorem dX12_needed_140 : decode cX12_needed 140 = .ok (.ireturn, 1) := all_at dvX12_needed_138 1 rfl
theorem dX12_needed_141 : decode cX12_needed 141 = .ok (.iinc 6 1, 3) := all_at dvX12_needed_138 2 rfl
theorem dX12_needed_144 : decode cX12_needed 144 = .ok (.goto (-26), 3) := all_at dvX12_needed_138 3 rfl
theorem dX12_needed_147 : decode cX12_needed 147 = .ok (.iconst (-1), 1) := all_at dvX12_needed_138 4 rfl
theorem dX12_needed_148 : decode cX12_needed 148 = .ok (.ireturn, 1) := all_at dvX12_needed_138 5 rfl
set_option maxHeartbeats 4000000 in
set_option maxRecDepth 100000 in
/-- X12_isEnough -/
theorem c_X12_isEnough (l : Launch) (dC : Nat → ClassId) (dI : Nat → Nat → Nat) (h : Nat) (g : Nat → Nat → Nat) (ca : Nat → Nat → ClassId) (iv : Nat → Nat → Int32) (lv : Nat → Nat → Int64) (fa : Nat → Nat → Nat → Int32) (la : Nat → Nat → Nat → Int64) (hI : IX iv fa) (mm : Int32) (n : Int32) (a : Int32) (b : Int32) (h_mm : 0 ≤ mm.toInt ∧ mm.toInt ≤ 12) : Met l yX12_isEnough (wc yX12_isEnough cX12_isEnough 13 (some .boolean)) ({ frames := 2, cells := 0, slots := 0, locals := 49 } : Room) (pR (dC, dI) classes (WM h g ca iv lv fa la) (TM ca) [.ref h, .int mm, .int n, .int a, .int b]) (vp_Si (fun r => 0 ≤ r.toInt ∧ r.toInt ≤ 1)) 0 0 (fun _ => False) := by
  refine Met.ofW (cc := cX12_isEnough) (maxL := 13) (ret := (some .boolean)) (by decide) rfl ?_
  intro p e s m args below meth c s₁ B hml hv
  obtain ⟨rfl, hP, hK⟩ := hv
  have hx := B.exec
  have hb := B.bytes
  have hr := B.returns
  have ht := tb_tl (atoms_spec (ws := wc yX12_isEnough cX12_isEnough 13 (some .boolean)) B.pre)
  have hown : s.vm.findClass RX12 = some m.cls := findClass_of_methodNamed B.named
  have hlocks := B.notSynchronized
  have hl := lv_entry [.ref h, .int mm, .int n, .int a, .int b] (n := 13) (Nat.le_of_ble_eq_true rfl)
  rw [lg_entry_eq]
  generalize (lg_sl [.ref h, .int mm, .int n, .int a, .int b] ++ List.replicate (13 - (lg_sl [.ref h, .int mm, .int n, .int a, .int b]).length) Slot.unset).toArray = ls at hl ⊢
  have hl : lv_has ls 13 [(0, .ref h), (1, .int mm), (2, .int n), (3, .int a), (4, .int b)] := hl
  refine lv_iconst (v := 0) hx hb dX12_isEnough_0 (by decide) ?_
  refine lv_istore (lv' := [(5, .int 0), (0, .ref h), (1, .int mm), (2, .int n), (3, .int a), (4, .int b)]) hx hb dX12_isEnough_1 hl (by decide) rfl (fun ls hl => ?_)
  refine lv_iconst (v := 0) hx hb dX12_isEnough_3 (by decide) ?_
  refine lv_istore (lv' := [(6, .int 0), (5, .int 0), (0, .ref h), (1, .int mm), (2, .int n), (3, .int a), (4, .int b)]) hx hb dX12_isEnough_4 hl (by decide) rfl (fun ls hl => ?_)
  refine lv_iconst (v := 0) hx hb dX12_isEnough_6 (by decide) ?_
  refine lv_istore (lv' := [(7, .int 0), (6, .int 0), (5, .int 0), (0, .ref h), (1, .int mm), (2, .int n), (3, .int a), (4, .int b)]) hx hb dX12_isEnough_7 hl (by decide) rfl (fun ls hl => ?_)
  have lp15079 : ∀ (nn15079 : Nat) (x15078_7 : Int32) (x15078_6 : Int32) (x15078_5 : Int32), 0 ≤ x15078_7.toInt ∧ x15078_7.toInt ≤ 9999 → (x15078_7 : Int32).toInt ≤ 4096 → 0 ≤ (x15078_7 : Int32).toInt → 4096 - (x15078_7 : Int32).toInt < (nn15079 : Int) → ∀ (ls : Array Slot), lv_has ls 13 [(7, .int x15078_7), (6, .int x15078_6), (5, .int x15078_5), (0, .ref h), (1, .int mm), (2, .int n), (3, .int a), (4, .int b)] → W p l e ({ frames := 2, cells := 0, slots := 0, locals := 49 } : Room) s m ([.ref h, .int mm, .int n, .int a, .int b] : List Value).toArray below meth c s.heap [] 0 0 (MQ below (vp_Si (fun r => 0 ≤ r.toInt ∧ r.toInt ≤ 1)) ([.ref h, .int mm, .int n, .int a, .int b] : List Value).toArray s 0 0 (fun _ => False)) (F0 m 9 ls []) := by
    intro nn15079
    induction nn15079 with
    | zero => intro x15078_7 x15078_6 x15078_5 hx15078_7 hq15079_0 hq15079_1 hm15079; exfalso; omega
    | succ nn15079 ih15079 =>
      intro x15078_7 x15078_6 x15078_5 hx15078_7 hq15079_0 hq15079_1 hm15079 ls hl
      refine lv_iload hx hb dX12_isEnough_9 (lv_at hl 0 rfl) ?_
      refine lv_iconst (v := 1) hx hb dX12_isEnough_11 (by decide) ?_
      refine lv_iload_n hx hb dX12_isEnough_12 rfl (lv_at hl 4 rfl) ?_
      refine lv_ishl hx hb dX12_isEnough_13 ?_
      refine lv_topi (fun v15080 ev15080 => ?_)
      have tv15080 := shl1c ev15080 ⟨by omega, by omega⟩
      refine lv_icmp_ge (tgt := 132) hx hb dX12_isEnough_14 (by decide) (fun c15081 => ?_) (fun c15081 => ?_)
      · have fc15081 := z_le (rfl : (v15080).toInt = _) (rfl : (x15078_7).toInt = _) c15081
        refine lv_bipush (v := 100) hx hb dX12_isEnough_132 (by decide) ?_
        refine lv_iload hx hb dX12_isEnough_134 (lv_at hl 1 rfl) ?_
        refine lv_imul hx hb dX12_isEnough_136 ?_
        refine lv_topi (fun v15082 ev15082 => ?_)
        refine lv_iload hx hb dX12_isEnough_137 (lv_at hl 7 rfl) ?_
        refine lv_iload hx hb dX12_isEnough_139 (lv_at hl 2 rfl) ?_
        refine lv_imul hx hb dX12_isEnough_141 ?_
        refine lv_topi (fun v15083 ev15083 => ?_)
        refine lv_icmp_gt (tgt := 149) hx hb dX12_isEnough_142 (by decide) (fun c15084 => ?_) (fun c15084 => ?_)
        · have fc15084 := z_lt (rfl : (v15083).toInt = _) (rfl : (v15082).toInt = _) c15084
          refine lv_iconst (v := 0) hx hb dX12_isEnough_149 (by decide) ?_
          exact W.zret (v := 0) hx hb hr rfl (fun t ht9 hW => ⟨0, rfl, ⟨by decide, by decide⟩, ht9⟩) (fun q hq => by cases hq) dX12_isEnough_150
        · have fc15084 := z_nlt (rfl : (v15083).toInt = _) (rfl : (v15082).toInt = _) c15084
          refine lv_iconst (v := 1) hx hb dX12_isEnough_145 (by decide) ?_
          refine lv_goto (tgt := 150) hx hb dX12_isEnough_146 (by decide) ?_
          exact W.zret (v := 1) hx hb hr rfl (fun t ht9 hW => ⟨1, rfl, ⟨by decide, by decide⟩, ht9⟩) (fun q hq => by cases hq) dX12_isEnough_150
      · have fc15081 := z_nle (rfl : (v15080).toInt = _) (rfl : (x15078_7).toInt = _) c15081
        refine lv_iload hx hb dX12_isEnough_17 (lv_at hl 0 rfl) ?_
        refine vp_callSi (W.runS (As := [.int x15078_7]) (rest := []) ⟨hx, hb, hml, hown, ht⟩ (c_X12_ones l dC dI x15078_7) (kS 1 ht m_1606 m_1607 m_89 m_1608 rfl rfl hd_X12_ones_v ⟨Nat.le_of_ble_eq_true rfl, Nat.le_of_ble_eq_true rfl⟩) (sR noP (hK.sub (tys' := []) [] rfl)) rfl rfl hl.1 rfl (lv_room (Nat.le_of_ble_eq_true rfl)) dX12_isEnough_19 ⟨Nat.le_of_ble_eq_true rfl, Nat.le_of_ble_eq_true rfl⟩) (fun r15085 hr15085 => ?_)
        refine lv_iload_n hx hb dX12_isEnough_22 rfl (lv_at hl 5 rfl) ?_
        refine lv_icmp_ne (tgt := 126) hx hb dX12_isEnough_23 (by decide) (fun c15086 => ?_) (fun c15086 => ?_)
        · have fc15086 := z_ne (rfl : (r15085).toInt = _) (rfl : (n).toInt = _) c15086
          obtain ⟨v15087, ev15087⟩ : ∃ y : Int32, y = x15078_7 + 1 := ⟨_, rfl⟩
          have tv15087 := z_add ev15087 rfl (by decide : (1 : Int32).toInt = 1) (by omega) (by omega)
          refine lv_iinc (v := v15087) (lv' := [(7, .int v15087), (6, .int x15078_6), (5, .int x15078_5), (0, .ref h), (1, .int mm), (2, .int n), (3, .int a), (4, .int b)]) hx hb dX12_isEnough_126 hl (k := 0) rfl (by rw [ev15087]; rfl) (by decide) rfl (fun ls hl => ?_)
          refine lv_goto (tgt := 9) hx hb dX12_isEnough_129 (by decide) ?_
          exact ih15079 v15087 x15078_6 x15078_5 ⟨by omega, by omega⟩ (show (v15087 : Int32).toInt ≤ 4096 from by omega) (show 0 ≤ (v15087 : Int32).toInt from by omega) (by omega) ls (lv_sub hl [0, 1, 2, 3, 4, 5, 6, 7] rfl)
        · have fc15086 := z_eq (rfl : (r15085).toInt = _) (rfl : (n).toInt = _) c15086
          refine lv_lconst (v := 0) hx hb dX12_isEnough_26 (by decide) ?_
          refine lv_lstore (lv' := [(8, .long 0), (7, .int x15078_7), (6, .int x15078_6), (5, .int x15078_5), (0, .ref h), (1, .int mm), (2, .int n), (3, .int a), (4, .int b)]) hx hb dX12_isEnough_27 hl (by decide) rfl (fun ls hl => ?_)
          refine lv_lconst (v := 0) hx hb dX12_isEnough_29 (by decide) ?_
          refine lv_lstore (lv' := [(10, .long 0), (8, .long 0), (7, .int x15078_7), (6, .int x15078_6), (5, .int x15078_5), (0, .ref h), (1, .int mm), (2, .int n), (3, .int a), (4, .int b)]) hx hb dX12_isEnough_30 hl (by decide) rfl (fun ls hl => ?_)
          refine lv_iconst (v := 0) hx hb dX12_isEnough_32 (by decide) ?_
          refine lv_istore (lv' := [(12, .int 0), (10, .long 0), (8, .long 0), (7, .int x15078_7), (6, .int x15078_6), (5, .int x15078_5), (0, .ref h), (1, .int mm), (2, .int n), (3, .int a), (4, .int b)]) hx hb dX12_isEnough_33 hl (by decide) rfl (fun ls hl => ?_)
          have lp15349 : ∀ (nn15349 : Nat) (x15348_12 : Int32) (x15348_10 : Int64) (x15348_8 : Int64), 0 ≤ x15348_12.toInt ∧ x15348_12.toInt ≤ 12 → 12 - x15348_12.toInt < (nn15349 : Int) → ∀ (ls : Array Slot), lv_has ls 13 [(12, .int x15348_12), (10, .long x15348_10), (8, .long x15348_8), (7, .int x15078_7), (6, .int x15078_6), (5, .int x15078_5), (0, .ref h), (1, .int mm), (2, .int n), (3, .int a), (4, .int b)] → W p l e ({ frames := 2, cells := 0, slots := 0, locals := 49 } : Room) s m ([.ref h, .int mm, .int n, .int a, .int b] : List Value).toArray below meth c s.heap [] 0 0 (MQ below (vp_Si (fun r => 0 ≤ r.toInt ∧ r.toInt ≤ 1)) ([.ref h, .int mm, .int n, .int a, .int b] : List Value).toArray s 0 0 (fun _ => False)) (F0 m 35 ls []) := by
            intro nn15349
            induction nn15349 with
            | zero => intro x15348_12 x15348_10 x15348_8 hx15348_12 hm15349; exfalso; omega
            | succ nn15349 ih15349 =>
              intro x15348_12 x15348_10 x15348_8 hx15348_12 hm15349 ls hl
              refine lv_iload hx hb dX12_isEnough_35 (lv_at hl 0 rfl) ?_
              refine lv_iload_n hx hb dX12_isEnough_37 rfl (lv_at hl 7 rfl) ?_
              refine lv_icmp_ge (tgt := 99) hx hb dX12_isEnough_38 (by decide) (fun c15350 => ?_) (fun c15350 => ?_)
              · have fc15350 := z_le (rfl : (mm).toInt = _) (rfl : (x15348_12).toInt = _) c15350
                obtain ⟨v15351, ev15351⟩ : ∃ y : Int32, y = x15078_5 + 1 := ⟨_, rfl⟩
                refine lv_iinc (v := v15351) (lv' := [(5, .int v15351), (12, .int x15348_12), (10, .long x15348_10), (8, .long x15348_8), (7, .int x15078_7), (6, .int x15078_6), (0, .ref h), (1, .int mm), (2, .int n), (3, .int a), (4, .int b)]) hx hb dX12_isEnough_99 hl (k := 5) rfl (by rw [ev15351]; rfl) (by decide) rfl (fun ls hl => ?_)
                refine lv_iload hx hb dX12_isEnough_102 (lv_at hl 5 rfl) ?_
                refine lv_lload hx hb dX12_isEnough_104 (lv_at hl 3 rfl) ?_
                refine lv_lload hx hb dX12_isEnough_106 (lv_at hl 2 rfl) ?_
                refine lv_aload_n hx hb dX12_isEnough_108 rfl (lv_at hl 6 rfl) ?_
                refine gM_12_17 hx hb ht hown hK hP m_1156 (v := (lv 12 17)) rfl dX12_isEnough_109 ?_
                refine lv_aload_n hx hb dX12_isEnough_112 rfl (lv_at hl 6 rfl) ?_
                refine gM_12_18 hx hb ht hown hK hP m_1157 (v := (lv 12 18)) rfl dX12_isEnough_113 ?_
                refine lv_iload_n hx hb dX12_isEnough_116 rfl (lv_at hl 9 rfl) ?_
                refine vp_callSi (W.runS (As := [.long x15348_8, .long x15348_10, .long (lv 12 17), .long (lv 12 18), .int a]) (rest := [.int x15078_6]) ⟨hx, hb, hml, hown, ht⟩ (c_X12_doPart l dC dI x15348_8 x15348_10 (lv 12 17) (lv 12 18) a) (kS 5 ht m_1540 m_1541 m_89 m_1542 rfl rfl hd_X12_doPart_v ⟨Nat.le_of_ble_eq_true rfl, Nat.le_of_ble_eq_true rfl⟩) (sR noP (hK.sub (tys' := []) [] rfl)) rfl rfl hl.1 rfl (lv_room (Nat.le_of_ble_eq_true rfl)) dX12_isEnough_117 ⟨Nat.le_of_ble_eq_true rfl, Nat.le_of_ble_eq_true rfl⟩) (fun r15352 hr15352 => ?_)
                refine vp_callSi (W.runS (As := [.int r15352]) (rest := [.int x15078_6]) ⟨hx, hb, hml, hown, ht⟩ (c_X12_bit l dC dI r15352 ⟨by omega, by omega⟩) (kS 1 ht m_1396 m_1397 m_89 m_1398 rfl rfl hd_X12_bit_v ⟨Nat.le_of_ble_eq_true rfl, Nat.le_of_ble_eq_true rfl⟩) (sR noP (hK.sub (tys' := []) [] rfl)) rfl rfl hl.1 rfl (lv_room (Nat.le_of_ble_eq_true rfl)) dX12_isEnough_120 ⟨Nat.le_of_ble_eq_true rfl, Nat.le_of_ble_eq_true rfl⟩) (fun r15353 hr15353 => ?_)
                refine lv_iadd hx hb dX12_isEnough_123 ?_
                refine lv_topi (fun v15354 ev15354 => ?_)
                refine lv_istore (lv' := [(6, .int v15354), (5, .int v15351), (12, .int x15348_12), (10, .long x15348_10), (8, .long x15348_8), (7, .int x15078_7), (0, .ref h), (1, .int mm), (2, .int n), (3, .int a), (4, .int b)]) hx hb dX12_isEnough_124 hl (by decide) rfl (fun ls hl => ?_)
                obtain ⟨v15355, ev15355⟩ : ∃ y : Int32, y = x15078_7 + 1 := ⟨_, rfl⟩
                have tv15355 := z_add ev15355 rfl (by decide : (1 : Int32).toInt = 1) (by omega) (by omega)
                refine lv_iinc (v := v15355) (lv' := [(7, .int v15355), (6, .int v15354), (5, .int v15351), (12, .int x15348_12), (10, .long x15348_10), (8, .long x15348_8), (0, .ref h), (1, .int mm), (2, .int n), (3, .int a), (4, .int b)]) hx hb dX12_isEnough_126 hl (k := 5) rfl (by rw [ev15355]; rfl) (by decide) rfl (fun ls hl => ?_)
                refine lv_goto (tgt := 9) hx hb dX12_isEnough_129 (by decide) ?_
                exact ih15079 v15355 v15354 v15351 ⟨by omega, by omega⟩ (show (v15355 : Int32).toInt ≤ 4096 from by omega) (show 0 ≤ (v15355 : Int32).toInt from by omega) (by omega) ls (lv_sub hl [0, 1, 2, 6, 7, 8, 9, 10] rfl)
              · have fc15350 := z_nle (rfl : (mm).toInt = _) (rfl : (x15348_12).toInt = _) c15350
                refine lv_lload hx hb dX12_isEnough_41 (lv_at hl 2 rfl) ?_
                refine lv_iload hx hb dX12_isEnough_43 (lv_at hl 3 rfl) ?_
                refine lv_iload hx hb dX12_isEnough_45 (lv_at hl 0 rfl) ?_
                refine lv_ishr hx hb dX12_isEnough_47 ?_
                refine lv_topi (fun v15356 ev15356 => ?_)
                refine lv_iconst (v := 1) hx hb dX12_isEnough_48 (by decide) ?_
                refine lv_iand hx hb dX12_isEnough_49 ?_
                refine lv_topi (fun v15357 ev15357 => ?_)
                refine lv_aload_n hx hb dX12_isEnough_50 rfl (lv_at hl 6 rfl) ?_
                refine gM_12_8 hx hb ht hown hK hP m_1147 dX12_isEnough_51 ?_
                refine lv_aload_n hx hb dX12_isEnough_54 rfl (lv_at hl 6 rfl) ?_
                refine gM_12_50 hx hb ht hown hK hP m_1189 dX12_isEnough_55 ?_
                refine lv_iload hx hb dX12_isEnough_58 (lv_at hl 0 rfl) ?_
                refine lM_12_50 hx hb hK hP (f := (fa 12 50)) rfl (vp_in_iff.mpr ⟨by omega, by omega⟩) dX12_isEnough_60 ?_
                refine lv_topi (fun v15358 ev15358 => ?_)
                have tv15358 : 0 ≤ v15358.toInt ∧ v15358.toInt ≤ 59 := by rw [ev15358]; exact hI.2 12 50 _
                refine lM_12_8 hx hb hK hP (f := (fa 12 8)) rfl (vp_in_iff.mpr ⟨by omega, by omega⟩) dX12_isEnough_61 ?_
                refine lv_topi (fun v15359 ev15359 => ?_)
                refine lv_imul hx hb dX12_isEnough_62 ?_
                refine lv_topi (fun v15360 ev15360 => ?_)
                refine lv_i2l (v := (v15360.toInt64)) hx hb dX12_isEnough_63 rfl ?_
                refine lv_ladd hx hb dX12_isEnough_64 ?_
                refine lv_topl (fun w15361 ew15361 => ?_)
                refine lv_lstore (lv' := [(8, .long w15361), (12, .int x15348_12), (10, .long x15348_10), (7, .int x15078_7), (6, .int x15078_6), (5, .int x15078_5), (0, .ref h), (1, .int mm), (2, .int n), (3, .int a), (4, .int b)]) hx hb dX12_isEnough_65 hl (by decide) rfl (fun ls hl => ?_)
                refine lv_lload hx hb dX12_isEnough_67 (lv_at hl 2 rfl) ?_
                refine lv_iload hx hb dX12_isEnough_69 (lv_at hl 3 rfl) ?_
                refine lv_iload hx hb dX12_isEnough_71 (lv_at hl 1 rfl) ?_
                refine lv_ishr hx hb dX12_isEnough_73 ?_
                refine lv_topi (fun v15362 ev15362 => ?_)
                refine lv_iconst (v := 1) hx hb dX12_isEnough_74 (by decide) ?_
                refine lv_iand hx hb dX12_isEnough_75 ?_
                refine lv_topi (fun v15363 ev15363 => ?_)
                refine lv_aload_n hx hb dX12_isEnough_76 rfl (lv_at hl 6 rfl) ?_
                refine gM_12_7 hx hb ht hown hK hP m_1146 dX12_isEnough_77 ?_
                refine lv_aload_n hx hb dX12_isEnough_80 rfl (lv_at hl 6 rfl) ?_
                refine gM_12_50 hx hb ht hown hK hP m_1189 dX12_isEnough_81 ?_
                refine lv_iload hx hb dX12_isEnough_84 (lv_at hl 1 rfl) ?_
                refine lM_12_50 hx hb hK hP (f := (fa 12 50)) rfl (vp_in_iff.mpr ⟨by omega, by omega⟩) dX12_isEnough_86 ?_
                refine lv_topi (fun v15364 ev15364 => ?_)
                obtain rfl : v15358 = v15364 := ev15358.trans ev15364.symm
                refine lM_12_7 hx hb hK hP (f := (fa 12 7)) rfl (vp_in_iff.mpr ⟨by omega, by omega⟩) dX12_isEnough_87 ?_
                refine lv_topi (fun v15365 ev15365 => ?_)
                have tv15365 : 0 ≤ v15365.toInt ∧ v15365.toInt ≤ 9999 := by rw [ev15365]; exact hI.2 12 7 _
                refine lv_imul hx hb dX12_isEnough_88 ?_
                refine lv_topi (fun v15366 ev15366 => ?_)
                refine lv_i2l (v := (v15366.toInt64)) hx hb dX12_isEnough_89 rfl ?_
                refine lv_ladd hx hb dX12_isEnough_90 ?_
                refine lv_topl (fun w15367 ew15367 => ?_)
                refine lv_lstore (lv' := [(10, .long w15367), (8, .long w15361), (12, .int x15348_12), (7, .int x15078_7), (6, .int x15078_6), (5, .int x15078_5), (0, .ref h), (1, .int mm), (2, .int n), (3, .int a), (4, .int b)]) hx hb dX12_isEnough_91 hl (by decide) rfl (fun ls hl => ?_)
                obtain ⟨v15368, ev15368⟩ : ∃ y : Int32, y = x15348_12 + 1 := ⟨_, rfl⟩
                have tv15368 := z_add ev15368 rfl (by decide : (1 : Int32).toInt = 1) (by omega) (by omega)
                refine lv_iinc (v := v15368) (lv' := [(12, .int v15368), (10, .long w15367), (8, .long w15361), (7, .int x15078_7), (6, .int x15078_6), (5, .int x15078_5), (0, .ref h), (1, .int mm), (2, .int n), (3, .int a), (4, .int b)]) hx hb dX12_isEnough_93 hl (k := 2) rfl (by rw [ev15368]; rfl) (by decide) rfl (fun ls hl => ?_)
                refine lv_goto (tgt := 35) hx hb dX12_isEnough_96 (by decide) ?_
                exact ih15349 v15368 w15367 w15361 ⟨by omega, by omega⟩ (by omega) ls (lv_sub hl [0, 1, 2, 3, 4, 5, 6, 7, 8, 9, 10] rfl)
          exact lp15349 13 0 0 0 ⟨by decide, by decide⟩ (by first | decide | omega) ls (lv_sub hl [0, 1, 2, 3, 4, 5, 6, 7, 8, 9, 10] rfl)
  have : (0 : Int32).toInt = 0 := (by decide)
  exact lp15079 4097 0 0 0 ⟨by decide, by decide⟩ (show (0 : Int32).toInt ≤ 4096 from by omega) (show 0 ≤ (0 : Int32).toInt from by omega) (show 4096 - (0 : Int32).toInt < _ from by omega) ls (lv_sub hl [0, 1, 2, 3, 4, 5, 6, 7] rfl)
set_option maxHeartbeats 4000000 in
set_option maxRecDepth 100000 in
/-- X12_needed -/
theorem c_X12_needed (l : Launch) (dC : Nat → ClassId) (dI : Nat → Nat → Nat) (sz : Nat) (h : Nat) (g : Nat → Nat → Nat) (ca : Nat → Nat → ClassId) (iv : Nat → Nat → Int32) (lv : Nat → Nat → Int64) (fa : Nat → Nat → Nat → Int32) (la : Nat → Nat → Nat → Int64) (hI : IX iv fa) (a : Int32) (b : Int32) (hJC : JCf (iv 12 23).toInt (fa 12 25) (fa 12 26) (fa 12 27) (fa 12 28)) (hJR : JRf (iv 12 3).toInt (fa 12 7)) (hJN : JNf (iv 12 3).toInt (fa 12 4) (fa 12 5)) : Met l yX12_needed (wc yX12_needed cX12_needed 7 (some .int)) ({ frames := 3, cells := 0, slots := 0, locals := 81 } : Room) (pW (dC, dI) classes (WM h g ca iv lv fa la) (TM ca) sz [.ref h, .int a, .int b]) (va_Qi (fun r (u : SS) => ∃ (na_12_39 : Nat → Int32) (na_12_40 : Nat → Int32) (na_12_50 : Nat → Int32) (ni_12_19 : Int32) (ni_12_41 : Int32) (nl_12_17 : Int64) (nl_12_18 : Int64), (∀ j, inb (bA 12 39 j) (na_12_39 j)) ∧ (∀ j, inb (bA 12 40 j) (na_12_40 j)) ∧ (∀ j, inb (bA 12 50 j) (na_12_50 j)) ∧ inb (bI 12 41) ni_12_41 ∧ ((-100002) ≤ r.toInt ∧ r.toInt ≤ 12) ∧ u = ((u2 (u2 iv 12 19 ni_12_19) 12 41 ni_12_41), (u2 (u2 lv 12 17 nl_12_17) 12 18 nl_12_18), (u2 (u2 (u2 fa 12 39 na_12_39) 12 40 na_12_40) 12 50 na_12_50), la)) (bM (dC, dI) h g ca (va_A (WM h g ca iv lv fa la) sz)) (va_A (WM h g ca iv lv fa la) sz)) 0 0 (va_A (WM h g ca iv lv fa la) sz) := by
  refine Met.ofW (cc := cX12_needed) (maxL := 7) (ret := (some .int)) (by decide) rfl ?_
  intro p e s m args below meth c s₁ B hml hv
  obtain ⟨rfl, hsz, hP, hK, hD0⟩ := hv
  have hx := B.exec
  have hb := B.bytes
  have hr := B.returns
  have ht := tb_tl (atoms_spec (ws := wc yX12_needed cX12_needed 7 (some .int)) B.pre)
  have hown : s.vm.findClass RX12 = some m.cls := findClass_of_methodNamed B.named
  have hlocks := B.notSynchronized
  subst hsz
  have hD := hD0.self (sz := s.heap.size)
  generalize hAe : va_A (WM h g ca iv lv fa la) s.heap.size = A at hD ⊢
  have hA : ∀ q : Nat, s.heap.size ≤ q → A q := fun q h => by rw [← hAe]; exact Or.inr h
  have hS : va_S A s.heap s.heap [] := va_S.rf
  have hl := lv_entry [.ref h, .int a, .int b] (n := 7) (Nat.le_of_ble_eq_true rfl)
  rw [lg_entry_eq]
  generalize (lg_sl [.ref h, .int a, .int b] ++ List.replicate (7 - (lg_sl [.ref h, .int a, .int b]).length) Slot.unset).toArray = ls at hl ⊢
  have hl : lv_has ls 7 [(0, .ref h), (1, .int a), (2, .int b)] := hl
  refine lv_aload_n hx hb dX12_needed_0 rfl (lv_at hl 0 rfl) ?_
  refine lv_iload_n hx hb dX12_needed_1 rfl (lv_at hl 1 rfl) ?_
  refine vp_callSi (W.runV (As := [.int a]) (rest := []) ⟨hx, hb, hml, hown, ht⟩ (c_X12_noBale l dC dI h g ca iv lv fa la hI a) (kV 1 ht m_1385 m_1387 m_42 m_89 m_1388 rfl rfl hd_X12_noBale_v ⟨Nat.le_of_ble_eq_true rfl, Nat.le_of_ble_eq_true rfl⟩) (vR hP hK (rM_12 hK hP)) rfl rfl hl.1 rfl (lv_room (Nat.le_of_ble_eq_true rfl)) dX12_needed_2 ⟨Nat.le_of_ble_eq_true rfl, Nat.le_of_ble_eq_true rfl⟩) (fun r1 hr1 => ?_)
  rcases hr1 with ⟨rfl, fr1⟩ | ⟨rfl, fr1⟩
  · skip
    have i_12_1 : 0 ≤ (iv 12 1).toInt ∧ (iv 12 1).toInt ≤ 10 := hI.1 12 1
    have fr1 : ¬ (0 ≤ (a : Int32).toInt ∧ (a : Int32).toInt < ((iv 12 1) : Int32).toInt) := fr1
    refine lv_if_eq (tgt := 11) hx hb dX12_needed_5 (by decide) (fun c2 => ?_) (fun c2 => ?_)
    · exact absurd c2 (by decide)
    · skip
      refine lv_ldc hx hb hown (ht _ m_1389) dX12_needed_8 ?_
      have hP9 : va_P (dC, dI) classes (WM h g ca (u2 (u2 iv 12 19 (iv 12 19)) 12 41 (iv 12 41)) (u2 (u2 lv 12 17 (lv 12 17)) 12 18 (lv 12 18)) (u2 (u2 (u2 fa 12 39 (fa 12 39)) 12 40 (fa 12 40)) 12 50 (fa 12 50)) la) s.heap := hP
      have hD9 : va_D A (WM h g ca (u2 (u2 iv 12 19 (iv 12 19)) 12 41 (iv 12 41)) (u2 (u2 lv 12 17 (lv 12 17)) 12 18 (lv 12 18)) (u2 (u2 (u2 fa 12 39 (fa 12 39)) 12 40 (fa 12 40)) 12 50 (fa 12 50)) la) := hD
      exact W.iret (v := (-100001)) hx hb hr (fun t ht9 hW => ⟨⟨(-100001), ((u2 (u2 iv 12 19 (iv 12 19)) 12 41 (iv 12 41)), (u2 (u2 lv 12 17 (lv 12 17)) 12 18 (lv 12 18)), (u2 (u2 (u2 fa 12 39 (fa 12 39)) 12 40 (fa 12 40)) 12 50 (fa 12 50)), la), rfl, ⟨(fa 12 39), (fa 12 40), (fa 12 50), (iv 12 19), (iv 12 41), (lv 12 17), (lv 12 18), (hI.2 12 39), (hI.2 12 40), (hI.2 12 50), (hI.1 12 41), ⟨by decide, by decide⟩, rfl⟩, by rw [ht9]; exact hP9, hD9⟩, hS.F ht9⟩) hS.2.2 dX12_needed_10
  · skip
    have i_12_1 : 0 ≤ (iv 12 1).toInt ∧ (iv 12 1).toInt ≤ 10 := hI.1 12 1
    have fr1 : (0 ≤ (a : Int32).toInt ∧ (a : Int32).toInt < ((iv 12 1) : Int32).toInt) := Decidable.not_not.mp fr1
    refine lv_if_eq (tgt := 11) hx hb dX12_needed_5 (by decide) (fun c3 => ?_) (fun c3 => ?_)
    · skip
      refine lv_iload_n hx hb dX12_needed_11 rfl (lv_at hl 2 rfl) ?_
      refine lv_i2l (v := (b.toInt64)) hx hb dX12_needed_12 rfl ?_
      refine lv_lconst (v := 1) hx hb dX12_needed_13 (by decide) ?_
      refine lv_ldc2 hx hb hown (ht _ m_1392) dX12_needed_14 ?_
      refine vp_callSi (W.runS (As := [.long (b.toInt64), .long 1, .long 100]) (rest := []) ⟨hx, hb, hml, hown, ht⟩ (c_X12_in l dC dI (b.toInt64) 1 100 (b.toInt) (1) (100) ((Int32.toInt_toInt64 b).trans rfl) (by decide : (1 : Int64).toInt = 1) (by decide : (100 : Int64).toInt = 100)) (kS 3 ht m_1370 m_1371 m_89 m_1372 rfl rfl hd_X12_in_v ⟨Nat.le_of_ble_eq_true rfl, Nat.le_of_ble_eq_true rfl⟩) (sR noP (hK.sub (tys' := []) [] rfl)) rfl rfl hl.1 rfl (lv_room (Nat.le_of_ble_eq_true rfl)) dX12_needed_17 ⟨Nat.le_of_ble_eq_true rfl, Nat.le_of_ble_eq_true rfl⟩) (fun r4 hr4 => ?_)
      rcases hr4 with ⟨rfl, fr4⟩ | ⟨rfl, fr4⟩
      · skip
        refine lv_if_ne (tgt := 26) hx hb dX12_needed_20 (by decide) (fun c5 => ?_) (fun c5 => ?_)
        · skip
          refine lv_aload_n hx hb dX12_needed_26 rfl (lv_at hl 0 rfl) ?_
          refine lv_iconst (v := 2) hx hb dX12_needed_27 (by decide) ?_
          refine lv_aload_n hx hb dX12_needed_28 rfl (lv_at hl 0 rfl) ?_
          have i_12_0 : 0 ≤ (iv 12 0).toInt ∧ (iv 12 0).toInt ≤ 3000 := hI.1 12 0
          refine gM_12_0 hx hb ht hown hK hP m_1139 (v := (iv 12 0)) rfl dX12_needed_29 ?_
          have hFc := free_all hD hS hA
          refine va_calli (va_runV (As := [.int 2, .int (iv 12 0)]) (rest := []) ⟨hx, hb, hml, hown, ht⟩ (c_X12_forceOf l dC dI s.heap.size h g ca iv lv fa la hI 2 (iv 12 0) ⟨by decide, by decide⟩ hJC) (kV 2 ht m_1509 m_1511 m_55 m_89 m_1512 rfl rfl hd_X12_forceOf_v ⟨Nat.le_of_ble_eq_true rfl, Nat.le_of_ble_eq_true rfl⟩) (vW hP hK hD (rM_12 hK hP)) rfl rfl hl.1 rfl (lv_room (Nat.le_of_ble_eq_true rfl)) dX12_needed_32 ⟨Nat.le_of_ble_eq_true rfl, Nat.le_of_ble_eq_true rfl⟩) hS (fun q _ h => hFc q h) hFc (fun r6 u t H1 locs ht9 hvm hr6 hB hz1 hk1 hS => ?_)
          obtain ⟨n7, n8, n9, hn7, hn8, hn9, hr6, rfl⟩ := hr6
          have hn9 : 0 ≤ n9.toInt ∧ n9.toInt ≤ 8 := hn9
          obtain ⟨hP, hD⟩ := hB
          rw [ht9] at hP
          generalize H1 = H at hP hS ⊢
          have hP : va_P (dC, dI) classes (WM h g ca (u2 iv 12 41 n9) lv (u2 (u2 fa 12 39 n7) 12 40 n8) la) H := hP
          have hD : va_D A (WM h g ca (u2 iv 12 41 n9) lv (u2 (u2 fa 12 39 n7) 12 40 n8) la) := (show va_D _ (WM h g ca (u2 iv 12 41 n9) lv (u2 (u2 fa 12 39 n7) 12 40 n8) la) from hD).weaken (fun _ _ _ h => hFc _ h)
          refine lv_istore_n (lv' := [(3, .int r6), (0, .ref h), (1, .int a), (2, .int b)]) hx hb dX12_needed_35 rfl hl (by decide) rfl (fun ls hl => ?_)
          refine lv_iconst (v := 0) hx hb dX12_needed_36 (by decide) ?_
          refine lv_istore (lv' := [(4, .int 0), (3, .int r6), (0, .ref h), (1, .int a), (2, .int b)]) hx hb dX12_needed_37 hl (by decide) rfl (fun ls hl => ?_)
          refine lv_iconst (v := 0) hx hb dX12_needed_39 (by decide) ?_
          refine lv_istore (lv' := [(5, .int 0), (4, .int 0), (3, .int r6), (0, .ref h), (1, .int a), (2, .int b)]) hx hb dX12_needed_40 hl (by decide) rfl (fun ls hl => ?_)
          have lp1462 : ∀ (nn1462 : Nat) (x1461_5 : Int32) (x1461_4 : Int32) (w1461_a_12_50 : Nat → Int32), 0 ≤ x1461_5.toInt ∧ x1461_5.toInt ≤ 60 → 0 ≤ x1461_4.toInt ∧ x1461_4.toInt ≤ 12 → (∀ j, inb (bA 12 50 j) (w1461_a_12_50 j)) → ((x1461_4 : Int32).toInt ≤ ((cn0 (fa 12 4) (fa 12 5) a 0 ((x1461_5 : Int32).toInt).toNat : Nat) : Int)) → 60 - x1461_5.toInt < (nn1462 : Int) → ∀ (H : Heap) (locs : List Loc), ∀ (ls : Array Slot), va_P (dC, dI) classes (WM h g ca (u2 iv 12 41 n9) lv (u2 (u2 (u2 fa 12 39 n7) 12 40 n8) 12 50 w1461_a_12_50) la) H → va_D A (WM h g ca (u2 iv 12 41 n9) lv (u2 (u2 (u2 fa 12 39 n7) 12 40 n8) 12 50 w1461_a_12_50) la) → va_S A s.heap H locs → lv_has ls 7 [(5, .int x1461_5), (4, .int x1461_4), (3, .int r6), (0, .ref h), (1, .int a), (2, .int b)] → W p l e ({ frames := 3, cells := 0, slots := 0, locals := 81 } : Room) s m ([.ref h, .int a, .int b] : List Value).toArray below meth c H locs 0 0 (MQ below (va_Qi (fun r (u : SS) => ∃ (na_12_39 : Nat → Int32) (na_12_40 : Nat → Int32) (na_12_50 : Nat → Int32) (ni_12_19 : Int32) (ni_12_41 : Int32) (nl_12_17 : Int64) (nl_12_18 : Int64), (∀ j, inb (bA 12 39 j) (na_12_39 j)) ∧ (∀ j, inb (bA 12 40 j) (na_12_40 j)) ∧ (∀ j, inb (bA 12 50 j) (na_12_50 j)) ∧ inb (bI 12 41) ni_12_41 ∧ ((-100002) ≤ r.toInt ∧ r.toInt ≤ 12) ∧ u = ((u2 (u2 iv 12 19 ni_12_19) 12 41 ni_12_41), (u2 (u2 lv 12 17 nl_12_17) 12 18 nl_12_18), (u2 (u2 (u2 fa 12 39 na_12_39) 12 40 na_12_40) 12 50 na_12_50), la)) (bM (dC, dI) h g ca A) A) ([.ref h, .int a, .int b] : List Value).toArray s 0 0 A) (F0 m 42 ls []) := by
            intro nn1462
            induction nn1462 with
            | zero => intro x1461_5 x1461_4 w1461_a_12_50 hx1461_5 hx1461_4 hw1461_a_12_50 hq1462_0 hm1462; exfalso; omega
            | succ nn1462 ih1462 =>
              intro x1461_5 x1461_4 w1461_a_12_50 hx1461_5 hx1461_4 hw1461_a_12_50 hq1462_0 hm1462 H locs ls hP hD hS hl
              refine lv_iload hx hb dX12_needed_42 (lv_at hl 0 rfl) ?_
              refine lv_aload_n hx hb dX12_needed_44 rfl (lv_at hl 3 rfl) ?_
              have i_12_3 : 0 ≤ (iv 12 3).toInt ∧ (iv 12 3).toInt ≤ 60 := hI.1 12 3
              refine gM_12_3 hx hb ht hown hK hP m_1142 (v := (iv 12 3)) rfl dX12_needed_45 ?_
              refine lv_icmp_ge (tgt := 103) hx hb dX12_needed_48 (by decide) (fun c1463 => ?_) (fun c1463 => ?_)
              · have fc1463 := z_le (rfl : ((iv 12 3)).toInt = _) (rfl : (x1461_5).toInt = _) c1463
                refine lv_aload_n hx hb dX12_needed_103 rfl (lv_at hl 3 rfl) ?_
                refine lv_iload_n hx hb dX12_needed_104 rfl (lv_at hl 4 rfl) ?_
                refine lv_iconst (v := 0) hx hb dX12_needed_105 (by decide) ?_
                refine lv_aload_n hx hb dX12_needed_106 rfl (lv_at hl 3 rfl) ?_
                refine gM_12_0 hx hb ht hown hK hP m_1139 (v := (iv 12 0)) rfl dX12_needed_107 ?_
                have hFc := free_all hD hS hA
                refine va_calli (va_runV (As := [.int a, .int 0, .int (iv 12 0)]) (rest := []) ⟨hx, hb, hml, hown, ht⟩ (c_X12_sumUp_x l dC dI H.size h g ca (u2 iv 12 41 n9) lv (u2 (u2 (u2 fa 12 39 n7) 12 40 n8) 12 50 w1461_a_12_50) la (IX_a (c := 12) (k := 50) (IX_a (c := 12) (k := 40) (IX_a (c := 12) (k := 39) (IX_i (c := 12) (k := 41) hI (show inb (0, 8) n9 from ⟨by omega, by omega⟩)) hn7) hn8) hw1461_a_12_50) a 0 (iv 12 0) hJR) (kV 3 ht m_1434 m_1436 m_45 m_89 m_1437 rfl rfl hd_X12_sumUp_v ⟨Nat.le_of_ble_eq_true rfl, Nat.le_of_ble_eq_true rfl⟩) (vW hP hK hD (rM_12 hK hP)) rfl rfl hl.1 rfl (lv_room (Nat.le_of_ble_eq_true rfl)) dX12_needed_110 ⟨Nat.le_of_ble_eq_true rfl, Nat.le_of_ble_eq_true rfl⟩) hS (fun q _ h => hFc q h) hFc (fun r1464 u t H1 locs ht9 hvm hr1464 hB hz1 hk1 hS => ?_)
                obtain ⟨n1465, n1466, n1467, xr1464_0, xr1464_1, xr1464_2, xr1464_3, xr1464_4, hr1464, rfl⟩ := hr1464
                obtain ⟨hP, hD⟩ := hB
                rw [ht9] at hP
                generalize H1 = H at hP hS ⊢
                have hP : va_P (dC, dI) classes (WM h g ca (u2 (u2 iv 12 41 n9) 12 19 n1465) (u2 (u2 lv 12 17 n1466) 12 18 n1467) (u2 (u2 (u2 fa 12 39 n7) 12 40 n8) 12 50 w1461_a_12_50) la) H := hP
                have hD : va_D A (WM h g ca (u2 (u2 iv 12 41 n9) 12 19 n1465) (u2 (u2 lv 12 17 n1466) 12 18 n1467) (u2 (u2 (u2 fa 12 39 n7) 12 40 n8) 12 50 w1461_a_12_50) la) := (show va_D _ (WM h g ca (u2 (u2 iv 12 41 n9) 12 19 n1465) (u2 (u2 lv 12 17 n1466) 12 18 n1467) (u2 (u2 (u2 fa 12 39 n7) 12 40 n8) 12 50 w1461_a_12_50) la) from hD).weaken (fun _ _ _ h => hFc _ h)
                have xr1464_0 : 0 ≤ (r1464 : Int32).toInt := xr1464_0
                have xr1464_1 : (r1464 : Int32).toInt ≤ 60 := xr1464_1
                have xr1464_2 : 0 ≤ (n1467 : Int64).toInt := xr1464_2
                have xr1464_3 : (n1467 : Int64).toInt ≤ 599940 := xr1464_3
                have xr1464_4 : 100 * (r1464 : Int32).toInt ≤ (n1467 : Int64).toInt := xr1464_4
                refine lv_istore (lv' := [(5, .int r1464), (4, .int x1461_4), (3, .int r6), (0, .ref h), (1, .int a), (2, .int b)]) hx hb dX12_needed_113 hl (by decide) rfl (fun ls hl => ?_)
                refine lv_iconst (v := 2) hx hb dX12_needed_115 (by decide) ?_
                refine lv_istore (lv' := [(6, .int 2), (5, .int r1464), (4, .int x1461_4), (3, .int r6), (0, .ref h), (1, .int a), (2, .int b)]) hx hb dX12_needed_116 hl (by decide) rfl (fun ls hl => ?_)
                have lp1529 : ∀ (nn1529 : Nat) (x1528_6 : Int32), 2 ≤ x1528_6.toInt ∧ x1528_6.toInt ≤ 13 → 13 - x1528_6.toInt < (nn1529 : Int) → ∀ (H : Heap) (locs : List Loc), ∀ (ls : Array Slot), va_P (dC, dI) classes (WM h g ca (u2 (u2 iv 12 41 n9) 12 19 n1465) (u2 (u2 lv 12 17 n1466) 12 18 n1467) (u2 (u2 (u2 fa 12 39 n7) 12 40 n8) 12 50 w1461_a_12_50) la) H → va_D A (WM h g ca (u2 (u2 iv 12 41 n9) 12 19 n1465) (u2 (u2 lv 12 17 n1466) 12 18 n1467) (u2 (u2 (u2 fa 12 39 n7) 12 40 n8) 12 50 w1461_a_12_50) la) → va_S A s.heap H locs → lv_has ls 7 [(6, .int x1528_6), (5, .int r1464), (4, .int x1461_4), (3, .int r6), (0, .ref h), (1, .int a), (2, .int b)] → W p l e ({ frames := 3, cells := 0, slots := 0, locals := 81 } : Room) s m ([.ref h, .int a, .int b] : List Value).toArray below meth c H locs 0 0 (MQ below (va_Qi (fun r (u : SS) => ∃ (na_12_39 : Nat → Int32) (na_12_40 : Nat → Int32) (na_12_50 : Nat → Int32) (ni_12_19 : Int32) (ni_12_41 : Int32) (nl_12_17 : Int64) (nl_12_18 : Int64), (∀ j, inb (bA 12 39 j) (na_12_39 j)) ∧ (∀ j, inb (bA 12 40 j) (na_12_40 j)) ∧ (∀ j, inb (bA 12 50 j) (na_12_50 j)) ∧ inb (bI 12 41) ni_12_41 ∧ ((-100002) ≤ r.toInt ∧ r.toInt ≤ 12) ∧ u = ((u2 (u2 iv 12 19 ni_12_19) 12 41 ni_12_41), (u2 (u2 lv 12 17 nl_12_17) 12 18 nl_12_18), (u2 (u2 (u2 fa 12 39 na_12_39) 12 40 na_12_40) 12 50 na_12_50), la)) (bM (dC, dI) h g ca A) A) ([.ref h, .int a, .int b] : List Value).toArray s 0 0 A) (F0 m 118 ls []) := by
                  intro nn1529
                  induction nn1529 with
                  | zero => intro x1528_6 hx1528_6 hm1529; exfalso; omega
                  | succ nn1529 ih1529 =>
                    intro x1528_6 hx1528_6 hm1529 H locs ls hP hD hS hl
                    refine lv_iload hx hb dX12_needed_118 (lv_at hl 0 rfl) ?_
                    refine lv_iload hx hb dX12_needed_120 (lv_at hl 2 rfl) ?_
                    refine lv_icmp_gt (tgt := 147) hx hb dX12_needed_122 (by decide) (fun c1530 => ?_) (fun c1530 => ?_)
                    · have fc1530 := z_lt (rfl : (x1461_4).toInt = _) (rfl : (x1528_6).toInt = _) c1530
                      refine lv_iconst (v := (-1)) hx hb dX12_needed_147 (by decide) ?_
                      have hP9 : va_P (dC, dI) classes (WM h g ca (u2 (u2 iv 12 19 n1465) 12 41 n9) (u2 (u2 lv 12 17 n1466) 12 18 n1467) (u2 (u2 (u2 fa 12 39 n7) 12 40 n8) 12 50 w1461_a_12_50) la) H := hP
                      have hD9 : va_D A (WM h g ca (u2 (u2 iv 12 19 n1465) 12 41 n9) (u2 (u2 lv 12 17 n1466) 12 18 n1467) (u2 (u2 (u2 fa 12 39 n7) 12 40 n8) 12 50 w1461_a_12_50) la) := hD
                      exact W.iret (v := (-1)) hx hb hr (fun t ht9 hW => ⟨⟨(-1), ((u2 (u2 iv 12 19 n1465) 12 41 n9), (u2 (u2 lv 12 17 n1466) 12 18 n1467), (u2 (u2 (u2 fa 12 39 n7) 12 40 n8) 12 50 w1461_a_12_50), la), rfl, ⟨n7, n8, w1461_a_12_50, n1465, n9, n1466, n1467, hn7, hn8, hw1461_a_12_50, (show inb (0, 8) n9 from ⟨by omega, by omega⟩), ⟨by decide, by decide⟩, rfl⟩, by rw [ht9]; exact hP9, hD9⟩, hS.F ht9⟩) hS.2.2 dX12_needed_148
                    · have fc1530 := z_nlt (rfl : (x1461_4).toInt = _) (rfl : (x1528_6).toInt = _) c1530
                      refine lv_aload_n hx hb dX12_needed_125 rfl (lv_at hl 4 rfl) ?_
                      refine lv_iload hx hb dX12_needed_126 (lv_at hl 2 rfl) ?_
                      refine lv_iload hx hb dX12_needed_128 (lv_at hl 0 rfl) ?_
                      refine lv_iload_n hx hb dX12_needed_130 rfl (lv_at hl 3 rfl) ?_
                      refine lv_iload_n hx hb dX12_needed_131 rfl (lv_at hl 6 rfl) ?_
                      refine vp_callSi (W.runV (As := [.int x1461_4, .int x1528_6, .int r6, .int b]) (rest := []) ⟨hx, hb, hml, hown, ht⟩ (c_X12_isEnough l dC dI h g ca (u2 (u2 iv 12 41 n9) 12 19 n1465) (u2 (u2 lv 12 17 n1466) 12 18 n1467) (u2 (u2 (u2 fa 12 39 n7) 12 40 n8) 12 50 w1461_a_12_50) la (IX_a (c := 12) (k := 50) (IX_a (c := 12) (k := 40) (IX_a (c := 12) (k := 39) (IX_i (c := 12) (k := 19) (IX_i (c := 12) (k := 41) hI (show inb (0, 8) n9 from ⟨by omega, by omega⟩)) (full_i _)) hn7) hn8) hw1461_a_12_50) x1461_4 x1528_6 r6 b ⟨by omega, by omega⟩) (kV 4 ht m_1602 m_1604 m_68 m_89 m_1605 rfl rfl hd_X12_isEnough_v ⟨Nat.le_of_ble_eq_true rfl, Nat.le_of_ble_eq_true rfl⟩) (vR hP hK (rM_12 hK hP)) rfl rfl hl.1 rfl (lv_room (Nat.le_of_ble_eq_true rfl)) dX12_needed_132 ⟨Nat.le_of_ble_eq_true rfl, Nat.le_of_ble_eq_true rfl⟩) (fun r1531 hr1531 => ?_)
                      refine lv_if_eq (tgt := 141) hx hb dX12_needed_135 (by decide) (fun c1532 => ?_) (fun c1532 => ?_)
                      · have fc1532 := z_eq (rfl : (r1531).toInt = _) (by decide : (0 : Int32).toInt = 0) c1532
                        obtain ⟨v1533, ev1533⟩ : ∃ y : Int32, y = x1528_6 + 1 := ⟨_, rfl⟩
                        have tv1533 := z_add ev1533 rfl (by decide : (1 : Int32).toInt = 1) (by omega) (by omega)
                        refine lv_iinc (v := v1533) (lv' := [(6, .int v1533), (5, .int r1464), (4, .int x1461_4), (3, .int r6), (0, .ref h), (1, .int a), (2, .int b)]) hx hb dX12_needed_141 hl (k := 0) rfl (by rw [ev1533]; rfl) (by decide) rfl (fun ls hl => ?_)
                        refine lv_goto (tgt := 118) hx hb dX12_needed_144 (by decide) ?_
                        exact ih1529 v1533 ⟨by omega, by omega⟩ (by omega) _ _ ls hP hD hS (lv_sub hl [0, 1, 2, 3, 4, 5, 6] rfl)
                      · have fc1532 := z_ne (rfl : (r1531).toInt = _) (by decide : (0 : Int32).toInt = 0) c1532
                        refine lv_iload hx hb dX12_needed_138 (lv_at hl 0 rfl) ?_
                        have hP9 : va_P (dC, dI) classes (WM h g ca (u2 (u2 iv 12 19 n1465) 12 41 n9) (u2 (u2 lv 12 17 n1466) 12 18 n1467) (u2 (u2 (u2 fa 12 39 n7) 12 40 n8) 12 50 w1461_a_12_50) la) H := hP
                        have hD9 : va_D A (WM h g ca (u2 (u2 iv 12 19 n1465) 12 41 n9) (u2 (u2 lv 12 17 n1466) 12 18 n1467) (u2 (u2 (u2 fa 12 39 n7) 12 40 n8) 12 50 w1461_a_12_50) la) := hD
                        exact W.iret (v := x1528_6) hx hb hr (fun t ht9 hW => ⟨⟨x1528_6, ((u2 (u2 iv 12 19 n1465) 12 41 n9), (u2 (u2 lv 12 17 n1466) 12 18 n1467), (u2 (u2 (u2 fa 12 39 n7) 12 40 n8) 12 50 w1461_a_12_50), la), rfl, ⟨n7, n8, w1461_a_12_50, n1465, n9, n1466, n1467, hn7, hn8, hw1461_a_12_50, (show inb (0, 8) n9 from ⟨by omega, by omega⟩), ⟨by omega, by omega⟩, rfl⟩, by rw [ht9]; exact hP9, hD9⟩, hS.F ht9⟩) hS.2.2 dX12_needed_140
                exact lp1529 12 2 ⟨by decide, by decide⟩ (by first | decide | omega) _ _ ls hP hD hS (lv_sub hl [0, 1, 2, 3, 4, 5, 6] rfl)
              · have fc1463 := z_nle (rfl : ((iv 12 3)).toInt = _) (rfl : (x1461_5).toInt = _) c1463
                refine lv_aload_n hx hb dX12_needed_51 rfl (lv_at hl 3 rfl) ?_
                refine gM_12_4 hx hb ht hown hK hP m_1143 dX12_needed_52 ?_
                refine lv_iload hx hb dX12_needed_55 (lv_at hl 0 rfl) ?_
                refine lM_12_4 hx hb hK hP (f := (fa 12 4)) rfl (vp_in_iff.mpr ⟨by omega, by omega⟩) dX12_needed_57 ?_
                refine lv_topi (fun v1534 ev1534 => ?_)
                refine lv_iload_n hx hb dX12_needed_58 rfl (lv_at hl 4 rfl) ?_
                refine lv_icmp_ne (tgt := 97) hx hb dX12_needed_59 (by decide) (fun c1535 => ?_) (fun c1535 => ?_)
                · have fc1535 := z_ne (rfl : (v1534).toInt = _) (rfl : (a).toInt = _) c1535
                  obtain ⟨v1536, ev1536⟩ : ∃ y : Int32, y = x1461_5 + 1 := ⟨_, rfl⟩
                  have tv1536 := z_add ev1536 rfl (by decide : (1 : Int32).toInt = 1) (by omega) (by omega)
                  refine lv_iinc (v := v1536) (lv' := [(5, .int v1536), (4, .int x1461_4), (3, .int r6), (0, .ref h), (1, .int a), (2, .int b)]) hx hb dX12_needed_97 hl (k := 0) rfl (by rw [ev1536]; rfl) (by decide) rfl (fun ls hl => ?_)
                  refine lv_goto (tgt := 42) hx hb dX12_needed_100 (by decide) ?_
                  exact ih1462 v1536 x1461_4 w1461_a_12_50 ⟨by omega, by omega⟩ ⟨by omega, by omega⟩ hw1461_a_12_50 (show (x1461_4 : Int32).toInt ≤ ((cn0 (fa 12 4) (fa 12 5) a 0 ((v1536 : Int32).toInt).toNat : Nat) : Int) from (by have hc := cn0_le (ob := fa 12 4) (ol := fa 12 5) (b := a) (l := 0) (s := x1461_5) (s' := v1536) (by omega) (by omega); have hq9 := hq1462_0; omega)) (by omega) _ _ ls hP hD hS (lv_sub hl [0, 1, 2, 3, 4, 5] rfl)
                · have fc1535 := z_eq (rfl : (v1534).toInt = _) (rfl : (a).toInt = _) c1535
                  refine lv_aload_n hx hb dX12_needed_62 rfl (lv_at hl 3 rfl) ?_
                  refine gM_12_5 hx hb ht hown hK hP m_1144 dX12_needed_63 ?_
                  refine lv_iload hx hb dX12_needed_66 (lv_at hl 0 rfl) ?_
                  refine lM_12_5 hx hb hK hP (f := (fa 12 5)) rfl (vp_in_iff.mpr ⟨by omega, by omega⟩) dX12_needed_68 ?_
                  refine lv_topi (fun v1537 ev1537 => ?_)
                  refine lv_if_ne (tgt := 97) hx hb dX12_needed_69 (by decide) (fun c1538 => ?_) (fun c1538 => ?_)
                  · have fc1538 := z_ne (rfl : (v1537).toInt = _) (by decide : (0 : Int32).toInt = 0) c1538
                    obtain ⟨v1539, ev1539⟩ : ∃ y : Int32, y = x1461_5 + 1 := ⟨_, rfl⟩
                    have tv1539 := z_add ev1539 rfl (by decide : (1 : Int32).toInt = 1) (by omega) (by omega)
                    refine lv_iinc (v := v1539) (lv' := [(5, .int v1539), (4, .int x1461_4), (3, .int r6), (0, .ref h), (1, .int a), (2, .int b)]) hx hb dX12_needed_97 hl (k := 0) rfl (by rw [ev1539]; rfl) (by decide) rfl (fun ls hl => ?_)
                    refine lv_goto (tgt := 42) hx hb dX12_needed_100 (by decide) ?_
                    exact ih1462 v1539 x1461_4 w1461_a_12_50 ⟨by omega, by omega⟩ ⟨by omega, by omega⟩ hw1461_a_12_50 (show (x1461_4 : Int32).toInt ≤ ((cn0 (fa 12 4) (fa 12 5) a 0 ((v1539 : Int32).toInt).toNat : Nat) : Int) from (by have hc := cn0_le (ob := fa 12 4) (ol := fa 12 5) (b := a) (l := 0) (s := x1461_5) (s' := v1539) (by omega) (by omega); have hq9 := hq1462_0; omega)) (by omega) _ _ ls hP hD hS (lv_sub hl [0, 1, 2, 3, 4, 5] rfl)
                  · have fc1538 := z_eq (rfl : (v1537).toInt = _) (by decide : (0 : Int32).toInt = 0) c1538
                    refine lv_aload_n hx hb dX12_needed_72 rfl (lv_at hl 3 rfl) ?_
                    refine lv_iload hx hb dX12_needed_73 (lv_at hl 0 rfl) ?_
                    refine lv_aload_n hx hb dX12_needed_75 rfl (lv_at hl 3 rfl) ?_
                    refine gM_12_0 hx hb ht hown hK hP m_1139 (v := (iv 12 0)) rfl dX12_needed_76 ?_
                    refine vp_callSi (W.runV (As := [.int x1461_5, .int (iv 12 0)]) (rest := []) ⟨hx, hb, hml, hown, ht⟩ (c_X12_isThere_x l dC dI h g ca (u2 iv 12 41 n9) lv (u2 (u2 (u2 fa 12 39 n7) 12 40 n8) 12 50 w1461_a_12_50) la (IX_a (c := 12) (k := 50) (IX_a (c := 12) (k := 40) (IX_a (c := 12) (k := 39) (IX_i (c := 12) (k := 41) hI (show inb (0, 8) n9 from ⟨by omega, by omega⟩)) hn7) hn8) hw1461_a_12_50) x1461_5 (iv 12 0) ⟨by omega, by omega⟩) (kV 2 ht m_1438 m_1440 m_46 m_89 m_1441 rfl rfl hd_X12_isThere_v ⟨Nat.le_of_ble_eq_true rfl, Nat.le_of_ble_eq_true rfl⟩) (vR hP hK (rM_12 hK hP)) rfl rfl hl.1 rfl (lv_room (Nat.le_of_ble_eq_true rfl)) dX12_needed_79 ⟨Nat.le_of_ble_eq_true rfl, Nat.le_of_ble_eq_true rfl⟩) (fun r1540 hr1540 => ?_)
                    obtain ⟨hr1540, xr1540_0⟩ := hr1540
                    have xr1540_0 : (((r1540 : Int32).toInt = 1 ∧ ((fa 12 11) (x1461_5 : Int32).toNatClampNeg).toInt ≤ ((iv 12 0) : Int32).toInt ∧ (((fa 12 12) (x1461_5 : Int32).toNatClampNeg).toInt < 0 ∨ ((iv 12 0) : Int32).toInt < ((fa 12 12) (x1461_5 : Int32).toNatClampNeg).toInt)) ∨ ((r1540 : Int32).toInt = 0 ∧ ¬ (((fa 12 11) (x1461_5 : Int32).toNatClampNeg).toInt ≤ ((iv 12 0) : Int32).toInt ∧ (((fa 12 12) (x1461_5 : Int32).toNatClampNeg).toInt < 0 ∨ ((iv 12 0) : Int32).toInt < ((fa 12 12) (x1461_5 : Int32).toNatClampNeg).toInt)))) := xr1540_0
                    refine lv_if_eq (tgt := 97) hx hb dX12_needed_82 (by decide) (fun c1541 => ?_) (fun c1541 => ?_)
                    · have fc1541 := z_eq (rfl : (r1540).toInt = _) (by decide : (0 : Int32).toInt = 0) c1541
                      obtain ⟨v1542, ev1542⟩ : ∃ y : Int32, y = x1461_5 + 1 := ⟨_, rfl⟩
                      have tv1542 := z_add ev1542 rfl (by decide : (1 : Int32).toInt = 1) (by omega) (by omega)
                      refine lv_iinc (v := v1542) (lv' := [(5, .int v1542), (4, .int x1461_4), (3, .int r6), (0, .ref h), (1, .int a), (2, .int b)]) hx hb dX12_needed_97 hl (k := 0) rfl (by rw [ev1542]; rfl) (by decide) rfl (fun ls hl => ?_)
                      refine lv_goto (tgt := 42) hx hb dX12_needed_100 (by decide) ?_
                      exact ih1462 v1542 x1461_4 w1461_a_12_50 ⟨by omega, by omega⟩ ⟨by omega, by omega⟩ hw1461_a_12_50 (show (x1461_4 : Int32).toInt ≤ ((cn0 (fa 12 4) (fa 12 5) a 0 ((v1542 : Int32).toInt).toNat : Nat) : Int) from (by have hc := cn0_le (ob := fa 12 4) (ol := fa 12 5) (b := a) (l := 0) (s := x1461_5) (s' := v1542) (by omega) (by omega); have hq9 := hq1462_0; omega)) (by omega) _ _ ls hP hD hS (lv_sub hl [0, 1, 2, 3, 4, 5] rfl)
                    · have fc1541 := z_ne (rfl : (r1540).toInt = _) (by decide : (0 : Int32).toInt = 0) c1541
                      refine lv_aload_n hx hb dX12_needed_85 rfl (lv_at hl 3 rfl) ?_
                      refine gM_12_50 hx hb ht hown hK hP m_1189 dX12_needed_86 ?_
                      refine lv_iload hx hb dX12_needed_89 (lv_at hl 1 rfl) ?_
                      refine lv_iload hx hb dX12_needed_91 (lv_at hl 0 rfl) ?_
                      have hc9 := cn0_mono (ob := fa 12 4) (ol := fa 12 5) (b := a) (l := 0) (m := (x1461_5 : Int32).toInt.toNat + 1) (iv 12 3).toInt.toNat (by omega)
                      have hd9 := hJN a 0
                      have he9 : cn0 (fa 12 4) (fa 12 5) a 0 ((x1461_5 : Int32).toInt.toNat + 1) = cn0 (fa 12 4) (fa 12 5) a 0 (x1461_5 : Int32).toInt.toNat + 1 := by
                        have hx8 := cn0_step (ob := fa 12 4) (ol := fa 12 5) (b := a) (l := 0) (s := x1461_5) (s' := x1461_5 + 1) (z_add rfl rfl (by decide : (1 : Int32).toInt = 1) (by omega) (by omega)) (by omega) ev1534 ev1537
                        have hz : (0 : Int32).toInt = 0 := by decide
                        have hz2 : ((x1461_5 : Int32) + 1).toInt = (x1461_5 : Int32).toInt + 1 := z_add rfl rfl (by decide : (1 : Int32).toInt = 1) (by omega) (by omega)
                        have hz3 : ((x1461_5 : Int32) + 1).toInt.toNat = (x1461_5 : Int32).toInt.toNat + 1 := by omega
                        rw [hz3, if_pos ⟨by omega, by omega⟩] at hx8
                        exact hx8
                      have : 0 ≤ (x1461_4 : Int32).toInt ∧ (x1461_4 : Int32).toInt ≤ 11 := ⟨by omega, by omega⟩
                      refine tM_12_50 hx hb hK hP hD hS (f0 := w1461_a_12_50) rfl (i := x1461_4) (x := x1461_5) (vp_in_iff.mpr ⟨by omega, by omega⟩) dX12_needed_93 (fun f1543 ef1543 H locs hP hD hS => ?_)
                      have hf1543 : ∀ j, inb (bA 12 50 j) (f1543 j) := by rw [ef1543]; exact upd_b (b := bA 12 50) hw1461_a_12_50 (show inb (0, 59) x1461_5 from ⟨by omega, by omega⟩)
                      have hP : va_P (dC, dI) classes (WM h g ca (u2 iv 12 41 n9) lv (u2 (u2 (u2 fa 12 39 n7) 12 40 n8) 12 50 f1543) la) H := hP
                      have hD : va_D A (WM h g ca (u2 iv 12 41 n9) lv (u2 (u2 (u2 fa 12 39 n7) 12 40 n8) 12 50 f1543) la) := hD
                      obtain ⟨v1544, ev1544⟩ : ∃ y : Int32, y = x1461_4 + 1 := ⟨_, rfl⟩
                      have tv1544 := z_add ev1544 rfl (by decide : (1 : Int32).toInt = 1) (by omega) (by omega)
                      refine lv_iinc (v := v1544) (lv' := [(4, .int v1544), (5, .int x1461_5), (3, .int r6), (0, .ref h), (1, .int a), (2, .int b)]) hx hb dX12_needed_94 hl (k := 1) rfl (by rw [ev1544]; rfl) (by decide) rfl (fun ls hl => ?_)
                      obtain ⟨v1545, ev1545⟩ : ∃ y : Int32, y = x1461_5 + 1 := ⟨_, rfl⟩
                      have tv1545 := z_add ev1545 rfl (by decide : (1 : Int32).toInt = 1) (by omega) (by omega)
                      refine lv_iinc (v := v1545) (lv' := [(5, .int v1545), (4, .int v1544), (3, .int r6), (0, .ref h), (1, .int a), (2, .int b)]) hx hb dX12_needed_97 hl (k := 1) rfl (by rw [ev1545]; rfl) (by decide) rfl (fun ls hl => ?_)
                      refine lv_goto (tgt := 42) hx hb dX12_needed_100 (by decide) ?_
                      exact ih1462 v1545 v1544 f1543 ⟨by omega, by omega⟩ ⟨by omega, by omega⟩ hf1543 (show (v1544 : Int32).toInt ≤ ((cn0 (fa 12 4) (fa 12 5) a 0 ((v1545 : Int32).toInt).toNat : Nat) : Int) from (by have hf9 : (v1545 : Int32).toInt.toNat = (x1461_5 : Int32).toInt.toNat + 1 := (by omega); rw [hf9, he9]; have hq9 := hq1462_0; omega)) (by omega) _ _ ls hP hD hS (lv_sub hl [0, 1, 2, 3, 4, 5] rfl)
          have : (0 : Int32).toInt = 0 := (by decide)
          exact lp1462 61 0 0 (fa 12 50) ⟨by decide, by decide⟩ ⟨by decide, by decide⟩ (hI.2 12 50) (show (0 : Int32).toInt ≤ ((cn0 (fa 12 4) (fa 12 5) a 0 ((0 : Int32).toInt).toNat : Nat) : Int) from by show _ ≤ ((0 : Nat) : Int); omega) (by first | decide | omega) _ _ ls hP hD hS (lv_sub hl [0, 1, 2, 3, 4, 5] rfl)
        · exact absurd c5 (by decide)
      · skip
        refine lv_if_ne (tgt := 26) hx hb dX12_needed_20 (by decide) (fun c1546 => ?_) (fun c1546 => ?_)
        · exact absurd rfl c1546
        · skip
          refine lv_ldc hx hb hown (ht _ m_1373) dX12_needed_23 ?_
          have hP9 : va_P (dC, dI) classes (WM h g ca (u2 (u2 iv 12 19 (iv 12 19)) 12 41 (iv 12 41)) (u2 (u2 lv 12 17 (lv 12 17)) 12 18 (lv 12 18)) (u2 (u2 (u2 fa 12 39 (fa 12 39)) 12 40 (fa 12 40)) 12 50 (fa 12 50)) la) s.heap := hP
          have hD9 : va_D A (WM h g ca (u2 (u2 iv 12 19 (iv 12 19)) 12 41 (iv 12 41)) (u2 (u2 lv 12 17 (lv 12 17)) 12 18 (lv 12 18)) (u2 (u2 (u2 fa 12 39 (fa 12 39)) 12 40 (fa 12 40)) 12 50 (fa 12 50)) la) := hD
          exact W.iret (v := (-100002)) hx hb hr (fun t ht9 hW => ⟨⟨(-100002), ((u2 (u2 iv 12 19 (iv 12 19)) 12 41 (iv 12 41)), (u2 (u2 lv 12 17 (lv 12 17)) 12 18 (lv 12 18)), (u2 (u2 (u2 fa 12 39 (fa 12 39)) 12 40 (fa 12 40)) 12 50 (fa 12 50)), la), rfl, ⟨(fa 12 39), (fa 12 40), (fa 12 50), (iv 12 19), (iv 12 41), (lv 12 17), (lv 12 18), (hI.2 12 39), (hI.2 12 40), (hI.2 12 50), (hI.1 12 41), ⟨by decide, by decide⟩, rfl⟩, by rw [ht9]; exact hP9, hD9⟩, hS.F ht9⟩) hS.2.2 dX12_needed_25
    · exact absurd rfl c3
