/-! ===== n8 ===== -/
set_option maxRecDepth 100000 in
theorem m_60 : Cond.selects RX12 yX12_isLess yX12_isLess ∈ tb := tb_in 60 (by decide +kernel) rfl
set_option maxRecDepth 100000 in
theorem m_62 : Cond.selects RX12 yX12_settleThree yX12_settleThree ∈ tb := tb_in 62 (by decide +kernel) rfl
theorem m_1544 : Cond.methodLink RX12 344 yX12_isLess ∈ tb := mb_7_1 _ (List.mem_of_getElem? (i := 1) rfl)
theorem m_1546 : Cond.instanceMethod yX12_isLess ∈ tb := mb_7_1 _ (List.mem_of_getElem? (i := 2) rfl)
theorem m_1547 : Cond.code yX12_isLess cX12_isLess 3 (some .boolean) ∈ tb := mb_7_1 _ (List.mem_of_getElem? (i := 3) rfl)
theorem m_1552 : Cond.methodLink RX12 347 yX12_settleThree ∈ tb := mb_7_1 _ (List.mem_of_getElem? (i := 7) rfl)
theorem m_1554 : Cond.instanceMethod yX12_settleThree ∈ tb := mb_7_1 _ (List.mem_of_getElem? (i := 8) rfl)
theorem m_1555 : Cond.code yX12_settleThree cX12_settleThree 14 none ∈ tb := mb_7_1 _ (List.mem_of_getElem? (i := 9) rfl)
theorem hd_X12_isLess_v : yX12_isLess.cls = RX12 ∧ yX12_isLess.cls ≠ "java/lang/invoke/MethodHandle" ∧ yX12_isLess.cls ≠ "java/lang/invoke/VarHandle" ∧ (parseMethodDescriptor yX12_isLess.desc).map (fun d => d.parameters.length) = some 2 := by decide +kernel
theorem hd_X12_settleThree_v : yX12_settleThree.cls = RX12 ∧ yX12_settleThree.cls ≠ "java/lang/invoke/MethodHandle" ∧ yX12_settleThree.cls ≠ "java/lang/invoke/VarHandle" ∧ (parseMethodDescriptor yX12_settleThree.desc).map (fun d => d.parameters.length) = some 1 := by decide +kernel
set_option maxRecDepth 100000 in
theorem dvX12_stateOf_0 : ([(0, .aload_n 0, 1), (1, .iconst 1, 1), (2, .iload_n 2, 1), (3, .invokevirtual 325, 3), (6, .istore_n 3, 1), (7, .aload_n 0, 1), (8, .iconst 3, 1), (9, .iload_n 2, 1), (10, .invokevirtual 325, 3), (13, .istore 4, 2), (15, .aload_n 0, 1), (16, .iconst 5, 1), (17, .iload_n 2, 1), (18, .invokevirtual 325, 3), (21, .istore 5, 2), (23, .aload_n 0, 1), (24, .iconst 2, 1), (25, .iload_n 2, 1), (26, .invokevirtual 325, 3), (29, .istore 6, 2), (31, .iconst 0, 1), (32, .istore 7, 2), (34, .iconst 0, 1), (35, .istore 8, 2)] : List (Nat × Instr × Nat)).all (fun q => decide (decode cX12_stateOf q.1 = .ok (q.2.1, q.2.2))) = true := by decide +kernel
theorem dX12_stateOf_0 : decode cX12_stateOf 0 = .ok (.aload_n 0, 1) := all_at dvX12_stateOf_0 0 rfl
theorem dX12_stateOf_1 : decode cX12_stateOf 1 = .ok (.iconst 1, 1) := all_at dvX12_stateOf_0 1 rfl
theorem dX12_stateOf_2 : decode cX12_stateOf 2 = .ok (.iload_n 2, 1) := all_at dvX12_stateOf_0 2 rfl
theorem dX12_stateOf_3 : decode cX12_stateOf 3 = .ok (.invokevirtual 325, 3) := all_at dvX12_stateOf_0 3 rfl
theorem dX12_stateOf_6 : decode cX12_stateOf 6 = .ok (.istore_n 3, 1) := all_at dvX12_stateOf_0 4 rfl
theorem dX12_stateOf_7 : decode cX12_stateOf 7 = .ok (.aload_n 0, 1) := all_at dvX12_stateOf_0 5 rfl
theorem dX12_stateOf_8 : decode cX12_stateOf 8 = .ok (.iconst 3, 1) := all_at dvX12_stateOf_0 6 rfl
theorem dX12_stateOf_9 : decode cX12_stateOf 9 = .ok (.iload_n 2, 1) := all_at dvX12_stateOf_0 7 rfl
theorem dX12_stateOf_10 : decode cX12_stateOf 10 = .ok (.invokevirtual 325, 3) := all_at dvX12_stateOf_0 8 rfl
theorem dX12_stateOf_13 : decode cX12_stateOf 13 = .ok (.istore 4, 2) := all_at dvX12_stateOf_0 9 rfl
theorem dX12_stateOf_15 : decode cX12_stateOf 15 = .ok (.aload_n 0, 1) := all_at dvX12_stateOf_0 10 rfl
theorem dX12_stateOf_16 : decode cX12_stateOf 16 = .ok (.iconst 5, 1) := all_at dvX12_stateOf_0 11 rfl
theorem dX12_stateOf_17 : decode cX12_stateOf 17 = .ok (.iload_n 2, 1) := all_at dvX12_stateOf_0 12 rfl
theorem dX12_stateOf_18 : decode cX12_stateOf 18 = .ok (.invokevirtual 325, 3) := all_at dvX12_stateOf_0 13 rfl
theorem dX12_stateOf_21 : decode cX12_stateOf 21 = .ok (.istore 5, 2) := all_at dvX12_stateOf_0 14 rfl
theorem dX12_stateOf_23 : decode cX12_stateOf 23 = .ok (.aload_n 0, 1) := all_at dvX12_stateOf_0 15 rfl
theorem dX12_stateOf_24 : decode cX12_stateOf 24 = .ok (.iconst 2, 1) := all_at dvX12_stateOf_0 16 rfl
theorem dX12_stateOf_25 : decode cX12_stateOf 25 = .ok (.iload_n 2, 1) := all_at dvX12_stateOf_0 17 rfl
theorem dX12_stateOf_26 : decode cX12_stateOf 26 = .ok (.invokevirtual 325, 3) := all_at dvX12_stateOf_0 18 rfl
theorem dX12_stateOf_29 : decode cX12_stateOf 29 = .ok (.istore 6, 2) := all_at dvX12_stateOf_0 19 rfl
theorem dX12_stateOf_31 : decode cX12_stateOf 31 = .ok (.iconst 0, 1) := all_at dvX12_stateOf_0 20 rfl
theorem dX12_stateOf_32 : decode cX12_stateOf 32 = .ok (.istore 7, 2) := all_at dvX12_stateOf_0 21 rfl
theorem dX12_stateOf_34 : decode cX12_stateOf 34 = .ok (.iconst 0, 1) := all_at dvX12_stateOf_0 22 rfl
theorem dX12_stateOf_35 : decode cX12_stateOf 35 = .ok (.istore 8, 2) := all_at dvX12_stateOf_0 23 rfl
set_option maxRecDepth 100000 in
theorem dvX12_stateOf_37 : ([(37, .iload 8, 2), (39, .iconst 3, 1), (40, .if_icmp .ge 63, 3), (43, .aload_n 0, 1), (44, .iload_n 1, 1), (45, .iload 8, 2), (47, .iload_n 2, 1), (48, .invokevirtual 237, 3), (51, .istore 9, 2), (53, .aload_n 0, 1), (54, .getfield 96, 3), (57, .iload 8, 2), (59, .aload_n 0, 1), (60, .getfield 223, 3), (63, .lastore, 1), (64, .aload_n 0, 1), (65, .getfield 100, 3), (68, .iload 8, 2), (70, .aload_n 0, 1), (71, .getfield 227, 3), (74, .lastore, 1), (75, .iload 7, 2), (77, .iload 9, 2), (79, .iload_n 3, 1)] : List (Nat × Instr × Nat)).all (fun q => decide (decode cX12_stateOf q.1 = .ok (q.2.1, q.2.2))) = true := by decide +kernel
theorem dX12_stateOf_37 : decode cX12_stateOf 37 = .ok (.iload 8, 2) := all_at dvX12_stateOf_37 0 rfl
theorem dX12_stateOf_39 : decode cX12_stateOf 39 = .ok (.iconst 3, 1) := all_at dvX12_stateOf_37 1 rfl
theorem dX12_stateOf_40 : decode cX12_stateOf 40 = .ok (.if_icmp .ge 63, 3) := all_at dvX12_stateOf_37 2 rfl
theorem dX12_stateOf_43 : decode cX12_stateOf 43 = .ok (.aload_n 0, 1) := all_at dvX12_stateOf_37 3 rfl
theorem dX12_stateOf_44 : decode cX12_stateOf 44 = .ok (.iload_n 1, 1) := all_at dvX12_stateOf_37 4 rfl
theorem dX12_stateOf_45 : decode cX12_stateOf 45 = .ok (.iload 8, 2) := all_at dvX12_stateOf_37 5 rfl
theorem dX12_stateOf_47 : decode cX12_stateOf 47 = .ok (.iload_n 2, 1) := all_at dvX12_stateOf_37 6 rfl
theorem dX12_stateOf_48 : decode cX12_stateOf 48 = .ok (.invokevirtual 237, 3) := all_at dvX12_stateOf_37 7 rfl
theorem dX12_stateOf_51 : decode cX12_stateOf 51 = .ok (.istore 9, 2) := all_at dvX12_stateOf_37 8 rfl
theorem dX12_stateOf_53 : decode cX12_stateOf 53 = .ok (.aload_n 0, 1) := all_at dvX12_stateOf_37 9 rfl
theorem dX12_stateOf_54 : decode cX12_stateOf 54 = .ok (.getfield 96, 3) := all_at dvX12_stateOf_37 10 rfl
theorem dX12_stateOf_57 : decode cX12_stateOf 57 = .ok (.iload 8, 2) := all_at dvX12_stateOf_37 11 rfl
theorem dX12_stateOf_59 : decode cX12_stateOf 59 = .ok (.aload_n 0, 1) := all_at dvX12_stateOf_37 12 rfl
theorem dX12_stateOf_60 : decode cX12_stateOf 60 = .ok (.getfield 223, 3) := all_at dvX12_stateOf_37 13 rfl
theorem dX12_stateOf_63 : decode cX12_stateOf 63 = .ok (.lastore, 1) := all_at dvX12_stateOf_37 14 rfl
theorem dX12_stateOf_64 : decode cX12_stateOf 64 = .ok (.aload_n 0, 1) := all_at dvX12_stateOf_37 15 rfl
theorem dX12_stateOf_65 : decode cX12_stateOf 65 = .ok (.getfield 100, 3) := all_at dvX12_stateOf_37 16 rfl
theorem dX12_stateOf_68 : decode cX12_stateOf 68 = .ok (.iload 8, 2) := all_at dvX12_stateOf_37 17 rfl
theorem dX12_stateOf_70 : decode cX12_stateOf 70 = .ok (.aload_n 0, 1) := all_at dvX12_stateOf_37 18 rfl
theorem dX12_stateOf_71 : decode cX12_stateOf 71 = .ok (.getfield 227, 3) := all_at dvX12_stateOf_37 19 rfl
theorem dX12_stateOf_74 : decode cX12_stateOf 74 = .ok (.lastore, 1) := all_at dvX12_stateOf_37 20 rfl
theorem dX12_stateOf_75 : decode cX12_stateOf 75 = .ok (.iload 7, 2) := all_at dvX12_stateOf_37 21 rfl
theorem dX12_stateOf_77 : decode cX12_stateOf 77 = .ok (.iload 9, 2) := all_at dvX12_stateOf_37 22 rfl
theorem dX12_stateOf_79 : decode cX12_stateOf 79 = .ok (.iload_n 3, 1) := all_at dvX12_stateOf_37 23 rfl
set_option maxRecDepth 100000 in
theorem dvX12_stateOf_80 : ([(80, .if_icmp .lt 7, 3), (83, .iconst 1, 1), (84, .goto 4, 3), (87, .iconst 0, 1), (88, .invokestatic 203, 3), (91, .iload 8, 2), (93, .ishl, 1), (94, .ior, 1), (95, .istore 7, 2), (97, .iinc 8 1, 3), (100, .goto (-63), 3), (103, .iload 4, 2), (105, .iconst 1, 1), (106, .if_icmp .ne 13, 3), (109, .aload_n 0, 1), (110, .iconst 0, 1), (111, .invokevirtual 337, 3), (114, .iload 7, 2), (116, .iconst 1, 1), (117, .iand, 1), (118, .ireturn, 1), (119, .iload 7, 2), (121, .iconst 3, 1), (122, .iand, 1)] : List (Nat × Instr × Nat)).all (fun q => decide (decode cX12_stateOf q.1 = .ok (q.2.1, q.2.2))) = true := by decide +kernel
theorem dX12_stateOf_80 : decode cX12_stateOf 80 = .ok (.if_icmp .lt 7, 3) := all_at dvX12_stateOf_80 0 rfl
theorem dX12_stateOf_83 : decode cX12_stateOf 83 = .ok (.iconst 1, 1) := all_at dvX12_stateOf_80 1 rfl
theorem dX12_stateOf_84 : decode cX12_stateOf 84 = .ok (.goto 4, 3) := all_at dvX12_stateOf_80 2 rfl
theorem dX12_stateOf_87 : decode cX12_stateOf 87 = .ok (.iconst 0, 1) := all_at dvX12_stateOf_80 3 rfl
theorem dX12_stateOf_88 : decode cX12_stateOf 88 = .ok (.invokestatic 203, 3) := all_at dvX12_stateOf_80 4 rfl
theorem dX12_stateOf_91 : decode cX12_stateOf 91 = .ok (.iload 8, 2) := all_at dvX12_stateOf_80 5 rfl
theorem dX12_stateOf_93 : decode cX12_stateOf 93 = .ok (.ishl, 1) := all_at dvX12_stateOf_80 6 rfl
theorem dX12_stateOf_94 : decode cX12_stateOf 94 = .ok (.ior, 1) := all_at dvX12_stateOf_80 7 rfl
theorem dX12_stateOf_95 : decode cX12_stateOf 95 = .ok (.istore 7, 2) := all_at dvX12_stateOf_80 8 rfl
theorem dX12_stateOf_97 : decode cX12_stateOf 97 = .ok (.iinc 8 1, 3) := all_at dvX12_stateOf_80 9 rfl
theorem dX12_stateOf_100 : decode cX12_stateOf 100 = .ok (.goto (-63), 3) := all_at dvX12_stateOf_80 10 rfl
theorem dX12_stateOf_103 : decode cX12_stateOf 103 = .ok (.iload 4, 2) := all_at dvX12_stateOf_80 11 rfl
theorem dX12_stateOf_105 : decode cX12_stateOf 105 = .ok (.iconst 1, 1) := all_at dvX12_stateOf_80 12 rfl
theorem dX12_stateOf_106 : decode cX12_stateOf 106 = .ok (.if_icmp .ne 13, 3) := all_at dvX12_stateOf_80 13 rfl
theorem dX12_stateOf_109 : decode cX12_stateOf 109 = .ok (.aload_n 0, 1) := all_at dvX12_stateOf_80 14 rfl
theorem dX12_stateOf_110 : decode cX12_stateOf 110 = .ok (.iconst 0, 1) := all_at dvX12_stateOf_80 15 rfl
theorem dX12_stateOf_111 : decode cX12_stateOf 111 = .ok (.invokevirtual 337, 3) := all_at dvX12_stateOf_80 16 rfl
theorem dX12_stateOf_114 : decode cX12_stateOf 114 = .ok (.iload 7, 2) := all_at dvX12_stateOf_80 17 rfl
theorem dX12_stateOf_116 : decode cX12_stateOf 116 = .ok (.iconst 1, 1) := all_at dvX12_stateOf_80 18 rfl
theorem dX12_stateOf_117 : decode cX12_stateOf 117 = .ok (.iand, 1) := all_at dvX12_stateOf_80 19 rfl
theorem dX12_stateOf_118 : decode cX12_stateOf 118 = .ok (.ireturn, 1) := all_at dvX12_stateOf_80 20 rfl
theorem dX12_stateOf_119 : decode cX12_stateOf 119 = .ok (.iload 7, 2) := all_at dvX12_stateOf_80 21 rfl
theorem dX12_stateOf_121 : decode cX12_stateOf 121 = .ok (.iconst 3, 1) := all_at dvX12_stateOf_80 22 rfl
theorem dX12_stateOf_122 : decode cX12_stateOf 122 = .ok (.iand, 1) := all_at dvX12_stateOf_80 23 rfl
set_option maxRecDepth 100000 in
theorem dvX12_stateOf_123 : ([(123, .iconst 3, 1), (124, .if_icmp .eq 5, 3), (127, .iconst 0, 1), (128, .ireturn, 1), (129, .aload_n 0, 1), (130, .getfield 96, 3), (133, .iconst 0, 1), (134, .laload, 1), (135, .aload_n 0, 1), (136, .getfield 100, 3), (139, .iconst 0, 1), (140, .laload, 1), (141, .aload_n 0, 1), (142, .getfield 96, 3), (145, .iconst 1, 1), (146, .laload, 1), (147, .aload_n 0, 1), (148, .getfield 100, 3), (151, .iconst 1, 1), (152, .laload, 1), (153, .iload 6, 2), (155, .invokestatic 340, 3), (158, .ifCond .ne 38, 3), (161, .iload 5, 2)] : List (Nat × Instr × Nat)).all (fun q => decide (decode cX12_stateOf q.1 = .ok (q.2.1, q.2.2))) = true := by decide +kernel
theorem dX12_stateOf_123 : decode cX12_stateOf 123 = .ok (.iconst 3, 1) := all_at dvX12_stateOf_123 0 rfl
theorem dX12_stateOf_124 : decode cX12_stateOf 124 = .ok (.if_icmp .eq 5, 3) := all_at dvX12_stateOf_123 1 rfl
theorem dX12_stateOf_127 : decode cX12_stateOf 127 = .ok (.iconst 0, 1) := all_at dvX12_stateOf_123 2 rfl
theorem dX12_stateOf_128 : decode cX12_stateOf 128 = .ok (.ireturn, 1) := all_at dvX12_stateOf_123 3 rfl
theorem dX12_stateOf_129 : decode cX12_stateOf 129 = .ok (.aload_n 0, 1) := all_at dvX12_stateOf_123 4 rfl
theorem dX12_stateOf_130 : decode cX12_stateOf 130 = .ok (.getfield 96, 3) := all_at dvX12_stateOf_123 5 rfl
theorem dX12_stateOf_133 : decode cX12_stateOf 133 = .ok (.iconst 0, 1) := all_at dvX12_stateOf_123 6 rfl
theorem dX12_stateOf_134 : decode cX12_stateOf 134 = .ok (.laload, 1) := all_at dvX12_stateOf_123 7 rfl
theorem dX12_stateOf_135 : decode cX12_stateOf 135 = .ok (.aload_n 0, 1) := all_at dvX12_stateOf_123 8 rfl
theorem dX12_stateOf_136 : decode cX12_stateOf 136 = .ok (.getfield 100, 3) := all_at dvX12_stateOf_123 9 rfl
theorem dX12_stateOf_139 : decode cX12_stateOf 139 = .ok (.iconst 0, 1) := all_at dvX12_stateOf_123 10 rfl
theorem dX12_stateOf_140 : decode cX12_stateOf 140 = .ok (.laload, 1) := all_at dvX12_stateOf_123 11 rfl
theorem dX12_stateOf_141 : decode cX12_stateOf 141 = .ok (.aload_n 0, 1) := all_at dvX12_stateOf_123 12 rfl
theorem dX12_stateOf_142 : decode cX12_stateOf 142 = .ok (.getfield 96, 3) := all_at dvX12_stateOf_123 13 rfl
theorem dX12_stateOf_145 : decode cX12_stateOf 145 = .ok (.iconst 1, 1) := all_at dvX12_stateOf_123 14 rfl
theorem dX12_stateOf_146 : decode cX12_stateOf 146 = .ok (.laload, 1) := all_at dvX12_stateOf_123 15 rfl
theorem dX12_stateOf_147 : decode cX12_stateOf 147 = .ok (.aload_n 0, 1) := all_at dvX12_stateOf_123 16 rfl
theorem dX12_stateOf_148 : decode cX12_stateOf 148 = .ok (.getfield 100, 3) := all_at dvX12_stateOf_123 17 rfl
theorem dX12_stateOf_151 : decode cX12_stateOf 151 = .ok (.iconst 1, 1) := all_at dvX12_stateOf_123 18 rfl
theorem dX12_stateOf_152 : decode cX12_stateOf 152 = .ok (.laload, 1) := all_at dvX12_stateOf_123 19 rfl
theorem dX12_stateOf_153 : decode cX12_stateOf 153 = .ok (.iload 6, 2) := all_at dvX12_stateOf_123 20 rfl
theorem dX12_stateOf_155 : decode cX12_stateOf 155 = .ok (.invokestatic 340, 3) := all_at dvX12_stateOf_123 21 rfl
theorem dX12_stateOf_158 : decode cX12_stateOf 158 = .ok (.ifCond .ne 38, 3) := all_at dvX12_stateOf_123 22 rfl
theorem dX12_stateOf_161 : decode cX12_stateOf 161 = .ok (.iload 5, 2) := all_at dvX12_stateOf_123 23 rfl
set_option maxRecDepth 100000 in
theorem dvX12_stateOf_163 : ([(163, .iconst 1, 1), (164, .if_icmp .ne 24, 3), (167, .aload_n 0, 1), (168, .aload_n 0, 1), (169, .iconst 1, 1), (170, .iconst 0, 1), (171, .invokevirtual 344, 3), (174, .ifCond .eq 7, 3), (177, .iconst 1, 1), (178, .goto 4, 3), (181, .iconst 0, 1), (182, .invokevirtual 337, 3), (185, .goto 9, 3), (188, .aload_n 0, 1), (189, .iconst 0, 1), (190, .iconst 1, 1), (191, .invokevirtual 334, 3), (194, .iconst 1, 1), (195, .ireturn, 1), (196, .iload 7, 2), (198, .iconst 4, 1), (199, .iand, 1), (200, .ifCond .ne 5, 3), (203, .iconst 2, 1)] : List (Nat × Instr × Nat)).all (fun q => decide (decode cX12_stateOf q.1 = .ok (q.2.1, q.2.2))) = true := by decide +kernel
theorem dX12_stateOf_163 : decode cX12_stateOf 163 = .ok (.iconst 1, 1) := all_at dvX12_stateOf_163 0 rfl
theorem dX12_stateOf_164 : decode cX12_stateOf 164 = .ok (.if_icmp .ne 24, 3) := all_at dvX12_stateOf_163 1 rfl
theorem dX12_stateOf_167 : decode cX12_stateOf 167 = .ok (.aload_n 0, 1) := all_at dvX12_stateOf_163 2 rfl
theorem dX12_stateOf_168 : decode cX12_stateOf 168 = .ok (.aload_n 0, 1) := all_at dvX12_stateOf_163 3 rfl
theorem dX12_stateOf_169 : decode cX12_stateOf 169 = .ok (.iconst 1, 1) := all_at dvX12_stateOf_163 4 rfl
theorem dX12_stateOf_170 : decode cX12_stateOf 170 = .ok (.iconst 0, 1) := all_at dvX12_stateOf_163 5 rfl
theorem dX12_stateOf_171 : decode cX12_stateOf 171 = .ok (.invokevirtual 344, 3) := all_at dvX12_stateOf_163 6 rfl
theorem dX12_stateOf_174 : decode cX12_stateOf 174 = .ok (.ifCond .eq 7, 3) := all_at dvX12_stateOf_163 7 rfl
theorem dX12_stateOf_177 : decode cX12_stateOf 177 = .ok (.iconst 1, 1) := all_at dvX12_stateOf_163 8 rfl
theorem dX12_stateOf_178 : decode cX12_stateOf 178 = .ok (.goto 4, 3) := all_at dvX12_stateOf_163 9 rfl
theorem dX12_stateOf_181 : decode cX12_stateOf 181 = .ok (.iconst 0, 1) := all_at dvX12_stateOf_163 10 rfl
theorem dX12_stateOf_182 : decode cX12_stateOf 182 = .ok (.invokevirtual 337, 3) := all_at dvX12_stateOf_163 11 rfl
theorem dX12_stateOf_185 : decode cX12_stateOf 185 = .ok (.goto 9, 3) := all_at dvX12_stateOf_163 12 rfl
theorem dX12_stateOf_188 : decode cX12_stateOf 188 = .ok (.aload_n 0, 1) := all_at dvX12_stateOf_163 13 rfl
theorem dX12_stateOf_189 : decode cX12_stateOf 189 = .ok (.iconst 0, 1) := all_at dvX12_stateOf_163 14 rfl
theorem dX12_stateOf_190 : decode cX12_stateOf 190 = .ok (.iconst 1, 1) := all_at dvX12_stateOf_163 15 rfl
theorem dX12_stateOf_191 : decode cX12_stateOf 191 = .ok (.invokevirtual 334, 3) := all_at dvX12_stateOf_163 16 rfl
theorem dX12_stateOf_194 : decode cX12_stateOf 194 = .ok (.iconst 1, 1) := all_at dvX12_stateOf_163 17 rfl
theorem dX12_stateOf_195 : decode cX12_stateOf 195 = .ok (.ireturn, 1) := all_at dvX12_stateOf_163 18 rfl
theorem dX12_stateOf_196 : decode cX12_stateOf 196 = .ok (.iload 7, 2) := all_at dvX12_stateOf_163 19 rfl
theorem dX12_stateOf_198 : decode cX12_stateOf 198 = .ok (.iconst 4, 1) := all_at dvX12_stateOf_163 20 rfl
theorem dX12_stateOf_199 : decode cX12_stateOf 199 = .ok (.iand, 1) := all_at dvX12_stateOf_163 21 rfl
theorem dX12_stateOf_200 : decode cX12_stateOf 200 = .ok (.ifCond .ne 5, 3) := all_at dvX12_stateOf_163 22 rfl
theorem dX12_stateOf_203 : decode cX12_stateOf 203 = .ok (.iconst 2, 1) := all_at dvX12_stateOf_163 23 rfl
set_option maxRecDepth 100000 in
theorem dvX12_stateOf_204 : ([(204, .ireturn, 1), (205, .aload_n 0, 1), (206, .iload 5, 2), (208, .invokevirtual 347, 3), (211, .iconst 1, 1), (212, .ireturn, 1)] : List (Nat × Instr × Nat)).all (fun q => decide (decode cX12_stateOf q.1 = .ok (q.2.1, q.2.2))) = true := by decide +kernel
theorem dX12_stateOf_204 : decode cX12_stateOf 204 = .ok (.ireturn, 1) := all_at dvX12_stateOf_204 0 rfl
theorem dX12_stateOf_205 : decode cX12_stateOf 205 = .ok (.aload_n 0, 1) := all_at dvX12_stateOf_204 1 rfl
theorem dX12_stateOf_206 : decode cX12_stateOf 206 = .ok (.iload 5, 2) := all_at dvX12_stateOf_204 2 rfl
theorem dX12_stateOf_208 : decode cX12_stateOf 208 = .ok (.invokevirtual 347, 3) := all_at dvX12_stateOf_204 3 rfl
theorem dX12_stateOf_211 : decode cX12_stateOf 211 = .ok (.iconst 1, 1) := all_at dvX12_stateOf_204 4 rfl
theorem dX12_stateOf_212 : decode cX12_stateOf 212 = .ok (.ireturn, 1) := all_at dvX12_stateOf_204 5 rfl
set_option maxHeartbeats 4000000 in
set_option maxRecDepth 100000 in
/-- X12_stateOf -/
theorem c_X12_stateOf (l : Launch) (dC : Nat → ClassId) (dI : Nat → Nat → Nat) (sz : Nat) (h : Nat) (g : Nat → Nat → Nat) (ca : Nat → Nat → ClassId) (iv : Nat → Nat → Int32) (lv : Nat → Nat → Int64) (fa : Nat → Nat → Nat → Int32) (la : Nat → Nat → Nat → Int64) (hI : IX iv fa) (a : Int32) (b : Int32) (hJC : JCf (iv 12 23).toInt (fa 12 25) (fa 12 26) (fa 12 27) (fa 12 28)) (hJR : JRf (iv 12 3).toInt (fa 12 7)) : Met l yX12_stateOf (wc yX12_stateOf cX12_stateOf 10 (some .int)) ({ frames := 2, cells := 0, slots := 0, locals := 55 } : Room) (pW (dC, dI) classes (WM h g ca iv lv fa la) (TM ca) sz [.ref h, .int a, .int b]) (va_Qi (fun r (u : SS) => ∃ (na_12_39 : Nat → Int32) (na_12_40 : Nat → Int32) (nb_12_42 : Nat → Int64) (nb_12_43 : Nat → Int64) (ni_12_19 : Int32) (ni_12_41 : Int32) (nl_12_17 : Int64) (nl_12_18 : Int64) (nl_12_44 : Int64) (nl_12_45 : Int64), (∀ j, inb (bA 12 39 j) (na_12_39 j)) ∧ (∀ j, inb (bA 12 40 j) (na_12_40 j)) ∧ inb (bI 12 41) ni_12_41 ∧ ((r.toInt ≠ 1 ∨ (1 ≤ (nl_12_45).toInt ∧ (nl_12_45).toInt ≤ 719856007200))) ∧ (0 ≤ r.toInt ∧ r.toInt ≤ 2) ∧ u = ((u2 (u2 iv 12 19 ni_12_19) 12 41 ni_12_41), (u2 (u2 (u2 (u2 lv 12 17 nl_12_17) 12 18 nl_12_18) 12 44 nl_12_44) 12 45 nl_12_45), (u2 (u2 fa 12 39 na_12_39) 12 40 na_12_40), (u2 (u2 la 12 42 nb_12_42) 12 43 nb_12_43))) (bM (dC, dI) h g ca (va_A (WM h g ca iv lv fa la) sz)) (va_A (WM h g ca iv lv fa la) sz)) 0 0 (va_A (WM h g ca iv lv fa la) sz) := by
  refine Met.ofW (cc := cX12_stateOf) (maxL := 10) (ret := (some .int)) (by decide) rfl ?_
  intro p e s m args below meth c s₁ B hml hv
  obtain ⟨rfl, hsz, hP, hK, hD0⟩ := hv
  have hx := B.exec
  have hb := B.bytes
  have hr := B.returns
  have ht := tb_tl (atoms_spec (ws := wc yX12_stateOf cX12_stateOf 10 (some .int)) B.pre)
  have hown : s.vm.findClass RX12 = some m.cls := findClass_of_methodNamed B.named
  have hlocks := B.notSynchronized
  subst hsz
  have hD := hD0.self (sz := s.heap.size)
  generalize hAe : va_A (WM h g ca iv lv fa la) s.heap.size = A at hD ⊢
  have hA : ∀ q : Nat, s.heap.size ≤ q → A q := fun q h => by rw [← hAe]; exact Or.inr h
  have hS : va_S A s.heap s.heap [] := va_S.rf
  have hl := lv_entry [.ref h, .int a, .int b] (n := 10) (Nat.le_of_ble_eq_true rfl)
  rw [lg_entry_eq]
  generalize (lg_sl [.ref h, .int a, .int b] ++ List.replicate (10 - (lg_sl [.ref h, .int a, .int b]).length) Slot.unset).toArray = ls at hl ⊢
  have hl : lv_has ls 10 [(0, .ref h), (1, .int a), (2, .int b)] := hl
  refine lv_aload_n hx hb dX12_stateOf_0 rfl (lv_at hl 0 rfl) ?_
  refine lv_iconst (v := 1) hx hb dX12_stateOf_1 (by decide) ?_
  refine lv_iload_n hx hb dX12_stateOf_2 rfl (lv_at hl 2 rfl) ?_
  have hFc := free_all hD hS hA
  refine va_calli (va_runV (As := [.int 1, .int b]) (rest := []) ⟨hx, hb, hml, hown, ht⟩ (c_X12_forceOf_1 l dC dI s.heap.size h g ca iv lv fa la hI b hJC) (kV 2 ht m_1509 m_1511 m_55 m_89 m_1512 rfl rfl hd_X12_forceOf_v ⟨Nat.le_of_ble_eq_true rfl, Nat.le_of_ble_eq_true rfl⟩) (vW hP hK hD (rM_12 hK hP)) rfl rfl hl.1 rfl (lv_room (Nat.le_of_ble_eq_true rfl)) dX12_stateOf_3 ⟨Nat.le_of_ble_eq_true rfl, Nat.le_of_ble_eq_true rfl⟩) hS (fun q _ h => hFc q h) hFc (fun r1 u t H1 locs ht9 hvm hr1 hB hz1 hk1 hS => ?_)
  obtain ⟨n2, n3, n4, hn2, hn3, hn4, xr1_0, hr1, rfl⟩ := hr1
  have hn4 : 0 ≤ n4.toInt ∧ n4.toInt ≤ 8 := hn4
  obtain ⟨hP, hD⟩ := hB
  rw [ht9] at hP
  generalize H1 = H at hP hS ⊢
  have hP : va_P (dC, dI) classes (WM h g ca (u2 iv 12 41 n4) lv (u2 (u2 fa 12 39 n2) 12 40 n3) la) H := hP
  have hD : va_D A (WM h g ca (u2 iv 12 41 n4) lv (u2 (u2 fa 12 39 n2) 12 40 n3) la) := (show va_D _ (WM h g ca (u2 iv 12 41 n4) lv (u2 (u2 fa 12 39 n2) 12 40 n3) la) from hD).weaken (fun _ _ _ h => hFc _ h)
  have xr1_0 : 1 ≤ (r1 : Int32).toInt := xr1_0
  refine lv_istore_n (lv' := [(3, .int r1), (0, .ref h), (1, .int a), (2, .int b)]) hx hb dX12_stateOf_6 rfl hl (by decide) rfl (fun ls hl => ?_)
  refine lv_aload_n hx hb dX12_stateOf_7 rfl (lv_at hl 1 rfl) ?_
  refine lv_iconst (v := 3) hx hb dX12_stateOf_8 (by decide) ?_
  refine lv_iload_n hx hb dX12_stateOf_9 rfl (lv_at hl 3 rfl) ?_
  have hFc := free_all hD hS hA
  refine va_calli (va_runV (As := [.int 3, .int b]) (rest := []) ⟨hx, hb, hml, hown, ht⟩ (c_X12_forceOf l dC dI H.size h g ca (u2 iv 12 41 n4) lv (u2 (u2 fa 12 39 n2) 12 40 n3) la (IX_a (c := 12) (k := 40) (IX_a (c := 12) (k := 39) (IX_i (c := 12) (k := 41) hI (show inb (0, 8) n4 from ⟨by omega, by omega⟩)) hn2) hn3) 3 b ⟨by decide, by decide⟩ hJC) (kV 2 ht m_1509 m_1511 m_55 m_89 m_1512 rfl rfl hd_X12_forceOf_v ⟨Nat.le_of_ble_eq_true rfl, Nat.le_of_ble_eq_true rfl⟩) (vW hP hK hD (rM_12 hK hP)) rfl rfl hl.1 rfl (lv_room (Nat.le_of_ble_eq_true rfl)) dX12_stateOf_10 ⟨Nat.le_of_ble_eq_true rfl, Nat.le_of_ble_eq_true rfl⟩) hS (fun q _ h => hFc q h) hFc (fun r5 u t H1 locs ht9 hvm hr5 hB hz1 hk1 hS => ?_)
  obtain ⟨n6, n7, n8, hn6, hn7, hn8, hr5, rfl⟩ := hr5
  have hn8 : 0 ≤ n8.toInt ∧ n8.toInt ≤ 8 := hn8
  obtain ⟨hP, hD⟩ := hB
  rw [ht9] at hP
  generalize H1 = H at hP hS ⊢
  have hP : va_P (dC, dI) classes (WM h g ca (u2 iv 12 41 n8) lv (u2 (u2 fa 12 39 n6) 12 40 n7) la) H := hP
  have hD : va_D A (WM h g ca (u2 iv 12 41 n8) lv (u2 (u2 fa 12 39 n6) 12 40 n7) la) := (show va_D _ (WM h g ca (u2 iv 12 41 n8) lv (u2 (u2 fa 12 39 n6) 12 40 n7) la) from hD).weaken (fun _ _ _ h => hFc _ h)
  refine lv_istore (lv' := [(4, .int r5), (3, .int r1), (0, .ref h), (1, .int a), (2, .int b)]) hx hb dX12_stateOf_13 hl (by decide) rfl (fun ls hl => ?_)
  refine lv_aload_n hx hb dX12_stateOf_15 rfl (lv_at hl 2 rfl) ?_
  refine lv_iconst (v := 5) hx hb dX12_stateOf_16 (by decide) ?_
  refine lv_iload_n hx hb dX12_stateOf_17 rfl (lv_at hl 4 rfl) ?_
  have hFc := free_all hD hS hA
  refine va_calli (va_runV (As := [.int 5, .int b]) (rest := []) ⟨hx, hb, hml, hown, ht⟩ (c_X12_forceOf l dC dI H.size h g ca (u2 iv 12 41 n8) lv (u2 (u2 fa 12 39 n6) 12 40 n7) la (IX_a (c := 12) (k := 40) (IX_a (c := 12) (k := 39) (IX_i (c := 12) (k := 41) hI (show inb (0, 8) n8 from ⟨by omega, by omega⟩)) hn6) hn7) 5 b ⟨by decide, by decide⟩ hJC) (kV 2 ht m_1509 m_1511 m_55 m_89 m_1512 rfl rfl hd_X12_forceOf_v ⟨Nat.le_of_ble_eq_true rfl, Nat.le_of_ble_eq_true rfl⟩) (vW hP hK hD (rM_12 hK hP)) rfl rfl hl.1 rfl (lv_room (Nat.le_of_ble_eq_true rfl)) dX12_stateOf_18 ⟨Nat.le_of_ble_eq_true rfl, Nat.le_of_ble_eq_true rfl⟩) hS (fun q _ h => hFc q h) hFc (fun r9 u t H1 locs ht9 hvm hr9 hB hz1 hk1 hS => ?_)
  obtain ⟨n10, n11, n12, hn10, hn11, hn12, hr9, rfl⟩ := hr9
  have hn12 : 0 ≤ n12.toInt ∧ n12.toInt ≤ 8 := hn12
  obtain ⟨hP, hD⟩ := hB
  rw [ht9] at hP
  generalize H1 = H at hP hS ⊢
  have hP : va_P (dC, dI) classes (WM h g ca (u2 iv 12 41 n12) lv (u2 (u2 fa 12 39 n10) 12 40 n11) la) H := hP
  have hD : va_D A (WM h g ca (u2 iv 12 41 n12) lv (u2 (u2 fa 12 39 n10) 12 40 n11) la) := (show va_D _ (WM h g ca (u2 iv 12 41 n12) lv (u2 (u2 fa 12 39 n10) 12 40 n11) la) from hD).weaken (fun _ _ _ h => hFc _ h)
  refine lv_istore (lv' := [(5, .int r9), (4, .int r5), (3, .int r1), (0, .ref h), (1, .int a), (2, .int b)]) hx hb dX12_stateOf_21 hl (by decide) rfl (fun ls hl => ?_)
  refine lv_aload_n hx hb dX12_stateOf_23 rfl (lv_at hl 3 rfl) ?_
  refine lv_iconst (v := 2) hx hb dX12_stateOf_24 (by decide) ?_
  refine lv_iload_n hx hb dX12_stateOf_25 rfl (lv_at hl 5 rfl) ?_
  have hFc := free_all hD hS hA
  refine va_calli (va_runV (As := [.int 2, .int b]) (rest := []) ⟨hx, hb, hml, hown, ht⟩ (c_X12_forceOf l dC dI H.size h g ca (u2 iv 12 41 n12) lv (u2 (u2 fa 12 39 n10) 12 40 n11) la (IX_a (c := 12) (k := 40) (IX_a (c := 12) (k := 39) (IX_i (c := 12) (k := 41) hI (show inb (0, 8) n12 from ⟨by omega, by omega⟩)) hn10) hn11) 2 b ⟨by decide, by decide⟩ hJC) (kV 2 ht m_1509 m_1511 m_55 m_89 m_1512 rfl rfl hd_X12_forceOf_v ⟨Nat.le_of_ble_eq_true rfl, Nat.le_of_ble_eq_true rfl⟩) (vW hP hK hD (rM_12 hK hP)) rfl rfl hl.1 rfl (lv_room (Nat.le_of_ble_eq_true rfl)) dX12_stateOf_26 ⟨Nat.le_of_ble_eq_true rfl, Nat.le_of_ble_eq_true rfl⟩) hS (fun q _ h => hFc q h) hFc (fun r13 u t H1 locs ht9 hvm hr13 hB hz1 hk1 hS => ?_)
  obtain ⟨n14, n15, n16, hn14, hn15, hn16, hr13, rfl⟩ := hr13
  have hn16 : 0 ≤ n16.toInt ∧ n16.toInt ≤ 8 := hn16
  obtain ⟨hP, hD⟩ := hB
  rw [ht9] at hP
  generalize H1 = H at hP hS ⊢
  have hP : va_P (dC, dI) classes (WM h g ca (u2 iv 12 41 n16) lv (u2 (u2 fa 12 39 n14) 12 40 n15) la) H := hP
  have hD : va_D A (WM h g ca (u2 iv 12 41 n16) lv (u2 (u2 fa 12 39 n14) 12 40 n15) la) := (show va_D _ (WM h g ca (u2 iv 12 41 n16) lv (u2 (u2 fa 12 39 n14) 12 40 n15) la) from hD).weaken (fun _ _ _ h => hFc _ h)
  refine lv_istore (lv' := [(6, .int r13), (5, .int r9), (4, .int r5), (3, .int r1), (0, .ref h), (1, .int a), (2, .int b)]) hx hb dX12_stateOf_29 hl (by decide) rfl (fun ls hl => ?_)
  refine lv_iconst (v := 0) hx hb dX12_stateOf_31 (by decide) ?_
  refine lv_istore (lv' := [(7, .int 0), (6, .int r13), (5, .int r9), (4, .int r5), (3, .int r1), (0, .ref h), (1, .int a), (2, .int b)]) hx hb dX12_stateOf_32 hl (by decide) rfl (fun ls hl => ?_)
  refine lv_iconst (v := 0) hx hb dX12_stateOf_34 (by decide) ?_
  refine lv_istore (lv' := [(8, .int 0), (7, .int 0), (6, .int r13), (5, .int r9), (4, .int r5), (3, .int r1), (0, .ref h), (1, .int a), (2, .int b)]) hx hb dX12_stateOf_35 hl (by decide) rfl (fun ls hl => ?_)
  refine lv_iload hx hb dX12_stateOf_37 (lv_at hl 0 rfl) ?_
  refine lv_iconst (v := 3) hx hb dX12_stateOf_39 (by decide) ?_
  refine lv_icmp_ge (tgt := 103) hx hb dX12_stateOf_40 (by decide) (fun c17 => ?_) (fun c17 => ?_)
  · exact absurd c17 (by decide)
  · skip
    refine lv_aload_n hx hb dX12_stateOf_43 rfl (lv_at hl 6 rfl) ?_
    refine lv_iload_n hx hb dX12_stateOf_44 rfl (lv_at hl 7 rfl) ?_
    refine lv_iload hx hb dX12_stateOf_45 (lv_at hl 0 rfl) ?_
    refine lv_iload_n hx hb dX12_stateOf_47 rfl (lv_at hl 8 rfl) ?_
    have hFc := free_all hD hS hA
    refine va_calli (va_runV (As := [.int a, .int 0, .int b]) (rest := []) ⟨hx, hb, hml, hown, ht⟩ (c_X12_sumUp_x l dC dI H.size h g ca (u2 iv 12 41 n16) lv (u2 (u2 fa 12 39 n14) 12 40 n15) la (IX_a (c := 12) (k := 40) (IX_a (c := 12) (k := 39) (IX_i (c := 12) (k := 41) hI (show inb (0, 8) n16 from ⟨by omega, by omega⟩)) hn14) hn15) a 0 b hJR) (kV 3 ht m_1434 m_1436 m_45 m_89 m_1437 rfl rfl hd_X12_sumUp_v ⟨Nat.le_of_ble_eq_true rfl, Nat.le_of_ble_eq_true rfl⟩) (vW hP hK hD (rM_12 hK hP)) rfl rfl hl.1 rfl (lv_room (Nat.le_of_ble_eq_true rfl)) dX12_stateOf_48 ⟨Nat.le_of_ble_eq_true rfl, Nat.le_of_ble_eq_true rfl⟩) hS (fun q _ h => hFc q h) hFc (fun r18 u t H1 locs ht9 hvm hr18 hB hz1 hk1 hS => ?_)
    obtain ⟨n19, n20, n21, xr18_0, xr18_1, xr18_2, xr18_3, xr18_4, hr18, rfl⟩ := hr18
    obtain ⟨hP, hD⟩ := hB
    rw [ht9] at hP
    generalize H1 = H at hP hS ⊢
    have hP : va_P (dC, dI) classes (WM h g ca (u2 (u2 iv 12 41 n16) 12 19 n19) (u2 (u2 lv 12 17 n20) 12 18 n21) (u2 (u2 fa 12 39 n14) 12 40 n15) la) H := hP
    have hD : va_D A (WM h g ca (u2 (u2 iv 12 41 n16) 12 19 n19) (u2 (u2 lv 12 17 n20) 12 18 n21) (u2 (u2 fa 12 39 n14) 12 40 n15) la) := (show va_D _ (WM h g ca (u2 (u2 iv 12 41 n16) 12 19 n19) (u2 (u2 lv 12 17 n20) 12 18 n21) (u2 (u2 fa 12 39 n14) 12 40 n15) la) from hD).weaken (fun _ _ _ h => hFc _ h)
    have xr18_0 : 0 ≤ (r18 : Int32).toInt := xr18_0
    have xr18_1 : (r18 : Int32).toInt ≤ 60 := xr18_1
    have xr18_2 : 0 ≤ (n21 : Int64).toInt := xr18_2
    have xr18_3 : (n21 : Int64).toInt ≤ 599940 := xr18_3
    have xr18_4 : 100 * (r18 : Int32).toInt ≤ (n21 : Int64).toInt := xr18_4
    refine lv_istore (lv' := [(9, .int r18), (8, .int 0), (7, .int 0), (6, .int r13), (5, .int r9), (4, .int r5), (3, .int r1), (0, .ref h), (1, .int a), (2, .int b)]) hx hb dX12_stateOf_51 hl (by decide) rfl (fun ls hl => ?_)
    refine lv_aload_n hx hb dX12_stateOf_53 rfl (lv_at hl 7 rfl) ?_
    refine gM_12_42 hx hb ht hown hK hP m_1181 dX12_stateOf_54 ?_
    refine lv_iload hx hb dX12_stateOf_57 (lv_at hl 1 rfl) ?_
    refine lv_aload_n hx hb dX12_stateOf_59 rfl (lv_at hl 7 rfl) ?_
    refine gM_12_17 hx hb ht hown hK hP m_1156 (v := n20) rfl dX12_stateOf_60 ?_
    refine tM_12_42 hx hb hK hP hD hS (f0 := (la 12 42)) rfl (i := 0) (x := n20) (vp_in_iff.mpr (by decide)) dX12_stateOf_63 (fun f22 ef22 H locs hP hD hS => ?_)
    have yf22_0 : f22 (0 : Int32).toNatClampNeg = n20 := by rw [ef22]; exact updL_eq
    refine lv_aload_n hx hb dX12_stateOf_64 rfl (lv_at hl 7 rfl) ?_
    refine gM_12_43 hx hb ht hown hK hP m_1182 dX12_stateOf_65 ?_
    refine lv_iload hx hb dX12_stateOf_68 (lv_at hl 1 rfl) ?_
    refine lv_aload_n hx hb dX12_stateOf_70 rfl (lv_at hl 7 rfl) ?_
    refine gM_12_18 hx hb ht hown hK hP m_1157 (v := n21) rfl dX12_stateOf_71 ?_
    refine tM_12_43 hx hb hK hP hD hS (f0 := (la 12 43)) rfl (i := 0) (x := n21) (vp_in_iff.mpr (by decide)) dX12_stateOf_74 (fun f23 ef23 H locs hP hD hS => ?_)
    have yf23_0 : f23 (0 : Int32).toNatClampNeg = n21 := by rw [ef23]; exact updL_eq
    refine lv_iload hx hb dX12_stateOf_75 (lv_at hl 2 rfl) ?_
    refine lv_iload hx hb dX12_stateOf_77 (lv_at hl 0 rfl) ?_
    refine lv_iload_n hx hb dX12_stateOf_79 rfl (lv_at hl 6 rfl) ?_
    refine lv_icmp_lt (tgt := 87) hx hb dX12_stateOf_80 (by decide) (fun c24 => ?_) (fun c24 => ?_)
    · have fc24 := z_lt (rfl : (r18).toInt = _) (rfl : (r1).toInt = _) c24
      refine lv_iconst (v := 0) hx hb dX12_stateOf_87 (by decide) ?_
      refine vp_callSi (W.runS (As := [.int 0]) (rest := [.int 0]) ⟨hx, hb, hml, hown, ht⟩ (c_X12_bit_0 l dC dI) (kS 1 ht m_1396 m_1397 m_89 m_1398 rfl rfl hd_X12_bit_v ⟨Nat.le_of_ble_eq_true rfl, Nat.le_of_ble_eq_true rfl⟩) (sR noP (hK.sub (tys' := []) [] rfl)) rfl rfl hl.1 rfl (lv_room (Nat.le_of_ble_eq_true rfl)) dX12_stateOf_88 ⟨Nat.le_of_ble_eq_true rfl, Nat.le_of_ble_eq_true rfl⟩) (fun r25 hr25 => ?_)
      obtain rfl : 0 = r25 := hr25.symm
      refine lv_iload hx hb dX12_stateOf_91 (lv_at hl 1 rfl) ?_
      refine lv_ishl hx hb dX12_stateOf_93 ?_
      refine lv_topi (fun v26 ev26 => ?_)
      obtain rfl : 0 = v26 := (ev26.trans (by decide)).symm
      refine lv_ior hx hb dX12_stateOf_94 ?_
      refine lv_topi (fun v27 ev27 => ?_)
      obtain rfl : 0 = v27 := (ev27.trans (by decide)).symm
      refine lv_istore (lv' := [(7, .int 0), (9, .int r18), (8, .int 0), (6, .int r13), (5, .int r9), (4, .int r5), (3, .int r1), (0, .ref h), (1, .int a), (2, .int b)]) hx hb dX12_stateOf_95 hl (by decide) rfl (fun ls hl => ?_)
      refine lv_iinc (v := 1) (lv' := [(8, .int 1), (7, .int 0), (9, .int r18), (6, .int r13), (5, .int r9), (4, .int r5), (3, .int r1), (0, .ref h), (1, .int a), (2, .int b)]) hx hb dX12_stateOf_97 hl (k := 2) rfl (by decide) (by decide) rfl (fun ls hl => ?_)
      refine lv_goto (tgt := 37) hx hb dX12_stateOf_100 (by decide) ?_
      refine lv_iload hx hb dX12_stateOf_37 (lv_at hl 0 rfl) ?_
      refine lv_iconst (v := 3) hx hb dX12_stateOf_39 (by decide) ?_
      refine lv_icmp_ge (tgt := 103) hx hb dX12_stateOf_40 (by decide) (fun c28 => ?_) (fun c28 => ?_)
      · exact absurd c28 (by decide)
      · skip
        refine lv_aload_n hx hb dX12_stateOf_43 rfl (lv_at hl 7 rfl) ?_
        refine lv_iload_n hx hb dX12_stateOf_44 rfl (lv_at hl 8 rfl) ?_
        refine lv_iload hx hb dX12_stateOf_45 (lv_at hl 0 rfl) ?_
        refine lv_iload_n hx hb dX12_stateOf_47 rfl (lv_at hl 9 rfl) ?_
        have hFc := free_all hD hS hA
        refine va_calli (va_runV (As := [.int a, .int 1, .int b]) (rest := []) ⟨hx, hb, hml, hown, ht⟩ (c_X12_sumUp_x l dC dI H.size h g ca (u2 (u2 iv 12 41 n16) 12 19 n19) (u2 (u2 lv 12 17 n20) 12 18 n21) (u2 (u2 fa 12 39 n14) 12 40 n15) (u2 (u2 la 12 42 f22) 12 43 f23) (IX_a (c := 12) (k := 40) (IX_a (c := 12) (k := 39) (IX_i (c := 12) (k := 19) (IX_i (c := 12) (k := 41) hI (show inb (0, 8) n16 from ⟨by omega, by omega⟩)) (full_i _)) hn14) hn15) a 1 b hJR) (kV 3 ht m_1434 m_1436 m_45 m_89 m_1437 rfl rfl hd_X12_sumUp_v ⟨Nat.le_of_ble_eq_true rfl, Nat.le_of_ble_eq_true rfl⟩) (vW hP hK hD (rM_12 hK hP)) rfl rfl hl.1 rfl (lv_room (Nat.le_of_ble_eq_true rfl)) dX12_stateOf_48 ⟨Nat.le_of_ble_eq_true rfl, Nat.le_of_ble_eq_true rfl⟩) hS (fun q _ h => hFc q h) hFc (fun r29 u t H1 locs ht9 hvm hr29 hB hz1 hk1 hS => ?_)
        obtain ⟨n30, n31, n32, xr29_0, xr29_1, xr29_2, xr29_3, xr29_4, hr29, rfl⟩ := hr29
        obtain ⟨hP, hD⟩ := hB
        rw [ht9] at hP
        generalize H1 = H at hP hS ⊢
        have hP : va_P (dC, dI) classes (WM h g ca (u2 (u2 iv 12 41 n16) 12 19 n30) (u2 (u2 lv 12 17 n31) 12 18 n32) (u2 (u2 fa 12 39 n14) 12 40 n15) (u2 (u2 la 12 42 f22) 12 43 f23)) H := hP
        have hD : va_D A (WM h g ca (u2 (u2 iv 12 41 n16) 12 19 n30) (u2 (u2 lv 12 17 n31) 12 18 n32) (u2 (u2 fa 12 39 n14) 12 40 n15) (u2 (u2 la 12 42 f22) 12 43 f23)) := (show va_D _ (WM h g ca (u2 (u2 iv 12 41 n16) 12 19 n30) (u2 (u2 lv 12 17 n31) 12 18 n32) (u2 (u2 fa 12 39 n14) 12 40 n15) (u2 (u2 la 12 42 f22) 12 43 f23)) from hD).weaken (fun _ _ _ h => hFc _ h)
        have xr29_0 : 0 ≤ (r29 : Int32).toInt := xr29_0
        have xr29_1 : (r29 : Int32).toInt ≤ 60 := xr29_1
        have xr29_2 : 0 ≤ (n32 : Int64).toInt := xr29_2
        have xr29_3 : (n32 : Int64).toInt ≤ 599940 := xr29_3
        have xr29_4 : 100 * (r29 : Int32).toInt ≤ (n32 : Int64).toInt := xr29_4
        refine lv_istore (lv' := [(9, .int r29), (8, .int 1), (7, .int 0), (6, .int r13), (5, .int r9), (4, .int r5), (3, .int r1), (0, .ref h), (1, .int a), (2, .int b)]) hx hb dX12_stateOf_51 hl (by decide) rfl (fun ls hl => ?_)
        refine lv_aload_n hx hb dX12_stateOf_53 rfl (lv_at hl 7 rfl) ?_
        refine gM_12_42 hx hb ht hown hK hP m_1181 dX12_stateOf_54 ?_
        refine lv_iload hx hb dX12_stateOf_57 (lv_at hl 1 rfl) ?_
        refine lv_aload_n hx hb dX12_stateOf_59 rfl (lv_at hl 7 rfl) ?_
        refine gM_12_17 hx hb ht hown hK hP m_1156 (v := n31) rfl dX12_stateOf_60 ?_
        refine tM_12_42 hx hb hK hP hD hS (f0 := f22) rfl (i := 1) (x := n31) (vp_in_iff.mpr (by decide)) dX12_stateOf_63 (fun f33 ef33 H locs hP hD hS => ?_)
        have hP : va_P (dC, dI) classes (WM h g ca (u2 (u2 iv 12 41 n16) 12 19 n30) (u2 (u2 lv 12 17 n31) 12 18 n32) (u2 (u2 fa 12 39 n14) 12 40 n15) (u2 (u2 la 12 42 f33) 12 43 f23)) H := hP
        have hD : va_D A (WM h g ca (u2 (u2 iv 12 41 n16) 12 19 n30) (u2 (u2 lv 12 17 n31) 12 18 n32) (u2 (u2 fa 12 39 n14) 12 40 n15) (u2 (u2 la 12 42 f33) 12 43 f23)) := hD
        have yf33_0 : f33 (0 : Int32).toNatClampNeg = n20 := by rw [ef33]; exact (updL_ne (by decide)).trans yf22_0
        have yf33_1 : f33 (1 : Int32).toNatClampNeg = n31 := by rw [ef33]; exact updL_eq
        refine lv_aload_n hx hb dX12_stateOf_64 rfl (lv_at hl 7 rfl) ?_
        refine gM_12_43 hx hb ht hown hK hP m_1182 dX12_stateOf_65 ?_
        refine lv_iload hx hb dX12_stateOf_68 (lv_at hl 1 rfl) ?_
        refine lv_aload_n hx hb dX12_stateOf_70 rfl (lv_at hl 7 rfl) ?_
        refine gM_12_18 hx hb ht hown hK hP m_1157 (v := n32) rfl dX12_stateOf_71 ?_
        refine tM_12_43 hx hb hK hP hD hS (f0 := f23) rfl (i := 1) (x := n32) (vp_in_iff.mpr (by decide)) dX12_stateOf_74 (fun f34 ef34 H locs hP hD hS => ?_)
        have hP : va_P (dC, dI) classes (WM h g ca (u2 (u2 iv 12 41 n16) 12 19 n30) (u2 (u2 lv 12 17 n31) 12 18 n32) (u2 (u2 fa 12 39 n14) 12 40 n15) (u2 (u2 la 12 42 f33) 12 43 f34)) H := hP
        have hD : va_D A (WM h g ca (u2 (u2 iv 12 41 n16) 12 19 n30) (u2 (u2 lv 12 17 n31) 12 18 n32) (u2 (u2 fa 12 39 n14) 12 40 n15) (u2 (u2 la 12 42 f33) 12 43 f34)) := hD
        have yf34_0 : f34 (0 : Int32).toNatClampNeg = n21 := by rw [ef34]; exact (updL_ne (by decide)).trans yf23_0
        have yf34_1 : f34 (1 : Int32).toNatClampNeg = n32 := by rw [ef34]; exact updL_eq
        refine lv_iload hx hb dX12_stateOf_75 (lv_at hl 2 rfl) ?_
        refine lv_iload hx hb dX12_stateOf_77 (lv_at hl 0 rfl) ?_
        refine lv_iload_n hx hb dX12_stateOf_79 rfl (lv_at hl 6 rfl) ?_
        refine lv_icmp_lt (tgt := 87) hx hb dX12_stateOf_80 (by decide) (fun c35 => ?_) (fun c35 => ?_)
        · have fc35 := z_lt (rfl : (r29).toInt = _) (rfl : (r1).toInt = _) c35
          refine lv_iconst (v := 0) hx hb dX12_stateOf_87 (by decide) ?_
          refine vp_callSi (W.runS (As := [.int 0]) (rest := [.int 0]) ⟨hx, hb, hml, hown, ht⟩ (c_X12_bit_0 l dC dI) (kS 1 ht m_1396 m_1397 m_89 m_1398 rfl rfl hd_X12_bit_v ⟨Nat.le_of_ble_eq_true rfl, Nat.le_of_ble_eq_true rfl⟩) (sR noP (hK.sub (tys' := []) [] rfl)) rfl rfl hl.1 rfl (lv_room (Nat.le_of_ble_eq_true rfl)) dX12_stateOf_88 ⟨Nat.le_of_ble_eq_true rfl, Nat.le_of_ble_eq_true rfl⟩) (fun r36 hr36 => ?_)
          obtain rfl : 0 = r36 := hr36.symm
          refine lv_iload hx hb dX12_stateOf_91 (lv_at hl 1 rfl) ?_
          refine lv_ishl hx hb dX12_stateOf_93 ?_
          refine lv_topi (fun v37 ev37 => ?_)
          obtain rfl : 0 = v37 := (ev37.trans (by decide)).symm
          refine lv_ior hx hb dX12_stateOf_94 ?_
          refine lv_topi (fun v38 ev38 => ?_)
          obtain rfl : 0 = v38 := (ev38.trans (by decide)).symm
          refine lv_istore (lv' := [(7, .int 0), (9, .int r29), (8, .int 1), (6, .int r13), (5, .int r9), (4, .int r5), (3, .int r1), (0, .ref h), (1, .int a), (2, .int b)]) hx hb dX12_stateOf_95 hl (by decide) rfl (fun ls hl => ?_)
          refine lv_iinc (v := 2) (lv' := [(8, .int 2), (7, .int 0), (9, .int r29), (6, .int r13), (5, .int r9), (4, .int r5), (3, .int r1), (0, .ref h), (1, .int a), (2, .int b)]) hx hb dX12_stateOf_97 hl (k := 2) rfl (by decide) (by decide) rfl (fun ls hl => ?_)
          refine lv_goto (tgt := 37) hx hb dX12_stateOf_100 (by decide) ?_
          refine lv_iload hx hb dX12_stateOf_37 (lv_at hl 0 rfl) ?_
          refine lv_iconst (v := 3) hx hb dX12_stateOf_39 (by decide) ?_
          refine lv_icmp_ge (tgt := 103) hx hb dX12_stateOf_40 (by decide) (fun c39 => ?_) (fun c39 => ?_)
          · exact absurd c39 (by decide)
          · skip
            refine lv_aload_n hx hb dX12_stateOf_43 rfl (lv_at hl 7 rfl) ?_
            refine lv_iload_n hx hb dX12_stateOf_44 rfl (lv_at hl 8 rfl) ?_
            refine lv_iload hx hb dX12_stateOf_45 (lv_at hl 0 rfl) ?_
            refine lv_iload_n hx hb dX12_stateOf_47 rfl (lv_at hl 9 rfl) ?_
            have hFc := free_all hD hS hA
            refine va_calli (va_runV (As := [.int a, .int 2, .int b]) (rest := []) ⟨hx, hb, hml, hown, ht⟩ (c_X12_sumUp_x l dC dI H.size h g ca (u2 (u2 iv 12 41 n16) 12 19 n30) (u2 (u2 lv 12 17 n31) 12 18 n32) (u2 (u2 fa 12 39 n14) 12 40 n15) (u2 (u2 la 12 42 f33) 12 43 f34) (IX_a (c := 12) (k := 40) (IX_a (c := 12) (k := 39) (IX_i (c := 12) (k := 19) (IX_i (c := 12) (k := 41) hI (show inb (0, 8) n16 from ⟨by omega, by omega⟩)) (full_i _)) hn14) hn15) a 2 b hJR) (kV 3 ht m_1434 m_1436 m_45 m_89 m_1437 rfl rfl hd_X12_sumUp_v ⟨Nat.le_of_ble_eq_true rfl, Nat.le_of_ble_eq_true rfl⟩) (vW hP hK hD (rM_12 hK hP)) rfl rfl hl.1 rfl (lv_room (Nat.le_of_ble_eq_true rfl)) dX12_stateOf_48 ⟨Nat.le_of_ble_eq_true rfl, Nat.le_of_ble_eq_true rfl⟩) hS (fun q _ h => hFc q h) hFc (fun r40 u t H1 locs ht9 hvm hr40 hB hz1 hk1 hS => ?_)
            obtain ⟨n41, n42, n43, xr40_0, xr40_1, xr40_2, xr40_3, xr40_4, hr40, rfl⟩ := hr40
            obtain ⟨hP, hD⟩ := hB
            rw [ht9] at hP
            generalize H1 = H at hP hS ⊢
            have hP : va_P (dC, dI) classes (WM h g ca (u2 (u2 iv 12 41 n16) 12 19 n41) (u2 (u2 lv 12 17 n42) 12 18 n43) (u2 (u2 fa 12 39 n14) 12 40 n15) (u2 (u2 la 12 42 f33) 12 43 f34)) H := hP
            have hD : va_D A (WM h g ca (u2 (u2 iv 12 41 n16) 12 19 n41) (u2 (u2 lv 12 17 n42) 12 18 n43) (u2 (u2 fa 12 39 n14) 12 40 n15) (u2 (u2 la 12 42 f33) 12 43 f34)) := (show va_D _ (WM h g ca (u2 (u2 iv 12 41 n16) 12 19 n41) (u2 (u2 lv 12 17 n42) 12 18 n43) (u2 (u2 fa 12 39 n14) 12 40 n15) (u2 (u2 la 12 42 f33) 12 43 f34)) from hD).weaken (fun _ _ _ h => hFc _ h)
            have xr40_0 : 0 ≤ (r40 : Int32).toInt := xr40_0
            have xr40_1 : (r40 : Int32).toInt ≤ 60 := xr40_1
            have xr40_2 : 0 ≤ (n43 : Int64).toInt := xr40_2
            have xr40_3 : (n43 : Int64).toInt ≤ 599940 := xr40_3
            have xr40_4 : 100 * (r40 : Int32).toInt ≤ (n43 : Int64).toInt := xr40_4
            refine lv_istore (lv' := [(9, .int r40), (8, .int 2), (7, .int 0), (6, .int r13), (5, .int r9), (4, .int r5), (3, .int r1), (0, .ref h), (1, .int a), (2, .int b)]) hx hb dX12_stateOf_51 hl (by decide) rfl (fun ls hl => ?_)
            refine lv_aload_n hx hb dX12_stateOf_53 rfl (lv_at hl 7 rfl) ?_
            refine gM_12_42 hx hb ht hown hK hP m_1181 dX12_stateOf_54 ?_
            refine lv_iload hx hb dX12_stateOf_57 (lv_at hl 1 rfl) ?_
            refine lv_aload_n hx hb dX12_stateOf_59 rfl (lv_at hl 7 rfl) ?_
            refine gM_12_17 hx hb ht hown hK hP m_1156 (v := n42) rfl dX12_stateOf_60 ?_
            refine tM_12_42 hx hb hK hP hD hS (f0 := f33) rfl (i := 2) (x := n42) (vp_in_iff.mpr (by decide)) dX12_stateOf_63 (fun f44 ef44 H locs hP hD hS => ?_)
            have hP : va_P (dC, dI) classes (WM h g ca (u2 (u2 iv 12 41 n16) 12 19 n41) (u2 (u2 lv 12 17 n42) 12 18 n43) (u2 (u2 fa 12 39 n14) 12 40 n15) (u2 (u2 la 12 42 f44) 12 43 f34)) H := hP
            have hD : va_D A (WM h g ca (u2 (u2 iv 12 41 n16) 12 19 n41) (u2 (u2 lv 12 17 n42) 12 18 n43) (u2 (u2 fa 12 39 n14) 12 40 n15) (u2 (u2 la 12 42 f44) 12 43 f34)) := hD
            have yf44_0 : f44 (0 : Int32).toNatClampNeg = n20 := by rw [ef44]; exact (updL_ne (by decide)).trans yf33_0
            have yf44_1 : f44 (1 : Int32).toNatClampNeg = n31 := by rw [ef44]; exact (updL_ne (by decide)).trans yf33_1
            have yf44_2 : f44 (2 : Int32).toNatClampNeg = n42 := by rw [ef44]; exact updL_eq
            refine lv_aload_n hx hb dX12_stateOf_64 rfl (lv_at hl 7 rfl) ?_
            refine gM_12_43 hx hb ht hown hK hP m_1182 dX12_stateOf_65 ?_
            refine lv_iload hx hb dX12_stateOf_68 (lv_at hl 1 rfl) ?_
            refine lv_aload_n hx hb dX12_stateOf_70 rfl (lv_at hl 7 rfl) ?_
            refine gM_12_18 hx hb ht hown hK hP m_1157 (v := n43) rfl dX12_stateOf_71 ?_
            refine tM_12_43 hx hb hK hP hD hS (f0 := f34) rfl (i := 2) (x := n43) (vp_in_iff.mpr (by decide)) dX12_stateOf_74 (fun f45 ef45 H locs hP hD hS => ?_)
            have hP : va_P (dC, dI) classes (WM h g ca (u2 (u2 iv 12 41 n16) 12 19 n41) (u2 (u2 lv 12 17 n42) 12 18 n43) (u2 (u2 fa 12 39 n14) 12 40 n15) (u2 (u2 la 12 42 f44) 12 43 f45)) H := hP
            have hD : va_D A (WM h g ca (u2 (u2 iv 12 41 n16) 12 19 n41) (u2 (u2 lv 12 17 n42) 12 18 n43) (u2 (u2 fa 12 39 n14) 12 40 n15) (u2 (u2 la 12 42 f44) 12 43 f45)) := hD
            have yf45_0 : f45 (0 : Int32).toNatClampNeg = n21 := by rw [ef45]; exact (updL_ne (by decide)).trans yf34_0
            have yf45_1 : f45 (1 : Int32).toNatClampNeg = n32 := by rw [ef45]; exact (updL_ne (by decide)).trans yf34_1
            have yf45_2 : f45 (2 : Int32).toNatClampNeg = n43 := by rw [ef45]; exact updL_eq
            refine lv_iload hx hb dX12_stateOf_75 (lv_at hl 2 rfl) ?_
            refine lv_iload hx hb dX12_stateOf_77 (lv_at hl 0 rfl) ?_
            refine lv_iload_n hx hb dX12_stateOf_79 rfl (lv_at hl 6 rfl) ?_
            refine lv_icmp_lt (tgt := 87) hx hb dX12_stateOf_80 (by decide) (fun c46 => ?_) (fun c46 => ?_)
            · have fc46 := z_lt (rfl : (r40).toInt = _) (rfl : (r1).toInt = _) c46
              refine lv_iconst (v := 0) hx hb dX12_stateOf_87 (by decide) ?_
              refine vp_callSi (W.runS (As := [.int 0]) (rest := [.int 0]) ⟨hx, hb, hml, hown, ht⟩ (c_X12_bit_0 l dC dI) (kS 1 ht m_1396 m_1397 m_89 m_1398 rfl rfl hd_X12_bit_v ⟨Nat.le_of_ble_eq_true rfl, Nat.le_of_ble_eq_true rfl⟩) (sR noP (hK.sub (tys' := []) [] rfl)) rfl rfl hl.1 rfl (lv_room (Nat.le_of_ble_eq_true rfl)) dX12_stateOf_88 ⟨Nat.le_of_ble_eq_true rfl, Nat.le_of_ble_eq_true rfl⟩) (fun r47 hr47 => ?_)
              obtain rfl : 0 = r47 := hr47.symm
              refine lv_iload hx hb dX12_stateOf_91 (lv_at hl 1 rfl) ?_
              refine lv_ishl hx hb dX12_stateOf_93 ?_
              refine lv_topi (fun v48 ev48 => ?_)
              obtain rfl : 0 = v48 := (ev48.trans (by decide)).symm
              refine lv_ior hx hb dX12_stateOf_94 ?_
              refine lv_topi (fun v49 ev49 => ?_)
              obtain rfl : 0 = v49 := (ev49.trans (by decide)).symm
              refine lv_istore (lv' := [(7, .int 0), (9, .int r40), (8, .int 2), (6, .int r13), (5, .int r9), (4, .int r5), (3, .int r1), (0, .ref h), (1, .int a), (2, .int b)]) hx hb dX12_stateOf_95 hl (by decide) rfl (fun ls hl => ?_)
              refine lv_iinc (v := 3) (lv' := [(8, .int 3), (7, .int 0), (9, .int r40), (6, .int r13), (5, .int r9), (4, .int r5), (3, .int r1), (0, .ref h), (1, .int a), (2, .int b)]) hx hb dX12_stateOf_97 hl (k := 2) rfl (by decide) (by decide) rfl (fun ls hl => ?_)
              refine lv_goto (tgt := 37) hx hb dX12_stateOf_100 (by decide) ?_
              refine lv_iload hx hb dX12_stateOf_37 (lv_at hl 0 rfl) ?_
              refine lv_iconst (v := 3) hx hb dX12_stateOf_39 (by decide) ?_
              refine lv_icmp_ge (tgt := 103) hx hb dX12_stateOf_40 (by decide) (fun c50 => ?_) (fun c50 => ?_)
              · skip
                refine lv_iload hx hb dX12_stateOf_103 (lv_at hl 5 rfl) ?_
                refine lv_iconst (v := 1) hx hb dX12_stateOf_105 (by decide) ?_
                refine lv_icmp_ne (tgt := 119) hx hb dX12_stateOf_106 (by decide) (fun c51 => ?_) (fun c51 => ?_)
                · have fc51 := z_ne (rfl : (r5).toInt = _) (by decide : (1 : Int32).toInt = 1) c51
                  refine lv_iload hx hb dX12_stateOf_119 (lv_at hl 1 rfl) ?_
                  refine lv_iconst (v := 3) hx hb dX12_stateOf_121 (by decide) ?_
                  refine lv_iand hx hb dX12_stateOf_122 ?_
                  refine lv_topi (fun v52 ev52 => ?_)
                  obtain rfl : 0 = v52 := (ev52.trans (by decide)).symm
                  refine lv_iconst (v := 3) hx hb dX12_stateOf_123 (by decide) ?_
                  refine lv_icmp_eq (tgt := 129) hx hb dX12_stateOf_124 (by decide) (fun c53 => ?_) (fun c53 => ?_)
                  · exact absurd c53 (by decide)
                  · skip
                    refine lv_iconst (v := 0) hx hb dX12_stateOf_127 (by decide) ?_
                    have : (0 : Int32).toInt = 0 := (by decide)
                    have hP9 : va_P (dC, dI) classes (WM h g ca (u2 (u2 iv 12 19 n41) 12 41 n16) (u2 (u2 (u2 (u2 lv 12 17 n42) 12 18 n43) 12 44 (lv 12 44)) 12 45 (lv 12 45)) (u2 (u2 fa 12 39 n14) 12 40 n15) (u2 (u2 la 12 42 f44) 12 43 f45)) H := hP
                    have hD9 : va_D A (WM h g ca (u2 (u2 iv 12 19 n41) 12 41 n16) (u2 (u2 (u2 (u2 lv 12 17 n42) 12 18 n43) 12 44 (lv 12 44)) 12 45 (lv 12 45)) (u2 (u2 fa 12 39 n14) 12 40 n15) (u2 (u2 la 12 42 f44) 12 43 f45)) := hD
                    exact W.iret (v := 0) hx hb hr (fun t ht9 hW => ⟨⟨0, ((u2 (u2 iv 12 19 n41) 12 41 n16), (u2 (u2 (u2 (u2 lv 12 17 n42) 12 18 n43) 12 44 (lv 12 44)) 12 45 (lv 12 45)), (u2 (u2 fa 12 39 n14) 12 40 n15), (u2 (u2 la 12 42 f44) 12 43 f45)), rfl, ⟨n14, n15, f44, f45, n41, n16, n42, n43, (lv 12 44), (lv 12 45), hn14, hn15, (show inb (0, 8) n16 from ⟨by omega, by omega⟩), (show ((0 : Int32).toInt ≠ 1 ∨ (1 ≤ ((lv 12 45) : Int64).toInt ∧ ((lv 12 45) : Int64).toInt ≤ 719856007200)) from by omega), ⟨by decide, by decide⟩, rfl⟩, by rw [ht9]; exact hP9, hD9⟩, hS.F ht9⟩) hS.2.2 dX12_stateOf_128
                · have fc51 := z_eq (rfl : (r5).toInt = _) (by decide : (1 : Int32).toInt = 1) c51
                  refine lv_aload_n hx hb dX12_stateOf_109 rfl (lv_at hl 7 rfl) ?_
                  refine lv_iconst (v := 0) hx hb dX12_stateOf_110 (by decide) ?_
                  have hFc := free_all hD hS hA
                  refine va_callv (va_runV (As := [.int 0]) (rest := []) ⟨hx, hb, hml, hown, ht⟩ (c_X12_only l dC dI H.size h g ca (u2 (u2 iv 12 41 n16) 12 19 n41) (u2 (u2 lv 12 17 n42) 12 18 n43) (u2 (u2 fa 12 39 n14) 12 40 n15) (u2 (u2 la 12 42 f44) 12 43 f45) (IX_a (c := 12) (k := 40) (IX_a (c := 12) (k := 39) (IX_i (c := 12) (k := 19) (IX_i (c := 12) (k := 41) hI (show inb (0, 8) n16 from ⟨by omega, by omega⟩)) (full_i _)) hn14) hn15) 0 ⟨by decide, by decide⟩) (kV 1 ht m_1536 m_1538 m_59 m_89 m_1539 rfl rfl hd_X12_only_v ⟨Nat.le_of_ble_eq_true rfl, Nat.le_of_ble_eq_true rfl⟩) (vW hP hK hD (rM_12 hK hP)) rfl rfl hl.1 rfl (lv_room (Nat.le_of_ble_eq_true rfl)) dX12_stateOf_111 ⟨Nat.le_of_ble_eq_true rfl, Nat.le_of_ble_eq_true rfl⟩) hS (fun q _ h => hFc q h) hFc (fun u t H1 locs ht9 hvm hr54 hB hz1 hk1 hS => ?_)
                  obtain ⟨n55, n56, rfl⟩ := hr54
                  obtain ⟨hP, hD⟩ := hB
                  rw [ht9] at hP
                  generalize H1 = H at hP hS ⊢
                  have hP : va_P (dC, dI) classes (WM h g ca (u2 (u2 iv 12 41 n16) 12 19 n41) (u2 (u2 (u2 (u2 lv 12 17 n42) 12 18 n43) 12 44 n55) 12 45 n56) (u2 (u2 fa 12 39 n14) 12 40 n15) (u2 (u2 la 12 42 f44) 12 43 f45)) H := hP
                  have hD : va_D A (WM h g ca (u2 (u2 iv 12 41 n16) 12 19 n41) (u2 (u2 (u2 (u2 lv 12 17 n42) 12 18 n43) 12 44 n55) 12 45 n56) (u2 (u2 fa 12 39 n14) 12 40 n15) (u2 (u2 la 12 42 f44) 12 43 f45)) := (show va_D _ (WM h g ca (u2 (u2 iv 12 41 n16) 12 19 n41) (u2 (u2 (u2 (u2 lv 12 17 n42) 12 18 n43) 12 44 n55) 12 45 n56) (u2 (u2 fa 12 39 n14) 12 40 n15) (u2 (u2 la 12 42 f44) 12 43 f45)) from hD).weaken (fun _ _ _ h => hFc _ h)
                  refine lv_iload hx hb dX12_stateOf_114 (lv_at hl 1 rfl) ?_
                  refine lv_iconst (v := 1) hx hb dX12_stateOf_116 (by decide) ?_
                  refine lv_iand hx hb dX12_stateOf_117 ?_
                  refine lv_topi (fun v57 ev57 => ?_)
                  obtain rfl : 0 = v57 := (ev57.trans (by decide)).symm
                  have : (0 : Int32).toInt = 0 := (by decide)
                  have hP9 : va_P (dC, dI) classes (WM h g ca (u2 (u2 iv 12 19 n41) 12 41 n16) (u2 (u2 (u2 (u2 lv 12 17 n42) 12 18 n43) 12 44 n55) 12 45 n56) (u2 (u2 fa 12 39 n14) 12 40 n15) (u2 (u2 la 12 42 f44) 12 43 f45)) H := hP
                  have hD9 : va_D A (WM h g ca (u2 (u2 iv 12 19 n41) 12 41 n16) (u2 (u2 (u2 (u2 lv 12 17 n42) 12 18 n43) 12 44 n55) 12 45 n56) (u2 (u2 fa 12 39 n14) 12 40 n15) (u2 (u2 la 12 42 f44) 12 43 f45)) := hD
                  exact W.iret (v := 0) hx hb hr (fun t ht9 hW => ⟨⟨0, ((u2 (u2 iv 12 19 n41) 12 41 n16), (u2 (u2 (u2 (u2 lv 12 17 n42) 12 18 n43) 12 44 n55) 12 45 n56), (u2 (u2 fa 12 39 n14) 12 40 n15), (u2 (u2 la 12 42 f44) 12 43 f45)), rfl, ⟨n14, n15, f44, f45, n41, n16, n42, n43, n55, n56, hn14, hn15, (show inb (0, 8) n16 from ⟨by omega, by omega⟩), (show ((0 : Int32).toInt ≠ 1 ∨ (1 ≤ (n56 : Int64).toInt ∧ (n56 : Int64).toInt ≤ 719856007200)) from by omega), ⟨by decide, by decide⟩, rfl⟩, by rw [ht9]; exact hP9, hD9⟩, hS.F ht9⟩) hS.2.2 dX12_stateOf_118
              · exact absurd c50 (by decide)
            · have fc46 := z_nlt (rfl : (r40).toInt = _) (rfl : (r1).toInt = _) c46
              refine lv_iconst (v := 1) hx hb dX12_stateOf_83 (by decide) ?_
              refine lv_goto (tgt := 88) hx hb dX12_stateOf_84 (by decide) ?_
              refine vp_callSi (W.runS (As := [.int 1]) (rest := [.int 0]) ⟨hx, hb, hml, hown, ht⟩ (c_X12_bit_1 l dC dI) (kS 1 ht m_1396 m_1397 m_89 m_1398 rfl rfl hd_X12_bit_v ⟨Nat.le_of_ble_eq_true rfl, Nat.le_of_ble_eq_true rfl⟩) (sR noP (hK.sub (tys' := []) [] rfl)) rfl rfl hl.1 rfl (lv_room (Nat.le_of_ble_eq_true rfl)) dX12_stateOf_88 ⟨Nat.le_of_ble_eq_true rfl, Nat.le_of_ble_eq_true rfl⟩) (fun r58 hr58 => ?_)
              obtain rfl : 1 = r58 := hr58.symm
              refine lv_iload hx hb dX12_stateOf_91 (lv_at hl 1 rfl) ?_
              refine lv_ishl hx hb dX12_stateOf_93 ?_
              refine lv_topi (fun v59 ev59 => ?_)
              obtain rfl : 4 = v59 := (ev59.trans (by decide)).symm
              refine lv_ior hx hb dX12_stateOf_94 ?_
              refine lv_topi (fun v60 ev60 => ?_)
              obtain rfl : 4 = v60 := (ev60.trans (by decide)).symm
              refine lv_istore (lv' := [(7, .int 4), (9, .int r40), (8, .int 2), (6, .int r13), (5, .int r9), (4, .int r5), (3, .int r1), (0, .ref h), (1, .int a), (2, .int b)]) hx hb dX12_stateOf_95 hl (by decide) rfl (fun ls hl => ?_)
              refine lv_iinc (v := 3) (lv' := [(8, .int 3), (7, .int 4), (9, .int r40), (6, .int r13), (5, .int r9), (4, .int r5), (3, .int r1), (0, .ref h), (1, .int a), (2, .int b)]) hx hb dX12_stateOf_97 hl (k := 2) rfl (by decide) (by decide) rfl (fun ls hl => ?_)
              refine lv_goto (tgt := 37) hx hb dX12_stateOf_100 (by decide) ?_
              refine lv_iload hx hb dX12_stateOf_37 (lv_at hl 0 rfl) ?_
              refine lv_iconst (v := 3) hx hb dX12_stateOf_39 (by decide) ?_
              refine lv_icmp_ge (tgt := 103) hx hb dX12_stateOf_40 (by decide) (fun c61 => ?_) (fun c61 => ?_)
              · skip
                refine lv_iload hx hb dX12_stateOf_103 (lv_at hl 5 rfl) ?_
                refine lv_iconst (v := 1) hx hb dX12_stateOf_105 (by decide) ?_
                refine lv_icmp_ne (tgt := 119) hx hb dX12_stateOf_106 (by decide) (fun c62 => ?_) (fun c62 => ?_)
                · have fc62 := z_ne (rfl : (r5).toInt = _) (by decide : (1 : Int32).toInt = 1) c62
                  refine lv_iload hx hb dX12_stateOf_119 (lv_at hl 1 rfl) ?_
                  refine lv_iconst (v := 3) hx hb dX12_stateOf_121 (by decide) ?_
                  refine lv_iand hx hb dX12_stateOf_122 ?_
                  refine lv_topi (fun v63 ev63 => ?_)
                  obtain rfl : 0 = v63 := (ev63.trans (by decide)).symm
                  refine lv_iconst (v := 3) hx hb dX12_stateOf_123 (by decide) ?_
                  refine lv_icmp_eq (tgt := 129) hx hb dX12_stateOf_124 (by decide) (fun c64 => ?_) (fun c64 => ?_)
                  · exact absurd c64 (by decide)
                  · skip
                    refine lv_iconst (v := 0) hx hb dX12_stateOf_127 (by decide) ?_
                    have : (0 : Int32).toInt = 0 := (by decide)
                    have hP9 : va_P (dC, dI) classes (WM h g ca (u2 (u2 iv 12 19 n41) 12 41 n16) (u2 (u2 (u2 (u2 lv 12 17 n42) 12 18 n43) 12 44 (lv 12 44)) 12 45 (lv 12 45)) (u2 (u2 fa 12 39 n14) 12 40 n15) (u2 (u2 la 12 42 f44) 12 43 f45)) H := hP
                    have hD9 : va_D A (WM h g ca (u2 (u2 iv 12 19 n41) 12 41 n16) (u2 (u2 (u2 (u2 lv 12 17 n42) 12 18 n43) 12 44 (lv 12 44)) 12 45 (lv 12 45)) (u2 (u2 fa 12 39 n14) 12 40 n15) (u2 (u2 la 12 42 f44) 12 43 f45)) := hD
                    exact W.iret (v := 0) hx hb hr (fun t ht9 hW => ⟨⟨0, ((u2 (u2 iv 12 19 n41) 12 41 n16), (u2 (u2 (u2 (u2 lv 12 17 n42) 12 18 n43) 12 44 (lv 12 44)) 12 45 (lv 12 45)), (u2 (u2 fa 12 39 n14) 12 40 n15), (u2 (u2 la 12 42 f44) 12 43 f45)), rfl, ⟨n14, n15, f44, f45, n41, n16, n42, n43, (lv 12 44), (lv 12 45), hn14, hn15, (show inb (0, 8) n16 from ⟨by omega, by omega⟩), (show ((0 : Int32).toInt ≠ 1 ∨ (1 ≤ ((lv 12 45) : Int64).toInt ∧ ((lv 12 45) : Int64).toInt ≤ 719856007200)) from by omega), ⟨by decide, by decide⟩, rfl⟩, by rw [ht9]; exact hP9, hD9⟩, hS.F ht9⟩) hS.2.2 dX12_stateOf_128
                · have fc62 := z_eq (rfl : (r5).toInt = _) (by decide : (1 : Int32).toInt = 1) c62
                  refine lv_aload_n hx hb dX12_stateOf_109 rfl (lv_at hl 7 rfl) ?_
                  refine lv_iconst (v := 0) hx hb dX12_stateOf_110 (by decide) ?_
                  have hFc := free_all hD hS hA
                  refine va_callv (va_runV (As := [.int 0]) (rest := []) ⟨hx, hb, hml, hown, ht⟩ (c_X12_only l dC dI H.size h g ca (u2 (u2 iv 12 41 n16) 12 19 n41) (u2 (u2 lv 12 17 n42) 12 18 n43) (u2 (u2 fa 12 39 n14) 12 40 n15) (u2 (u2 la 12 42 f44) 12 43 f45) (IX_a (c := 12) (k := 40) (IX_a (c := 12) (k := 39) (IX_i (c := 12) (k := 19) (IX_i (c := 12) (k := 41) hI (show inb (0, 8) n16 from ⟨by omega, by omega⟩)) (full_i _)) hn14) hn15) 0 ⟨by decide, by decide⟩) (kV 1 ht m_1536 m_1538 m_59 m_89 m_1539 rfl rfl hd_X12_only_v ⟨Nat.le_of_ble_eq_true rfl, Nat.le_of_ble_eq_true rfl⟩) (vW hP hK hD (rM_12 hK hP)) rfl rfl hl.1 rfl (lv_room (Nat.le_of_ble_eq_true rfl)) dX12_stateOf_111 ⟨Nat.le_of_ble_eq_true rfl, Nat.le_of_ble_eq_true rfl⟩) hS (fun q _ h => hFc q h) hFc (fun u t H1 locs ht9 hvm hr65 hB hz1 hk1 hS => ?_)
                  obtain ⟨n66, n67, rfl⟩ := hr65
                  obtain ⟨hP, hD⟩ := hB
                  rw [ht9] at hP
                  generalize H1 = H at hP hS ⊢
                  have hP : va_P (dC, dI) classes (WM h g ca (u2 (u2 iv 12 41 n16) 12 19 n41) (u2 (u2 (u2 (u2 lv 12 17 n42) 12 18 n43) 12 44 n66) 12 45 n67) (u2 (u2 fa 12 39 n14) 12 40 n15) (u2 (u2 la 12 42 f44) 12 43 f45)) H := hP
                  have hD : va_D A (WM h g ca (u2 (u2 iv 12 41 n16) 12 19 n41) (u2 (u2 (u2 (u2 lv 12 17 n42) 12 18 n43) 12 44 n66) 12 45 n67) (u2 (u2 fa 12 39 n14) 12 40 n15) (u2 (u2 la 12 42 f44) 12 43 f45)) := (show va_D _ (WM h g ca (u2 (u2 iv 12 41 n16) 12 19 n41) (u2 (u2 (u2 (u2 lv 12 17 n42) 12 18 n43) 12 44 n66) 12 45 n67) (u2 (u2 fa 12 39 n14) 12 40 n15) (u2 (u2 la 12 42 f44) 12 43 f45)) from hD).weaken (fun _ _ _ h => hFc _ h)
                  refine lv_iload hx hb dX12_stateOf_114 (lv_at hl 1 rfl) ?_
                  refine lv_iconst (v := 1) hx hb dX12_stateOf_116 (by decide) ?_
                  refine lv_iand hx hb dX12_stateOf_117 ?_
                  refine lv_topi (fun v68 ev68 => ?_)
                  obtain rfl : 0 = v68 := (ev68.trans (by decide)).symm
                  have : (0 : Int32).toInt = 0 := (by decide)
                  have hP9 : va_P (dC, dI) classes (WM h g ca (u2 (u2 iv 12 19 n41) 12 41 n16) (u2 (u2 (u2 (u2 lv 12 17 n42) 12 18 n43) 12 44 n66) 12 45 n67) (u2 (u2 fa 12 39 n14) 12 40 n15) (u2 (u2 la 12 42 f44) 12 43 f45)) H := hP
                  have hD9 : va_D A (WM h g ca (u2 (u2 iv 12 19 n41) 12 41 n16) (u2 (u2 (u2 (u2 lv 12 17 n42) 12 18 n43) 12 44 n66) 12 45 n67) (u2 (u2 fa 12 39 n14) 12 40 n15) (u2 (u2 la 12 42 f44) 12 43 f45)) := hD
                  exact W.iret (v := 0) hx hb hr (fun t ht9 hW => ⟨⟨0, ((u2 (u2 iv 12 19 n41) 12 41 n16), (u2 (u2 (u2 (u2 lv 12 17 n42) 12 18 n43) 12 44 n66) 12 45 n67), (u2 (u2 fa 12 39 n14) 12 40 n15), (u2 (u2 la 12 42 f44) 12 43 f45)), rfl, ⟨n14, n15, f44, f45, n41, n16, n42, n43, n66, n67, hn14, hn15, (show inb (0, 8) n16 from ⟨by omega, by omega⟩), (show ((0 : Int32).toInt ≠ 1 ∨ (1 ≤ (n67 : Int64).toInt ∧ (n67 : Int64).toInt ≤ 719856007200)) from by omega), ⟨by decide, by decide⟩, rfl⟩, by rw [ht9]; exact hP9, hD9⟩, hS.F ht9⟩) hS.2.2 dX12_stateOf_118
              · exact absurd c61 (by decide)
        · have fc35 := z_nlt (rfl : (r29).toInt = _) (rfl : (r1).toInt = _) c35
          refine lv_iconst (v := 1) hx hb dX12_stateOf_83 (by decide) ?_
          refine lv_goto (tgt := 88) hx hb dX12_stateOf_84 (by decide) ?_
          refine vp_callSi (W.runS (As := [.int 1]) (rest := [.int 0]) ⟨hx, hb, hml, hown, ht⟩ (c_X12_bit_1 l dC dI) (kS 1 ht m_1396 m_1397 m_89 m_1398 rfl rfl hd_X12_bit_v ⟨Nat.le_of_ble_eq_true rfl, Nat.le_of_ble_eq_true rfl⟩) (sR noP (hK.sub (tys' := []) [] rfl)) rfl rfl hl.1 rfl (lv_room (Nat.le_of_ble_eq_true rfl)) dX12_stateOf_88 ⟨Nat.le_of_ble_eq_true rfl, Nat.le_of_ble_eq_true rfl⟩) (fun r69 hr69 => ?_)
          obtain rfl : 1 = r69 := hr69.symm
          refine lv_iload hx hb dX12_stateOf_91 (lv_at hl 1 rfl) ?_
          refine lv_ishl hx hb dX12_stateOf_93 ?_
          refine lv_topi (fun v70 ev70 => ?_)
          obtain rfl : 2 = v70 := (ev70.trans (by decide)).symm
          refine lv_ior hx hb dX12_stateOf_94 ?_
          refine lv_topi (fun v71 ev71 => ?_)
          obtain rfl : 2 = v71 := (ev71.trans (by decide)).symm
          refine lv_istore (lv' := [(7, .int 2), (9, .int r29), (8, .int 1), (6, .int r13), (5, .int r9), (4, .int r5), (3, .int r1), (0, .ref h), (1, .int a), (2, .int b)]) hx hb dX12_stateOf_95 hl (by decide) rfl (fun ls hl => ?_)
          refine lv_iinc (v := 2) (lv' := [(8, .int 2), (7, .int 2), (9, .int r29), (6, .int r13), (5, .int r9), (4, .int r5), (3, .int r1), (0, .ref h), (1, .int a), (2, .int b)]) hx hb dX12_stateOf_97 hl (k := 2) rfl (by decide) (by decide) rfl (fun ls hl => ?_)
          refine lv_goto (tgt := 37) hx hb dX12_stateOf_100 (by decide) ?_
          refine lv_iload hx hb dX12_stateOf_37 (lv_at hl 0 rfl) ?_
          refine lv_iconst (v := 3) hx hb dX12_stateOf_39 (by decide) ?_
          refine lv_icmp_ge (tgt := 103) hx hb dX12_stateOf_40 (by decide) (fun c72 => ?_) (fun c72 => ?_)
          · exact absurd c72 (by decide)
          · skip
            refine lv_aload_n hx hb dX12_stateOf_43 rfl (lv_at hl 7 rfl) ?_
            refine lv_iload_n hx hb dX12_stateOf_44 rfl (lv_at hl 8 rfl) ?_
            refine lv_iload hx hb dX12_stateOf_45 (lv_at hl 0 rfl) ?_
            refine lv_iload_n hx hb dX12_stateOf_47 rfl (lv_at hl 9 rfl) ?_
            have hFc := free_all hD hS hA
            refine va_calli (va_runV (As := [.int a, .int 2, .int b]) (rest := []) ⟨hx, hb, hml, hown, ht⟩ (c_X12_sumUp_x l dC dI H.size h g ca (u2 (u2 iv 12 41 n16) 12 19 n30) (u2 (u2 lv 12 17 n31) 12 18 n32) (u2 (u2 fa 12 39 n14) 12 40 n15) (u2 (u2 la 12 42 f33) 12 43 f34) (IX_a (c := 12) (k := 40) (IX_a (c := 12) (k := 39) (IX_i (c := 12) (k := 19) (IX_i (c := 12) (k := 41) hI (show inb (0, 8) n16 from ⟨by omega, by omega⟩)) (full_i _)) hn14) hn15) a 2 b hJR) (kV 3 ht m_1434 m_1436 m_45 m_89 m_1437 rfl rfl hd_X12_sumUp_v ⟨Nat.le_of_ble_eq_true rfl, Nat.le_of_ble_eq_true rfl⟩) (vW hP hK hD (rM_12 hK hP)) rfl rfl hl.1 rfl (lv_room (Nat.le_of_ble_eq_true rfl)) dX12_stateOf_48 ⟨Nat.le_of_ble_eq_true rfl, Nat.le_of_ble_eq_true rfl⟩) hS (fun q _ h => hFc q h) hFc (fun r73 u t H1 locs ht9 hvm hr73 hB hz1 hk1 hS => ?_)
            obtain ⟨n74, n75, n76, xr73_0, xr73_1, xr73_2, xr73_3, xr73_4, hr73, rfl⟩ := hr73
            obtain ⟨hP, hD⟩ := hB
            rw [ht9] at hP
            generalize H1 = H at hP hS ⊢
            have hP : va_P (dC, dI) classes (WM h g ca (u2 (u2 iv 12 41 n16) 12 19 n74) (u2 (u2 lv 12 17 n75) 12 18 n76) (u2 (u2 fa 12 39 n14) 12 40 n15) (u2 (u2 la 12 42 f33) 12 43 f34)) H := hP
            have hD : va_D A (WM h g ca (u2 (u2 iv 12 41 n16) 12 19 n74) (u2 (u2 lv 12 17 n75) 12 18 n76) (u2 (u2 fa 12 39 n14) 12 40 n15) (u2 (u2 la 12 42 f33) 12 43 f34)) := (show va_D _ (WM h g ca (u2 (u2 iv 12 41 n16) 12 19 n74) (u2 (u2 lv 12 17 n75) 12 18 n76) (u2 (u2 fa 12 39 n14) 12 40 n15) (u2 (u2 la 12 42 f33) 12 43 f34)) from hD).weaken (fun _ _ _ h => hFc _ h)
            have xr73_0 : 0 ≤ (r73 : Int32).toInt := xr73_0
            have xr73_1 : (r73 : Int32).toInt ≤ 60 := xr73_1
            have xr73_2 : 0 ≤ (n76 : Int64).toInt := xr73_2
            have xr73_3 : (n76 : Int64).toInt ≤ 599940 := xr73_3
            have xr73_4 : 100 * (r73 : Int32).toInt ≤ (n76 : Int64).toInt := xr73_4
            refine lv_istore (lv' := [(9, .int r73), (8, .int 2), (7, .int 2), (6, .int r13), (5, .int r9), (4, .int r5), (3, .int r1), (0, .ref h), (1, .int a), (2, .int b)]) hx hb dX12_stateOf_51 hl (by decide) rfl (fun ls hl => ?_)
            refine lv_aload_n hx hb dX12_stateOf_53 rfl (lv_at hl 7 rfl) ?_
            refine gM_12_42 hx hb ht hown hK hP m_1181 dX12_stateOf_54 ?_
            refine lv_iload hx hb dX12_stateOf_57 (lv_at hl 1 rfl) ?_
            refine lv_aload_n hx hb dX12_stateOf_59 rfl (lv_at hl 7 rfl) ?_
            refine gM_12_17 hx hb ht hown hK hP m_1156 (v := n75) rfl dX12_stateOf_60 ?_
            refine tM_12_42 hx hb hK hP hD hS (f0 := f33) rfl (i := 2) (x := n75) (vp_in_iff.mpr (by decide)) dX12_stateOf_63 (fun f77 ef77 H locs hP hD hS => ?_)
            have hP : va_P (dC, dI) classes (WM h g ca (u2 (u2 iv 12 41 n16) 12 19 n74) (u2 (u2 lv 12 17 n75) 12 18 n76) (u2 (u2 fa 12 39 n14) 12 40 n15) (u2 (u2 la 12 42 f77) 12 43 f34)) H := hP
            have hD : va_D A (WM h g ca (u2 (u2 iv 12 41 n16) 12 19 n74) (u2 (u2 lv 12 17 n75) 12 18 n76) (u2 (u2 fa 12 39 n14) 12 40 n15) (u2 (u2 la 12 42 f77) 12 43 f34)) := hD
            have yf77_0 : f77 (0 : Int32).toNatClampNeg = n20 := by rw [ef77]; exact (updL_ne (by decide)).trans yf33_0
            have yf77_1 : f77 (1 : Int32).toNatClampNeg = n31 := by rw [ef77]; exact (updL_ne (by decide)).trans yf33_1
            have yf77_2 : f77 (2 : Int32).toNatClampNeg = n75 := by rw [ef77]; exact updL_eq
            refine lv_aload_n hx hb dX12_stateOf_64 rfl (lv_at hl 7 rfl) ?_
            refine gM_12_43 hx hb ht hown hK hP m_1182 dX12_stateOf_65 ?_
            refine lv_iload hx hb dX12_stateOf_68 (lv_at hl 1 rfl) ?_
            refine lv_aload_n hx hb dX12_stateOf_70 rfl (lv_at hl 7 rfl) ?_
            refine gM_12_18 hx hb ht hown hK hP m_1157 (v := n76) rfl dX12_stateOf_71 ?_
            refine tM_12_43 hx hb hK hP hD hS (f0 := f34) rfl (i := 2) (x := n76) (vp_in_iff.mpr (by decide)) dX12_stateOf_74 (fun f78 ef78 H locs hP hD hS => ?_)
            have hP : va_P (dC, dI) classes (WM h g ca (u2 (u2 iv 12 41 n16) 12 19 n74) (u2 (u2 lv 12 17 n75) 12 18 n76) (u2 (u2 fa 12 39 n14) 12 40 n15) (u2 (u2 la 12 42 f77) 12 43 f78)) H := hP
            have hD : va_D A (WM h g ca (u2 (u2 iv 12 41 n16) 12 19 n74) (u2 (u2 lv 12 17 n75) 12 18 n76) (u2 (u2 fa 12 39 n14) 12 40 n15) (u2 (u2 la 12 42 f77) 12 43 f78)) := hD
            have yf78_0 : f78 (0 : Int32).toNatClampNeg = n21 := by rw [ef78]; exact (updL_ne (by decide)).trans yf34_0
            have yf78_1 : f78 (1 : Int32).toNatClampNeg = n32 := by rw [ef78]; exact (updL_ne (by decide)).trans yf34_1
            have yf78_2 : f78 (2 : Int32).toNatClampNeg = n76 := by rw [ef78]; exact updL_eq
            refine lv_iload hx hb dX12_stateOf_75 (lv_at hl 2 rfl) ?_
            refine lv_iload hx hb dX12_stateOf_77 (lv_at hl 0 rfl) ?_
            refine lv_iload_n hx hb dX12_stateOf_79 rfl (lv_at hl 6 rfl) ?_
            refine lv_icmp_lt (tgt := 87) hx hb dX12_stateOf_80 (by decide) (fun c79 => ?_) (fun c79 => ?_)
            · have fc79 := z_lt (rfl : (r73).toInt = _) (rfl : (r1).toInt = _) c79
              refine lv_iconst (v := 0) hx hb dX12_stateOf_87 (by decide) ?_
              refine vp_callSi (W.runS (As := [.int 0]) (rest := [.int 2]) ⟨hx, hb, hml, hown, ht⟩ (c_X12_bit_0 l dC dI) (kS 1 ht m_1396 m_1397 m_89 m_1398 rfl rfl hd_X12_bit_v ⟨Nat.le_of_ble_eq_true rfl, Nat.le_of_ble_eq_true rfl⟩) (sR noP (hK.sub (tys' := []) [] rfl)) rfl rfl hl.1 rfl (lv_room (Nat.le_of_ble_eq_true rfl)) dX12_stateOf_88 ⟨Nat.le_of_ble_eq_true rfl, Nat.le_of_ble_eq_true rfl⟩) (fun r80 hr80 => ?_)
              obtain rfl : 0 = r80 := hr80.symm
              refine lv_iload hx hb dX12_stateOf_91 (lv_at hl 1 rfl) ?_
              refine lv_ishl hx hb dX12_stateOf_93 ?_
              refine lv_topi (fun v81 ev81 => ?_)
              obtain rfl : 0 = v81 := (ev81.trans (by decide)).symm
              refine lv_ior hx hb dX12_stateOf_94 ?_
              refine lv_topi (fun v82 ev82 => ?_)
              obtain rfl : 2 = v82 := (ev82.trans (by decide)).symm
              refine lv_istore (lv' := [(7, .int 2), (9, .int r73), (8, .int 2), (6, .int r13), (5, .int r9), (4, .int r5), (3, .int r1), (0, .ref h), (1, .int a), (2, .int b)]) hx hb dX12_stateOf_95 hl (by decide) rfl (fun ls hl => ?_)
              refine lv_iinc (v := 3) (lv' := [(8, .int 3), (7, .int 2), (9, .int r73), (6, .int r13), (5, .int r9), (4, .int r5), (3, .int r1), (0, .ref h), (1, .int a), (2, .int b)]) hx hb dX12_stateOf_97 hl (k := 2) rfl (by decide) (by decide) rfl (fun ls hl => ?_)
              refine lv_goto (tgt := 37) hx hb dX12_stateOf_100 (by decide) ?_
              refine lv_iload hx hb dX12_stateOf_37 (lv_at hl 0 rfl) ?_
              refine lv_iconst (v := 3) hx hb dX12_stateOf_39 (by decide) ?_
              refine lv_icmp_ge (tgt := 103) hx hb dX12_stateOf_40 (by decide) (fun c83 => ?_) (fun c83 => ?_)
              · skip
                refine lv_iload hx hb dX12_stateOf_103 (lv_at hl 5 rfl) ?_
                refine lv_iconst (v := 1) hx hb dX12_stateOf_105 (by decide) ?_
                refine lv_icmp_ne (tgt := 119) hx hb dX12_stateOf_106 (by decide) (fun c84 => ?_) (fun c84 => ?_)
                · have fc84 := z_ne (rfl : (r5).toInt = _) (by decide : (1 : Int32).toInt = 1) c84
                  refine lv_iload hx hb dX12_stateOf_119 (lv_at hl 1 rfl) ?_
                  refine lv_iconst (v := 3) hx hb dX12_stateOf_121 (by decide) ?_
                  refine lv_iand hx hb dX12_stateOf_122 ?_
                  refine lv_topi (fun v85 ev85 => ?_)
                  obtain rfl : 2 = v85 := (ev85.trans (by decide)).symm
                  refine lv_iconst (v := 3) hx hb dX12_stateOf_123 (by decide) ?_
                  refine lv_icmp_eq (tgt := 129) hx hb dX12_stateOf_124 (by decide) (fun c86 => ?_) (fun c86 => ?_)
                  · exact absurd c86 (by decide)
                  · skip
                    refine lv_iconst (v := 0) hx hb dX12_stateOf_127 (by decide) ?_
                    have : (0 : Int32).toInt = 0 := (by decide)
                    have hP9 : va_P (dC, dI) classes (WM h g ca (u2 (u2 iv 12 19 n74) 12 41 n16) (u2 (u2 (u2 (u2 lv 12 17 n75) 12 18 n76) 12 44 (lv 12 44)) 12 45 (lv 12 45)) (u2 (u2 fa 12 39 n14) 12 40 n15) (u2 (u2 la 12 42 f77) 12 43 f78)) H := hP
                    have hD9 : va_D A (WM h g ca (u2 (u2 iv 12 19 n74) 12 41 n16) (u2 (u2 (u2 (u2 lv 12 17 n75) 12 18 n76) 12 44 (lv 12 44)) 12 45 (lv 12 45)) (u2 (u2 fa 12 39 n14) 12 40 n15) (u2 (u2 la 12 42 f77) 12 43 f78)) := hD
                    exact W.iret (v := 0) hx hb hr (fun t ht9 hW => ⟨⟨0, ((u2 (u2 iv 12 19 n74) 12 41 n16), (u2 (u2 (u2 (u2 lv 12 17 n75) 12 18 n76) 12 44 (lv 12 44)) 12 45 (lv 12 45)), (u2 (u2 fa 12 39 n14) 12 40 n15), (u2 (u2 la 12 42 f77) 12 43 f78)), rfl, ⟨n14, n15, f77, f78, n74, n16, n75, n76, (lv 12 44), (lv 12 45), hn14, hn15, (show inb (0, 8) n16 from ⟨by omega, by omega⟩), (show ((0 : Int32).toInt ≠ 1 ∨ (1 ≤ ((lv 12 45) : Int64).toInt ∧ ((lv 12 45) : Int64).toInt ≤ 719856007200)) from by omega), ⟨by decide, by decide⟩, rfl⟩, by rw [ht9]; exact hP9, hD9⟩, hS.F ht9⟩) hS.2.2 dX12_stateOf_128
                · have fc84 := z_eq (rfl : (r5).toInt = _) (by decide : (1 : Int32).toInt = 1) c84
                  refine lv_aload_n hx hb dX12_stateOf_109 rfl (lv_at hl 7 rfl) ?_
                  refine lv_iconst (v := 0) hx hb dX12_stateOf_110 (by decide) ?_
                  have hFc := free_all hD hS hA
                  refine va_callv (va_runV (As := [.int 0]) (rest := []) ⟨hx, hb, hml, hown, ht⟩ (c_X12_only l dC dI H.size h g ca (u2 (u2 iv 12 41 n16) 12 19 n74) (u2 (u2 lv 12 17 n75) 12 18 n76) (u2 (u2 fa 12 39 n14) 12 40 n15) (u2 (u2 la 12 42 f77) 12 43 f78) (IX_a (c := 12) (k := 40) (IX_a (c := 12) (k := 39) (IX_i (c := 12) (k := 19) (IX_i (c := 12) (k := 41) hI (show inb (0, 8) n16 from ⟨by omega, by omega⟩)) (full_i _)) hn14) hn15) 0 ⟨by decide, by decide⟩) (kV 1 ht m_1536 m_1538 m_59 m_89 m_1539 rfl rfl hd_X12_only_v ⟨Nat.le_of_ble_eq_true rfl, Nat.le_of_ble_eq_true rfl⟩) (vW hP hK hD (rM_12 hK hP)) rfl rfl hl.1 rfl (lv_room (Nat.le_of_ble_eq_true rfl)) dX12_stateOf_111 ⟨Nat.le_of_ble_eq_true rfl, Nat.le_of_ble_eq_true rfl⟩) hS (fun q _ h => hFc q h) hFc (fun u t H1 locs ht9 hvm hr87 hB hz1 hk1 hS => ?_)
                  obtain ⟨n88, n89, rfl⟩ := hr87
                  obtain ⟨hP, hD⟩ := hB
                  rw [ht9] at hP
                  generalize H1 = H at hP hS ⊢
                  have hP : va_P (dC, dI) classes (WM h g ca (u2 (u2 iv 12 41 n16) 12 19 n74) (u2 (u2 (u2 (u2 lv 12 17 n75) 12 18 n76) 12 44 n88) 12 45 n89) (u2 (u2 fa 12 39 n14) 12 40 n15) (u2 (u2 la 12 42 f77) 12 43 f78)) H := hP
                  have hD : va_D A (WM h g ca (u2 (u2 iv 12 41 n16) 12 19 n74) (u2 (u2 (u2 (u2 lv 12 17 n75) 12 18 n76) 12 44 n88) 12 45 n89) (u2 (u2 fa 12 39 n14) 12 40 n15) (u2 (u2 la 12 42 f77) 12 43 f78)) := (show va_D _ (WM h g ca (u2 (u2 iv 12 41 n16) 12 19 n74) (u2 (u2 (u2 (u2 lv 12 17 n75) 12 18 n76) 12 44 n88) 12 45 n89) (u2 (u2 fa 12 39 n14) 12 40 n15) (u2 (u2 la 12 42 f77) 12 43 f78)) from hD).weaken (fun _ _ _ h => hFc _ h)
                  refine lv_iload hx hb dX12_stateOf_114 (lv_at hl 1 rfl) ?_
                  refine lv_iconst (v := 1) hx hb dX12_stateOf_116 (by decide) ?_
                  refine lv_iand hx hb dX12_stateOf_117 ?_
                  refine lv_topi (fun v90 ev90 => ?_)
                  obtain rfl : 0 = v90 := (ev90.trans (by decide)).symm
                  have : (0 : Int32).toInt = 0 := (by decide)
                  have hP9 : va_P (dC, dI) classes (WM h g ca (u2 (u2 iv 12 19 n74) 12 41 n16) (u2 (u2 (u2 (u2 lv 12 17 n75) 12 18 n76) 12 44 n88) 12 45 n89) (u2 (u2 fa 12 39 n14) 12 40 n15) (u2 (u2 la 12 42 f77) 12 43 f78)) H := hP
                  have hD9 : va_D A (WM h g ca (u2 (u2 iv 12 19 n74) 12 41 n16) (u2 (u2 (u2 (u2 lv 12 17 n75) 12 18 n76) 12 44 n88) 12 45 n89) (u2 (u2 fa 12 39 n14) 12 40 n15) (u2 (u2 la 12 42 f77) 12 43 f78)) := hD
                  exact W.iret (v := 0) hx hb hr (fun t ht9 hW => ⟨⟨0, ((u2 (u2 iv 12 19 n74) 12 41 n16), (u2 (u2 (u2 (u2 lv 12 17 n75) 12 18 n76) 12 44 n88) 12 45 n89), (u2 (u2 fa 12 39 n14) 12 40 n15), (u2 (u2 la 12 42 f77) 12 43 f78)), rfl, ⟨n14, n15, f77, f78, n74, n16, n75, n76, n88, n89, hn14, hn15, (show inb (0, 8) n16 from ⟨by omega, by omega⟩), (show ((0 : Int32).toInt ≠ 1 ∨ (1 ≤ (n89 : Int64).toInt ∧ (n89 : Int64).toInt ≤ 719856007200)) from by omega), ⟨by decide, by decide⟩, rfl⟩, by rw [ht9]; exact hP9, hD9⟩, hS.F ht9⟩) hS.2.2 dX12_stateOf_118
              · exact absurd c83 (by decide)
            · have fc79 := z_nlt (rfl : (r73).toInt = _) (rfl : (r1).toInt = _) c79
              refine lv_iconst (v := 1) hx hb dX12_stateOf_83 (by decide) ?_
              refine lv_goto (tgt := 88) hx hb dX12_stateOf_84 (by decide) ?_
              refine vp_callSi (W.runS (As := [.int 1]) (rest := [.int 2]) ⟨hx, hb, hml, hown, ht⟩ (c_X12_bit_1 l dC dI) (kS 1 ht m_1396 m_1397 m_89 m_1398 rfl rfl hd_X12_bit_v ⟨Nat.le_of_ble_eq_true rfl, Nat.le_of_ble_eq_true rfl⟩) (sR noP (hK.sub (tys' := []) [] rfl)) rfl rfl hl.1 rfl (lv_room (Nat.le_of_ble_eq_true rfl)) dX12_stateOf_88 ⟨Nat.le_of_ble_eq_true rfl, Nat.le_of_ble_eq_true rfl⟩) (fun r91 hr91 => ?_)
              obtain rfl : 1 = r91 := hr91.symm
              refine lv_iload hx hb dX12_stateOf_91 (lv_at hl 1 rfl) ?_
              refine lv_ishl hx hb dX12_stateOf_93 ?_
              refine lv_topi (fun v92 ev92 => ?_)
              obtain rfl : 4 = v92 := (ev92.trans (by decide)).symm
              refine lv_ior hx hb dX12_stateOf_94 ?_
              refine lv_topi (fun v93 ev93 => ?_)
              obtain rfl : 6 = v93 := (ev93.trans (by decide)).symm
              refine lv_istore (lv' := [(7, .int 6), (9, .int r73), (8, .int 2), (6, .int r13), (5, .int r9), (4, .int r5), (3, .int r1), (0, .ref h), (1, .int a), (2, .int b)]) hx hb dX12_stateOf_95 hl (by decide) rfl (fun ls hl => ?_)
              refine lv_iinc (v := 3) (lv' := [(8, .int 3), (7, .int 6), (9, .int r73), (6, .int r13), (5, .int r9), (4, .int r5), (3, .int r1), (0, .ref h), (1, .int a), (2, .int b)]) hx hb dX12_stateOf_97 hl (k := 2) rfl (by decide) (by decide) rfl (fun ls hl => ?_)
              refine lv_goto (tgt := 37) hx hb dX12_stateOf_100 (by decide) ?_
              refine lv_iload hx hb dX12_stateOf_37 (lv_at hl 0 rfl) ?_
              refine lv_iconst (v := 3) hx hb dX12_stateOf_39 (by decide) ?_
              refine lv_icmp_ge (tgt := 103) hx hb dX12_stateOf_40 (by decide) (fun c94 => ?_) (fun c94 => ?_)
              · skip
                refine lv_iload hx hb dX12_stateOf_103 (lv_at hl 5 rfl) ?_
                refine lv_iconst (v := 1) hx hb dX12_stateOf_105 (by decide) ?_
                refine lv_icmp_ne (tgt := 119) hx hb dX12_stateOf_106 (by decide) (fun c95 => ?_) (fun c95 => ?_)
                · have fc95 := z_ne (rfl : (r5).toInt = _) (by decide : (1 : Int32).toInt = 1) c95
                  refine lv_iload hx hb dX12_stateOf_119 (lv_at hl 1 rfl) ?_
                  refine lv_iconst (v := 3) hx hb dX12_stateOf_121 (by decide) ?_
                  refine lv_iand hx hb dX12_stateOf_122 ?_
                  refine lv_topi (fun v96 ev96 => ?_)
                  obtain rfl : 2 = v96 := (ev96.trans (by decide)).symm
                  refine lv_iconst (v := 3) hx hb dX12_stateOf_123 (by decide) ?_
                  refine lv_icmp_eq (tgt := 129) hx hb dX12_stateOf_124 (by decide) (fun c97 => ?_) (fun c97 => ?_)
                  · exact absurd c97 (by decide)
                  · skip
                    refine lv_iconst (v := 0) hx hb dX12_stateOf_127 (by decide) ?_
                    have : (0 : Int32).toInt = 0 := (by decide)
                    have hP9 : va_P (dC, dI) classes (WM h g ca (u2 (u2 iv 12 19 n74) 12 41 n16) (u2 (u2 (u2 (u2 lv 12 17 n75) 12 18 n76) 12 44 (lv 12 44)) 12 45 (lv 12 45)) (u2 (u2 fa 12 39 n14) 12 40 n15) (u2 (u2 la 12 42 f77) 12 43 f78)) H := hP
                    have hD9 : va_D A (WM h g ca (u2 (u2 iv 12 19 n74) 12 41 n16) (u2 (u2 (u2 (u2 lv 12 17 n75) 12 18 n76) 12 44 (lv 12 44)) 12 45 (lv 12 45)) (u2 (u2 fa 12 39 n14) 12 40 n15) (u2 (u2 la 12 42 f77) 12 43 f78)) := hD
                    exact W.iret (v := 0) hx hb hr (fun t ht9 hW => ⟨⟨0, ((u2 (u2 iv 12 19 n74) 12 41 n16), (u2 (u2 (u2 (u2 lv 12 17 n75) 12 18 n76) 12 44 (lv 12 44)) 12 45 (lv 12 45)), (u2 (u2 fa 12 39 n14) 12 40 n15), (u2 (u2 la 12 42 f77) 12 43 f78)), rfl, ⟨n14, n15, f77, f78, n74, n16, n75, n76, (lv 12 44), (lv 12 45), hn14, hn15, (show inb (0, 8) n16 from ⟨by omega, by omega⟩), (show ((0 : Int32).toInt ≠ 1 ∨ (1 ≤ ((lv 12 45) : Int64).toInt ∧ ((lv 12 45) : Int64).toInt ≤ 719856007200)) from by omega), ⟨by decide, by decide⟩, rfl⟩, by rw [ht9]; exact hP9, hD9⟩, hS.F ht9⟩) hS.2.2 dX12_stateOf_128
                · have fc95 := z_eq (rfl : (r5).toInt = _) (by decide : (1 : Int32).toInt = 1) c95
                  refine lv_aload_n hx hb dX12_stateOf_109 rfl (lv_at hl 7 rfl) ?_
                  refine lv_iconst (v := 0) hx hb dX12_stateOf_110 (by decide) ?_
                  have hFc := free_all hD hS hA
                  refine va_callv (va_runV (As := [.int 0]) (rest := []) ⟨hx, hb, hml, hown, ht⟩ (c_X12_only l dC dI H.size h g ca (u2 (u2 iv 12 41 n16) 12 19 n74) (u2 (u2 lv 12 17 n75) 12 18 n76) (u2 (u2 fa 12 39 n14) 12 40 n15) (u2 (u2 la 12 42 f77) 12 43 f78) (IX_a (c := 12) (k := 40) (IX_a (c := 12) (k := 39) (IX_i (c := 12) (k := 19) (IX_i (c := 12) (k := 41) hI (show inb (0, 8) n16 from ⟨by omega, by omega⟩)) (full_i _)) hn14) hn15) 0 ⟨by decide, by decide⟩) (kV 1 ht m_1536 m_1538 m_59 m_89 m_1539 rfl rfl hd_X12_only_v ⟨Nat.le_of_ble_eq_true rfl, Nat.le_of_ble_eq_true rfl⟩) (vW hP hK hD (rM_12 hK hP)) rfl rfl hl.1 rfl (lv_room (Nat.le_of_ble_eq_true rfl)) dX12_stateOf_111 ⟨Nat.le_of_ble_eq_true rfl, Nat.le_of_ble_eq_true rfl⟩) hS (fun q _ h => hFc q h) hFc (fun u t H1 locs ht9 hvm hr98 hB hz1 hk1 hS => ?_)
                  obtain ⟨n99, n100, rfl⟩ := hr98
                  obtain ⟨hP, hD⟩ := hB
                  rw [ht9] at hP
                  generalize H1 = H at hP hS ⊢
                  have hP : va_P (dC, dI) classes (WM h g ca (u2 (u2 iv 12 41 n16) 12 19 n74) (u2 (u2 (u2 (u2 lv 12 17 n75) 12 18 n76) 12 44 n99) 12 45 n100) (u2 (u2 fa 12 39 n14) 12 40 n15) (u2 (u2 la 12 42 f77) 12 43 f78)) H := hP
                  have hD : va_D A (WM h g ca (u2 (u2 iv 12 41 n16) 12 19 n74) (u2 (u2 (u2 (u2 lv 12 17 n75) 12 18 n76) 12 44 n99) 12 45 n100) (u2 (u2 fa 12 39 n14) 12 40 n15) (u2 (u2 la 12 42 f77) 12 43 f78)) := (show va_D _ (WM h g ca (u2 (u2 iv 12 41 n16) 12 19 n74) (u2 (u2 (u2 (u2 lv 12 17 n75) 12 18 n76) 12 44 n99) 12 45 n100) (u2 (u2 fa 12 39 n14) 12 40 n15) (u2 (u2 la 12 42 f77) 12 43 f78)) from hD).weaken (fun _ _ _ h => hFc _ h)
                  refine lv_iload hx hb dX12_stateOf_114 (lv_at hl 1 rfl) ?_
                  refine lv_iconst (v := 1) hx hb dX12_stateOf_116 (by decide) ?_
                  refine lv_iand hx hb dX12_stateOf_117 ?_
                  refine lv_topi (fun v101 ev101 => ?_)
                  obtain rfl : 0 = v101 := (ev101.trans (by decide)).symm
                  have : (0 : Int32).toInt = 0 := (by decide)
                  have hP9 : va_P (dC, dI) classes (WM h g ca (u2 (u2 iv 12 19 n74) 12 41 n16) (u2 (u2 (u2 (u2 lv 12 17 n75) 12 18 n76) 12 44 n99) 12 45 n100) (u2 (u2 fa 12 39 n14) 12 40 n15) (u2 (u2 la 12 42 f77) 12 43 f78)) H := hP
                  have hD9 : va_D A (WM h g ca (u2 (u2 iv 12 19 n74) 12 41 n16) (u2 (u2 (u2 (u2 lv 12 17 n75) 12 18 n76) 12 44 n99) 12 45 n100) (u2 (u2 fa 12 39 n14) 12 40 n15) (u2 (u2 la 12 42 f77) 12 43 f78)) := hD
                  exact W.iret (v := 0) hx hb hr (fun t ht9 hW => ⟨⟨0, ((u2 (u2 iv 12 19 n74) 12 41 n16), (u2 (u2 (u2 (u2 lv 12 17 n75) 12 18 n76) 12 44 n99) 12 45 n100), (u2 (u2 fa 12 39 n14) 12 40 n15), (u2 (u2 la 12 42 f77) 12 43 f78)), rfl, ⟨n14, n15, f77, f78, n74, n16, n75, n76, n99, n100, hn14, hn15, (show inb (0, 8) n16 from ⟨by omega, by omega⟩), (show ((0 : Int32).toInt ≠ 1 ∨ (1 ≤ (n100 : Int64).toInt ∧ (n100 : Int64).toInt ≤ 719856007200)) from by omega), ⟨by decide, by decide⟩, rfl⟩, by rw [ht9]; exact hP9, hD9⟩, hS.F ht9⟩) hS.2.2 dX12_stateOf_118
              · exact absurd c94 (by decide)
    · have fc24 := z_nlt (rfl : (r18).toInt = _) (rfl : (r1).toInt = _) c24
      refine lv_iconst (v := 1) hx hb dX12_stateOf_83 (by decide) ?_
      refine lv_goto (tgt := 88) hx hb dX12_stateOf_84 (by decide) ?_
      refine vp_callSi (W.runS (As := [.int 1]) (rest := [.int 0]) ⟨hx, hb, hml, hown, ht⟩ (c_X12_bit_1 l dC dI) (kS 1 ht m_1396 m_1397 m_89 m_1398 rfl rfl hd_X12_bit_v ⟨Nat.le_of_ble_eq_true rfl, Nat.le_of_ble_eq_true rfl⟩) (sR noP (hK.sub (tys' := []) [] rfl)) rfl rfl hl.1 rfl (lv_room (Nat.le_of_ble_eq_true rfl)) dX12_stateOf_88 ⟨Nat.le_of_ble_eq_true rfl, Nat.le_of_ble_eq_true rfl⟩) (fun r102 hr102 => ?_)
      obtain rfl : 1 = r102 := hr102.symm
      refine lv_iload hx hb dX12_stateOf_91 (lv_at hl 1 rfl) ?_
      refine lv_ishl hx hb dX12_stateOf_93 ?_
      refine lv_topi (fun v103 ev103 => ?_)
      obtain rfl : 1 = v103 := (ev103.trans (by decide)).symm
      refine lv_ior hx hb dX12_stateOf_94 ?_
      refine lv_topi (fun v104 ev104 => ?_)
      obtain rfl : 1 = v104 := (ev104.trans (by decide)).symm
      refine lv_istore (lv' := [(7, .int 1), (9, .int r18), (8, .int 0), (6, .int r13), (5, .int r9), (4, .int r5), (3, .int r1), (0, .ref h), (1, .int a), (2, .int b)]) hx hb dX12_stateOf_95 hl (by decide) rfl (fun ls hl => ?_)
      refine lv_iinc (v := 1) (lv' := [(8, .int 1), (7, .int 1), (9, .int r18), (6, .int r13), (5, .int r9), (4, .int r5), (3, .int r1), (0, .ref h), (1, .int a), (2, .int b)]) hx hb dX12_stateOf_97 hl (k := 2) rfl (by decide) (by decide) rfl (fun ls hl => ?_)
      refine lv_goto (tgt := 37) hx hb dX12_stateOf_100 (by decide) ?_
      refine lv_iload hx hb dX12_stateOf_37 (lv_at hl 0 rfl) ?_
      refine lv_iconst (v := 3) hx hb dX12_stateOf_39 (by decide) ?_
      refine lv_icmp_ge (tgt := 103) hx hb dX12_stateOf_40 (by decide) (fun c105 => ?_) (fun c105 => ?_)
      · exact absurd c105 (by decide)
      · skip
        refine lv_aload_n hx hb dX12_stateOf_43 rfl (lv_at hl 7 rfl) ?_
        refine lv_iload_n hx hb dX12_stateOf_44 rfl (lv_at hl 8 rfl) ?_
        refine lv_iload hx hb dX12_stateOf_45 (lv_at hl 0 rfl) ?_
        refine lv_iload_n hx hb dX12_stateOf_47 rfl (lv_at hl 9 rfl) ?_
        have hFc := free_all hD hS hA
        refine va_calli (va_runV (As := [.int a, .int 1, .int b]) (rest := []) ⟨hx, hb, hml, hown, ht⟩ (c_X12_sumUp_x l dC dI H.size h g ca (u2 (u2 iv 12 41 n16) 12 19 n19) (u2 (u2 lv 12 17 n20) 12 18 n21) (u2 (u2 fa 12 39 n14) 12 40 n15) (u2 (u2 la 12 42 f22) 12 43 f23) (IX_a (c := 12) (k := 40) (IX_a (c := 12) (k := 39) (IX_i (c := 12) (k := 19) (IX_i (c := 12) (k := 41) hI (show inb (0, 8) n16 from ⟨by omega, by omega⟩)) (full_i _)) hn14) hn15) a 1 b hJR) (kV 3 ht m_1434 m_1436 m_45 m_89 m_1437 rfl rfl hd_X12_sumUp_v ⟨Nat.le_of_ble_eq_true rfl, Nat.le_of_ble_eq_true rfl⟩) (vW hP hK hD (rM_12 hK hP)) rfl rfl hl.1 rfl (lv_room (Nat.le_of_ble_eq_true rfl)) dX12_stateOf_48 ⟨Nat.le_of_ble_eq_true rfl, Nat.le_of_ble_eq_true rfl⟩) hS (fun q _ h => hFc q h) hFc (fun r106 u t H1 locs ht9 hvm hr106 hB hz1 hk1 hS => ?_)
        obtain ⟨n107, n108, n109, xr106_0, xr106_1, xr106_2, xr106_3, xr106_4, hr106, rfl⟩ := hr106
        obtain ⟨hP, hD⟩ := hB
        rw [ht9] at hP
        generalize H1 = H at hP hS ⊢
        have hP : va_P (dC, dI) classes (WM h g ca (u2 (u2 iv 12 41 n16) 12 19 n107) (u2 (u2 lv 12 17 n108) 12 18 n109) (u2 (u2 fa 12 39 n14) 12 40 n15) (u2 (u2 la 12 42 f22) 12 43 f23)) H := hP
        have hD : va_D A (WM h g ca (u2 (u2 iv 12 41 n16) 12 19 n107) (u2 (u2 lv 12 17 n108) 12 18 n109) (u2 (u2 fa 12 39 n14) 12 40 n15) (u2 (u2 la 12 42 f22) 12 43 f23)) := (show va_D _ (WM h g ca (u2 (u2 iv 12 41 n16) 12 19 n107) (u2 (u2 lv 12 17 n108) 12 18 n109) (u2 (u2 fa 12 39 n14) 12 40 n15) (u2 (u2 la 12 42 f22) 12 43 f23)) from hD).weaken (fun _ _ _ h => hFc _ h)
        have xr106_0 : 0 ≤ (r106 : Int32).toInt := xr106_0
        have xr106_1 : (r106 : Int32).toInt ≤ 60 := xr106_1
        have xr106_2 : 0 ≤ (n109 : Int64).toInt := xr106_2
        have xr106_3 : (n109 : Int64).toInt ≤ 599940 := xr106_3
        have xr106_4 : 100 * (r106 : Int32).toInt ≤ (n109 : Int64).toInt := xr106_4
        refine lv_istore (lv' := [(9, .int r106), (8, .int 1), (7, .int 1), (6, .int r13), (5, .int r9), (4, .int r5), (3, .int r1), (0, .ref h), (1, .int a), (2, .int b)]) hx hb dX12_stateOf_51 hl (by decide) rfl (fun ls hl => ?_)
        refine lv_aload_n hx hb dX12_stateOf_53 rfl (lv_at hl 7 rfl) ?_
        refine gM_12_42 hx hb ht hown hK hP m_1181 dX12_stateOf_54 ?_
        refine lv_iload hx hb dX12_stateOf_57 (lv_at hl 1 rfl) ?_
        refine lv_aload_n hx hb dX12_stateOf_59 rfl (lv_at hl 7 rfl) ?_
        refine gM_12_17 hx hb ht hown hK hP m_1156 (v := n108) rfl dX12_stateOf_60 ?_
        refine tM_12_42 hx hb hK hP hD hS (f0 := f22) rfl (i := 1) (x := n108) (vp_in_iff.mpr (by decide)) dX12_stateOf_63 (fun f110 ef110 H locs hP hD hS => ?_)
        have hP : va_P (dC, dI) classes (WM h g ca (u2 (u2 iv 12 41 n16) 12 19 n107) (u2 (u2 lv 12 17 n108) 12 18 n109) (u2 (u2 fa 12 39 n14) 12 40 n15) (u2 (u2 la 12 42 f110) 12 43 f23)) H := hP
        have hD : va_D A (WM h g ca (u2 (u2 iv 12 41 n16) 12 19 n107) (u2 (u2 lv 12 17 n108) 12 18 n109) (u2 (u2 fa 12 39 n14) 12 40 n15) (u2 (u2 la 12 42 f110) 12 43 f23)) := hD
        have yf110_0 : f110 (0 : Int32).toNatClampNeg = n20 := by rw [ef110]; exact (updL_ne (by decide)).trans yf22_0
        have yf110_1 : f110 (1 : Int32).toNatClampNeg = n108 := by rw [ef110]; exact updL_eq
        refine lv_aload_n hx hb dX12_stateOf_64 rfl (lv_at hl 7 rfl) ?_
        refine gM_12_43 hx hb ht hown hK hP m_1182 dX12_stateOf_65 ?_
        refine lv_iload hx hb dX12_stateOf_68 (lv_at hl 1 rfl) ?_
        refine lv_aload_n hx hb dX12_stateOf_70 rfl (lv_at hl 7 rfl) ?_
        refine gM_12_18 hx hb ht hown hK hP m_1157 (v := n109) rfl dX12_stateOf_71 ?_
        refine tM_12_43 hx hb hK hP hD hS (f0 := f23) rfl (i := 1) (x := n109) (vp_in_iff.mpr (by decide)) dX12_stateOf_74 (fun f111 ef111 H locs hP hD hS => ?_)
        have hP : va_P (dC, dI) classes (WM h g ca (u2 (u2 iv 12 41 n16) 12 19 n107) (u2 (u2 lv 12 17 n108) 12 18 n109) (u2 (u2 fa 12 39 n14) 12 40 n15) (u2 (u2 la 12 42 f110) 12 43 f111)) H := hP
        have hD : va_D A (WM h g ca (u2 (u2 iv 12 41 n16) 12 19 n107) (u2 (u2 lv 12 17 n108) 12 18 n109) (u2 (u2 fa 12 39 n14) 12 40 n15) (u2 (u2 la 12 42 f110) 12 43 f111)) := hD
        have yf111_0 : f111 (0 : Int32).toNatClampNeg = n21 := by rw [ef111]; exact (updL_ne (by decide)).trans yf23_0
        have yf111_1 : f111 (1 : Int32).toNatClampNeg = n109 := by rw [ef111]; exact updL_eq
        refine lv_iload hx hb dX12_stateOf_75 (lv_at hl 2 rfl) ?_
        refine lv_iload hx hb dX12_stateOf_77 (lv_at hl 0 rfl) ?_
        refine lv_iload_n hx hb dX12_stateOf_79 rfl (lv_at hl 6 rfl) ?_
        refine lv_icmp_lt (tgt := 87) hx hb dX12_stateOf_80 (by decide) (fun c112 => ?_) (fun c112 => ?_)
        · have fc112 := z_lt (rfl : (r106).toInt = _) (rfl : (r1).toInt = _) c112
          refine lv_iconst (v := 0) hx hb dX12_stateOf_87 (by decide) ?_
          refine vp_callSi (W.runS (As := [.int 0]) (rest := [.int 1]) ⟨hx, hb, hml, hown, ht⟩ (c_X12_bit_0 l dC dI) (kS 1 ht m_1396 m_1397 m_89 m_1398 rfl rfl hd_X12_bit_v ⟨Nat.le_of_ble_eq_true rfl, Nat.le_of_ble_eq_true rfl⟩) (sR noP (hK.sub (tys' := []) [] rfl)) rfl rfl hl.1 rfl (lv_room (Nat.le_of_ble_eq_true rfl)) dX12_stateOf_88 ⟨Nat.le_of_ble_eq_true rfl, Nat.le_of_ble_eq_true rfl⟩) (fun r113 hr113 => ?_)
          obtain rfl : 0 = r113 := hr113.symm
          refine lv_iload hx hb dX12_stateOf_91 (lv_at hl 1 rfl) ?_
          refine lv_ishl hx hb dX12_stateOf_93 ?_
          refine lv_topi (fun v114 ev114 => ?_)
          obtain rfl : 0 = v114 := (ev114.trans (by decide)).symm
          refine lv_ior hx hb dX12_stateOf_94 ?_
          refine lv_topi (fun v115 ev115 => ?_)
          obtain rfl : 1 = v115 := (ev115.trans (by decide)).symm
          refine lv_istore (lv' := [(7, .int 1), (9, .int r106), (8, .int 1), (6, .int r13), (5, .int r9), (4, .int r5), (3, .int r1), (0, .ref h), (1, .int a), (2, .int b)]) hx hb dX12_stateOf_95 hl (by decide) rfl (fun ls hl => ?_)
          refine lv_iinc (v := 2) (lv' := [(8, .int 2), (7, .int 1), (9, .int r106), (6, .int r13), (5, .int r9), (4, .int r5), (3, .int r1), (0, .ref h), (1, .int a), (2, .int b)]) hx hb dX12_stateOf_97 hl (k := 2) rfl (by decide) (by decide) rfl (fun ls hl => ?_)
          refine lv_goto (tgt := 37) hx hb dX12_stateOf_100 (by decide) ?_
          refine lv_iload hx hb dX12_stateOf_37 (lv_at hl 0 rfl) ?_
          refine lv_iconst (v := 3) hx hb dX12_stateOf_39 (by decide) ?_
          refine lv_icmp_ge (tgt := 103) hx hb dX12_stateOf_40 (by decide) (fun c116 => ?_) (fun c116 => ?_)
          · exact absurd c116 (by decide)
          · skip
            refine lv_aload_n hx hb dX12_stateOf_43 rfl (lv_at hl 7 rfl) ?_
            refine lv_iload_n hx hb dX12_stateOf_44 rfl (lv_at hl 8 rfl) ?_
            refine lv_iload hx hb dX12_stateOf_45 (lv_at hl 0 rfl) ?_
            refine lv_iload_n hx hb dX12_stateOf_47 rfl (lv_at hl 9 rfl) ?_
            have hFc := free_all hD hS hA
            refine va_calli (va_runV (As := [.int a, .int 2, .int b]) (rest := []) ⟨hx, hb, hml, hown, ht⟩ (c_X12_sumUp_x l dC dI H.size h g ca (u2 (u2 iv 12 41 n16) 12 19 n107) (u2 (u2 lv 12 17 n108) 12 18 n109) (u2 (u2 fa 12 39 n14) 12 40 n15) (u2 (u2 la 12 42 f110) 12 43 f111) (IX_a (c := 12) (k := 40) (IX_a (c := 12) (k := 39) (IX_i (c := 12) (k := 19) (IX_i (c := 12) (k := 41) hI (show inb (0, 8) n16 from ⟨by omega, by omega⟩)) (full_i _)) hn14) hn15) a 2 b hJR) (kV 3 ht m_1434 m_1436 m_45 m_89 m_1437 rfl rfl hd_X12_sumUp_v ⟨Nat.le_of_ble_eq_true rfl, Nat.le_of_ble_eq_true rfl⟩) (vW hP hK hD (rM_12 hK hP)) rfl rfl hl.1 rfl (lv_room (Nat.le_of_ble_eq_true rfl)) dX12_stateOf_48 ⟨Nat.le_of_ble_eq_true rfl, Nat.le_of_ble_eq_true rfl⟩) hS (fun q _ h => hFc q h) hFc (fun r117 u t H1 locs ht9 hvm hr117 hB hz1 hk1 hS => ?_)
            obtain ⟨n118, n119, n120, xr117_0, xr117_1, xr117_2, xr117_3, xr117_4, hr117, rfl⟩ := hr117
            obtain ⟨hP, hD⟩ := hB
            rw [ht9] at hP
            generalize H1 = H at hP hS ⊢
            have hP : va_P (dC, dI) classes (WM h g ca (u2 (u2 iv 12 41 n16) 12 19 n118) (u2 (u2 lv 12 17 n119) 12 18 n120) (u2 (u2 fa 12 39 n14) 12 40 n15) (u2 (u2 la 12 42 f110) 12 43 f111)) H := hP
            have hD : va_D A (WM h g ca (u2 (u2 iv 12 41 n16) 12 19 n118) (u2 (u2 lv 12 17 n119) 12 18 n120) (u2 (u2 fa 12 39 n14) 12 40 n15) (u2 (u2 la 12 42 f110) 12 43 f111)) := (show va_D _ (WM h g ca (u2 (u2 iv 12 41 n16) 12 19 n118) (u2 (u2 lv 12 17 n119) 12 18 n120) (u2 (u2 fa 12 39 n14) 12 40 n15) (u2 (u2 la 12 42 f110) 12 43 f111)) from hD).weaken (fun _ _ _ h => hFc _ h)
            have xr117_0 : 0 ≤ (r117 : Int32).toInt := xr117_0
            have xr117_1 : (r117 : Int32).toInt ≤ 60 := xr117_1
            have xr117_2 : 0 ≤ (n120 : Int64).toInt := xr117_2
            have xr117_3 : (n120 : Int64).toInt ≤ 599940 := xr117_3
            have xr117_4 : 100 * (r117 : Int32).toInt ≤ (n120 : Int64).toInt := xr117_4
            refine lv_istore (lv' := [(9, .int r117), (8, .int 2), (7, .int 1), (6, .int r13), (5, .int r9), (4, .int r5), (3, .int r1), (0, .ref h), (1, .int a), (2, .int b)]) hx hb dX12_stateOf_51 hl (by decide) rfl (fun ls hl => ?_)
            refine lv_aload_n hx hb dX12_stateOf_53 rfl (lv_at hl 7 rfl) ?_
            refine gM_12_42 hx hb ht hown hK hP m_1181 dX12_stateOf_54 ?_
            refine lv_iload hx hb dX12_stateOf_57 (lv_at hl 1 rfl) ?_
            refine lv_aload_n hx hb dX12_stateOf_59 rfl (lv_at hl 7 rfl) ?_
            refine gM_12_17 hx hb ht hown hK hP m_1156 (v := n119) rfl dX12_stateOf_60 ?_
            refine tM_12_42 hx hb hK hP hD hS (f0 := f110) rfl (i := 2) (x := n119) (vp_in_iff.mpr (by decide)) dX12_stateOf_63 (fun f121 ef121 H locs hP hD hS => ?_)
            have hP : va_P (dC, dI) classes (WM h g ca (u2 (u2 iv 12 41 n16) 12 19 n118) (u2 (u2 lv 12 17 n119) 12 18 n120) (u2 (u2 fa 12 39 n14) 12 40 n15) (u2 (u2 la 12 42 f121) 12 43 f111)) H := hP
            have hD : va_D A (WM h g ca (u2 (u2 iv 12 41 n16) 12 19 n118) (u2 (u2 lv 12 17 n119) 12 18 n120) (u2 (u2 fa 12 39 n14) 12 40 n15) (u2 (u2 la 12 42 f121) 12 43 f111)) := hD
            have yf121_0 : f121 (0 : Int32).toNatClampNeg = n20 := by rw [ef121]; exact (updL_ne (by decide)).trans yf110_0
            have yf121_1 : f121 (1 : Int32).toNatClampNeg = n108 := by rw [ef121]; exact (updL_ne (by decide)).trans yf110_1
            have yf121_2 : f121 (2 : Int32).toNatClampNeg = n119 := by rw [ef121]; exact updL_eq
            refine lv_aload_n hx hb dX12_stateOf_64 rfl (lv_at hl 7 rfl) ?_
            refine gM_12_43 hx hb ht hown hK hP m_1182 dX12_stateOf_65 ?_
            refine lv_iload hx hb dX12_stateOf_68 (lv_at hl 1 rfl) ?_
            refine lv_aload_n hx hb dX12_stateOf_70 rfl (lv_at hl 7 rfl) ?_
            refine gM_12_18 hx hb ht hown hK hP m_1157 (v := n120) rfl dX12_stateOf_71 ?_
            refine tM_12_43 hx hb hK hP hD hS (f0 := f111) rfl (i := 2) (x := n120) (vp_in_iff.mpr (by decide)) dX12_stateOf_74 (fun f122 ef122 H locs hP hD hS => ?_)
            have hP : va_P (dC, dI) classes (WM h g ca (u2 (u2 iv 12 41 n16) 12 19 n118) (u2 (u2 lv 12 17 n119) 12 18 n120) (u2 (u2 fa 12 39 n14) 12 40 n15) (u2 (u2 la 12 42 f121) 12 43 f122)) H := hP
            have hD : va_D A (WM h g ca (u2 (u2 iv 12 41 n16) 12 19 n118) (u2 (u2 lv 12 17 n119) 12 18 n120) (u2 (u2 fa 12 39 n14) 12 40 n15) (u2 (u2 la 12 42 f121) 12 43 f122)) := hD
            have yf122_0 : f122 (0 : Int32).toNatClampNeg = n21 := by rw [ef122]; exact (updL_ne (by decide)).trans yf111_0
            have yf122_1 : f122 (1 : Int32).toNatClampNeg = n109 := by rw [ef122]; exact (updL_ne (by decide)).trans yf111_1
            have yf122_2 : f122 (2 : Int32).toNatClampNeg = n120 := by rw [ef122]; exact updL_eq
            refine lv_iload hx hb dX12_stateOf_75 (lv_at hl 2 rfl) ?_
            refine lv_iload hx hb dX12_stateOf_77 (lv_at hl 0 rfl) ?_
            refine lv_iload_n hx hb dX12_stateOf_79 rfl (lv_at hl 6 rfl) ?_
            refine lv_icmp_lt (tgt := 87) hx hb dX12_stateOf_80 (by decide) (fun c123 => ?_) (fun c123 => ?_)
            · have fc123 := z_lt (rfl : (r117).toInt = _) (rfl : (r1).toInt = _) c123
              refine lv_iconst (v := 0) hx hb dX12_stateOf_87 (by decide) ?_
              refine vp_callSi (W.runS (As := [.int 0]) (rest := [.int 1]) ⟨hx, hb, hml, hown, ht⟩ (c_X12_bit_0 l dC dI) (kS 1 ht m_1396 m_1397 m_89 m_1398 rfl rfl hd_X12_bit_v ⟨Nat.le_of_ble_eq_true rfl, Nat.le_of_ble_eq_true rfl⟩) (sR noP (hK.sub (tys' := []) [] rfl)) rfl rfl hl.1 rfl (lv_room (Nat.le_of_ble_eq_true rfl)) dX12_stateOf_88 ⟨Nat.le_of_ble_eq_true rfl, Nat.le_of_ble_eq_true rfl⟩) (fun r124 hr124 => ?_)
              obtain rfl : 0 = r124 := hr124.symm
              refine lv_iload hx hb dX12_stateOf_91 (lv_at hl 1 rfl) ?_
              refine lv_ishl hx hb dX12_stateOf_93 ?_
              refine lv_topi (fun v125 ev125 => ?_)
              obtain rfl : 0 = v125 := (ev125.trans (by decide)).symm
              refine lv_ior hx hb dX12_stateOf_94 ?_
              refine lv_topi (fun v126 ev126 => ?_)
              obtain rfl : 1 = v126 := (ev126.trans (by decide)).symm
              refine lv_istore (lv' := [(7, .int 1), (9, .int r117), (8, .int 2), (6, .int r13), (5, .int r9), (4, .int r5), (3, .int r1), (0, .ref h), (1, .int a), (2, .int b)]) hx hb dX12_stateOf_95 hl (by decide) rfl (fun ls hl => ?_)
              refine lv_iinc (v := 3) (lv' := [(8, .int 3), (7, .int 1), (9, .int r117), (6, .int r13), (5, .int r9), (4, .int r5), (3, .int r1), (0, .ref h), (1, .int a), (2, .int b)]) hx hb dX12_stateOf_97 hl (k := 2) rfl (by decide) (by decide) rfl (fun ls hl => ?_)
              refine lv_goto (tgt := 37) hx hb dX12_stateOf_100 (by decide) ?_
              refine lv_iload hx hb dX12_stateOf_37 (lv_at hl 0 rfl) ?_
              refine lv_iconst (v := 3) hx hb dX12_stateOf_39 (by decide) ?_
              refine lv_icmp_ge (tgt := 103) hx hb dX12_stateOf_40 (by decide) (fun c127 => ?_) (fun c127 => ?_)
              · skip
                refine lv_iload hx hb dX12_stateOf_103 (lv_at hl 5 rfl) ?_
                refine lv_iconst (v := 1) hx hb dX12_stateOf_105 (by decide) ?_
                refine lv_icmp_ne (tgt := 119) hx hb dX12_stateOf_106 (by decide) (fun c128 => ?_) (fun c128 => ?_)
                · have fc128 := z_ne (rfl : (r5).toInt = _) (by decide : (1 : Int32).toInt = 1) c128
                  refine lv_iload hx hb dX12_stateOf_119 (lv_at hl 1 rfl) ?_
                  refine lv_iconst (v := 3) hx hb dX12_stateOf_121 (by decide) ?_
                  refine lv_iand hx hb dX12_stateOf_122 ?_
                  refine lv_topi (fun v129 ev129 => ?_)
                  obtain rfl : 1 = v129 := (ev129.trans (by decide)).symm
                  refine lv_iconst (v := 3) hx hb dX12_stateOf_123 (by decide) ?_
                  refine lv_icmp_eq (tgt := 129) hx hb dX12_stateOf_124 (by decide) (fun c130 => ?_) (fun c130 => ?_)
                  · exact absurd c130 (by decide)
                  · skip
                    refine lv_iconst (v := 0) hx hb dX12_stateOf_127 (by decide) ?_
                    have : (0 : Int32).toInt = 0 := (by decide)
                    have hP9 : va_P (dC, dI) classes (WM h g ca (u2 (u2 iv 12 19 n118) 12 41 n16) (u2 (u2 (u2 (u2 lv 12 17 n119) 12 18 n120) 12 44 (lv 12 44)) 12 45 (lv 12 45)) (u2 (u2 fa 12 39 n14) 12 40 n15) (u2 (u2 la 12 42 f121) 12 43 f122)) H := hP
                    have hD9 : va_D A (WM h g ca (u2 (u2 iv 12 19 n118) 12 41 n16) (u2 (u2 (u2 (u2 lv 12 17 n119) 12 18 n120) 12 44 (lv 12 44)) 12 45 (lv 12 45)) (u2 (u2 fa 12 39 n14) 12 40 n15) (u2 (u2 la 12 42 f121) 12 43 f122)) := hD
                    exact W.iret (v := 0) hx hb hr (fun t ht9 hW => ⟨⟨0, ((u2 (u2 iv 12 19 n118) 12 41 n16), (u2 (u2 (u2 (u2 lv 12 17 n119) 12 18 n120) 12 44 (lv 12 44)) 12 45 (lv 12 45)), (u2 (u2 fa 12 39 n14) 12 40 n15), (u2 (u2 la 12 42 f121) 12 43 f122)), rfl, ⟨n14, n15, f121, f122, n118, n16, n119, n120, (lv 12 44), (lv 12 45), hn14, hn15, (show inb (0, 8) n16 from ⟨by omega, by omega⟩), (show ((0 : Int32).toInt ≠ 1 ∨ (1 ≤ ((lv 12 45) : Int64).toInt ∧ ((lv 12 45) : Int64).toInt ≤ 719856007200)) from by omega), ⟨by decide, by decide⟩, rfl⟩, by rw [ht9]; exact hP9, hD9⟩, hS.F ht9⟩) hS.2.2 dX12_stateOf_128
                · have fc128 := z_eq (rfl : (r5).toInt = _) (by decide : (1 : Int32).toInt = 1) c128
                  refine lv_aload_n hx hb dX12_stateOf_109 rfl (lv_at hl 7 rfl) ?_
                  refine lv_iconst (v := 0) hx hb dX12_stateOf_110 (by decide) ?_
                  have hFc := free_all hD hS hA
                  refine va_callv (va_runV (As := [.int 0]) (rest := []) ⟨hx, hb, hml, hown, ht⟩ (c_X12_only_p0 l dC dI H.size h g ca (u2 (u2 iv 12 41 n16) 12 19 n118) (u2 (u2 lv 12 17 n119) 12 18 n120) (u2 (u2 fa 12 39 n14) 12 40 n15) (u2 (u2 la 12 42 f121) 12 43 f122) (IX_a (c := 12) (k := 40) (IX_a (c := 12) (k := 39) (IX_i (c := 12) (k := 19) (IX_i (c := 12) (k := 41) hI (show inb (0, 8) n16 from ⟨by omega, by omega⟩)) (full_i _)) hn14) hn15) (show 1 ≤ (f122 (0 : Int32).toNatClampNeg).toInt ∧ (f122 (0 : Int32).toNatClampNeg).toInt ≤ 599940 from by rw [yf122_0]; exact ⟨by omega, by omega⟩)) (kV 1 ht m_1536 m_1538 m_59 m_89 m_1539 rfl rfl hd_X12_only_v ⟨Nat.le_of_ble_eq_true rfl, Nat.le_of_ble_eq_true rfl⟩) (vW hP hK hD (rM_12 hK hP)) rfl rfl hl.1 rfl (lv_room (Nat.le_of_ble_eq_true rfl)) dX12_stateOf_111 ⟨Nat.le_of_ble_eq_true rfl, Nat.le_of_ble_eq_true rfl⟩) hS (fun q _ h => hFc q h) hFc (fun u t H1 locs ht9 hvm hr131 hB hz1 hk1 hS => ?_)
                  obtain ⟨n132, n133, xr131_0, xr131_1, rfl⟩ := hr131
                  obtain ⟨hP, hD⟩ := hB
                  rw [ht9] at hP
                  generalize H1 = H at hP hS ⊢
                  have hP : va_P (dC, dI) classes (WM h g ca (u2 (u2 iv 12 41 n16) 12 19 n118) (u2 (u2 (u2 (u2 lv 12 17 n119) 12 18 n120) 12 44 n132) 12 45 n133) (u2 (u2 fa 12 39 n14) 12 40 n15) (u2 (u2 la 12 42 f121) 12 43 f122)) H := hP
                  have hD : va_D A (WM h g ca (u2 (u2 iv 12 41 n16) 12 19 n118) (u2 (u2 (u2 (u2 lv 12 17 n119) 12 18 n120) 12 44 n132) 12 45 n133) (u2 (u2 fa 12 39 n14) 12 40 n15) (u2 (u2 la 12 42 f121) 12 43 f122)) := (show va_D _ (WM h g ca (u2 (u2 iv 12 41 n16) 12 19 n118) (u2 (u2 (u2 (u2 lv 12 17 n119) 12 18 n120) 12 44 n132) 12 45 n133) (u2 (u2 fa 12 39 n14) 12 40 n15) (u2 (u2 la 12 42 f121) 12 43 f122)) from hD).weaken (fun _ _ _ h => hFc _ h)
                  have xr131_0 : 1 ≤ (n133 : Int64).toInt := xr131_0
                  have xr131_1 : (n133 : Int64).toInt ≤ 719856007200 := xr131_1
                  refine lv_iload hx hb dX12_stateOf_114 (lv_at hl 1 rfl) ?_
                  refine lv_iconst (v := 1) hx hb dX12_stateOf_116 (by decide) ?_
                  refine lv_iand hx hb dX12_stateOf_117 ?_
                  refine lv_topi (fun v134 ev134 => ?_)
                  obtain rfl : 1 = v134 := (ev134.trans (by decide)).symm
                  have : (1 : Int32).toInt = 1 := (by decide)
                  have hP9 : va_P (dC, dI) classes (WM h g ca (u2 (u2 iv 12 19 n118) 12 41 n16) (u2 (u2 (u2 (u2 lv 12 17 n119) 12 18 n120) 12 44 n132) 12 45 n133) (u2 (u2 fa 12 39 n14) 12 40 n15) (u2 (u2 la 12 42 f121) 12 43 f122)) H := hP
                  have hD9 : va_D A (WM h g ca (u2 (u2 iv 12 19 n118) 12 41 n16) (u2 (u2 (u2 (u2 lv 12 17 n119) 12 18 n120) 12 44 n132) 12 45 n133) (u2 (u2 fa 12 39 n14) 12 40 n15) (u2 (u2 la 12 42 f121) 12 43 f122)) := hD
                  exact W.iret (v := 1) hx hb hr (fun t ht9 hW => ⟨⟨1, ((u2 (u2 iv 12 19 n118) 12 41 n16), (u2 (u2 (u2 (u2 lv 12 17 n119) 12 18 n120) 12 44 n132) 12 45 n133), (u2 (u2 fa 12 39 n14) 12 40 n15), (u2 (u2 la 12 42 f121) 12 43 f122)), rfl, ⟨n14, n15, f121, f122, n118, n16, n119, n120, n132, n133, hn14, hn15, (show inb (0, 8) n16 from ⟨by omega, by omega⟩), (show ((1 : Int32).toInt ≠ 1 ∨ (1 ≤ (n133 : Int64).toInt ∧ (n133 : Int64).toInt ≤ 719856007200)) from by omega), ⟨by decide, by decide⟩, rfl⟩, by rw [ht9]; exact hP9, hD9⟩, hS.F ht9⟩) hS.2.2 dX12_stateOf_118
              · exact absurd c127 (by decide)
            · have fc123 := z_nlt (rfl : (r117).toInt = _) (rfl : (r1).toInt = _) c123
              refine lv_iconst (v := 1) hx hb dX12_stateOf_83 (by decide) ?_
              refine lv_goto (tgt := 88) hx hb dX12_stateOf_84 (by decide) ?_
              refine vp_callSi (W.runS (As := [.int 1]) (rest := [.int 1]) ⟨hx, hb, hml, hown, ht⟩ (c_X12_bit_1 l dC dI) (kS 1 ht m_1396 m_1397 m_89 m_1398 rfl rfl hd_X12_bit_v ⟨Nat.le_of_ble_eq_true rfl, Nat.le_of_ble_eq_true rfl⟩) (sR noP (hK.sub (tys' := []) [] rfl)) rfl rfl hl.1 rfl (lv_room (Nat.le_of_ble_eq_true rfl)) dX12_stateOf_88 ⟨Nat.le_of_ble_eq_true rfl, Nat.le_of_ble_eq_true rfl⟩) (fun r135 hr135 => ?_)
              obtain rfl : 1 = r135 := hr135.symm
              refine lv_iload hx hb dX12_stateOf_91 (lv_at hl 1 rfl) ?_
              refine lv_ishl hx hb dX12_stateOf_93 ?_
              refine lv_topi (fun v136 ev136 => ?_)
              obtain rfl : 4 = v136 := (ev136.trans (by decide)).symm
              refine lv_ior hx hb dX12_stateOf_94 ?_
              refine lv_topi (fun v137 ev137 => ?_)
              obtain rfl : 5 = v137 := (ev137.trans (by decide)).symm
              refine lv_istore (lv' := [(7, .int 5), (9, .int r117), (8, .int 2), (6, .int r13), (5, .int r9), (4, .int r5), (3, .int r1), (0, .ref h), (1, .int a), (2, .int b)]) hx hb dX12_stateOf_95 hl (by decide) rfl (fun ls hl => ?_)
              refine lv_iinc (v := 3) (lv' := [(8, .int 3), (7, .int 5), (9, .int r117), (6, .int r13), (5, .int r9), (4, .int r5), (3, .int r1), (0, .ref h), (1, .int a), (2, .int b)]) hx hb dX12_stateOf_97 hl (k := 2) rfl (by decide) (by decide) rfl (fun ls hl => ?_)
              refine lv_goto (tgt := 37) hx hb dX12_stateOf_100 (by decide) ?_
              refine lv_iload hx hb dX12_stateOf_37 (lv_at hl 0 rfl) ?_
              refine lv_iconst (v := 3) hx hb dX12_stateOf_39 (by decide) ?_
              refine lv_icmp_ge (tgt := 103) hx hb dX12_stateOf_40 (by decide) (fun c138 => ?_) (fun c138 => ?_)
              · skip
                refine lv_iload hx hb dX12_stateOf_103 (lv_at hl 5 rfl) ?_
                refine lv_iconst (v := 1) hx hb dX12_stateOf_105 (by decide) ?_
                refine lv_icmp_ne (tgt := 119) hx hb dX12_stateOf_106 (by decide) (fun c139 => ?_) (fun c139 => ?_)
                · have fc139 := z_ne (rfl : (r5).toInt = _) (by decide : (1 : Int32).toInt = 1) c139
                  refine lv_iload hx hb dX12_stateOf_119 (lv_at hl 1 rfl) ?_
                  refine lv_iconst (v := 3) hx hb dX12_stateOf_121 (by decide) ?_
                  refine lv_iand hx hb dX12_stateOf_122 ?_
                  refine lv_topi (fun v140 ev140 => ?_)
                  obtain rfl : 1 = v140 := (ev140.trans (by decide)).symm
                  refine lv_iconst (v := 3) hx hb dX12_stateOf_123 (by decide) ?_
                  refine lv_icmp_eq (tgt := 129) hx hb dX12_stateOf_124 (by decide) (fun c141 => ?_) (fun c141 => ?_)
                  · exact absurd c141 (by decide)
                  · skip
                    refine lv_iconst (v := 0) hx hb dX12_stateOf_127 (by decide) ?_
                    have : (0 : Int32).toInt = 0 := (by decide)
                    have hP9 : va_P (dC, dI) classes (WM h g ca (u2 (u2 iv 12 19 n118) 12 41 n16) (u2 (u2 (u2 (u2 lv 12 17 n119) 12 18 n120) 12 44 (lv 12 44)) 12 45 (lv 12 45)) (u2 (u2 fa 12 39 n14) 12 40 n15) (u2 (u2 la 12 42 f121) 12 43 f122)) H := hP
                    have hD9 : va_D A (WM h g ca (u2 (u2 iv 12 19 n118) 12 41 n16) (u2 (u2 (u2 (u2 lv 12 17 n119) 12 18 n120) 12 44 (lv 12 44)) 12 45 (lv 12 45)) (u2 (u2 fa 12 39 n14) 12 40 n15) (u2 (u2 la 12 42 f121) 12 43 f122)) := hD
                    exact W.iret (v := 0) hx hb hr (fun t ht9 hW => ⟨⟨0, ((u2 (u2 iv 12 19 n118) 12 41 n16), (u2 (u2 (u2 (u2 lv 12 17 n119) 12 18 n120) 12 44 (lv 12 44)) 12 45 (lv 12 45)), (u2 (u2 fa 12 39 n14) 12 40 n15), (u2 (u2 la 12 42 f121) 12 43 f122)), rfl, ⟨n14, n15, f121, f122, n118, n16, n119, n120, (lv 12 44), (lv 12 45), hn14, hn15, (show inb (0, 8) n16 from ⟨by omega, by omega⟩), (show ((0 : Int32).toInt ≠ 1 ∨ (1 ≤ ((lv 12 45) : Int64).toInt ∧ ((lv 12 45) : Int64).toInt ≤ 719856007200)) from by omega), ⟨by decide, by decide⟩, rfl⟩, by rw [ht9]; exact hP9, hD9⟩, hS.F ht9⟩) hS.2.2 dX12_stateOf_128
                · have fc139 := z_eq (rfl : (r5).toInt = _) (by decide : (1 : Int32).toInt = 1) c139
                  refine lv_aload_n hx hb dX12_stateOf_109 rfl (lv_at hl 7 rfl) ?_
                  refine lv_iconst (v := 0) hx hb dX12_stateOf_110 (by decide) ?_
                  have hFc := free_all hD hS hA
                  refine va_callv (va_runV (As := [.int 0]) (rest := []) ⟨hx, hb, hml, hown, ht⟩ (c_X12_only_p0 l dC dI H.size h g ca (u2 (u2 iv 12 41 n16) 12 19 n118) (u2 (u2 lv 12 17 n119) 12 18 n120) (u2 (u2 fa 12 39 n14) 12 40 n15) (u2 (u2 la 12 42 f121) 12 43 f122) (IX_a (c := 12) (k := 40) (IX_a (c := 12) (k := 39) (IX_i (c := 12) (k := 19) (IX_i (c := 12) (k := 41) hI (show inb (0, 8) n16 from ⟨by omega, by omega⟩)) (full_i _)) hn14) hn15) (show 1 ≤ (f122 (0 : Int32).toNatClampNeg).toInt ∧ (f122 (0 : Int32).toNatClampNeg).toInt ≤ 599940 from by rw [yf122_0]; exact ⟨by omega, by omega⟩)) (kV 1 ht m_1536 m_1538 m_59 m_89 m_1539 rfl rfl hd_X12_only_v ⟨Nat.le_of_ble_eq_true rfl, Nat.le_of_ble_eq_true rfl⟩) (vW hP hK hD (rM_12 hK hP)) rfl rfl hl.1 rfl (lv_room (Nat.le_of_ble_eq_true rfl)) dX12_stateOf_111 ⟨Nat.le_of_ble_eq_true rfl, Nat.le_of_ble_eq_true rfl⟩) hS (fun q _ h => hFc q h) hFc (fun u t H1 locs ht9 hvm hr142 hB hz1 hk1 hS => ?_)
                  obtain ⟨n143, n144, xr142_0, xr142_1, rfl⟩ := hr142
                  obtain ⟨hP, hD⟩ := hB
                  rw [ht9] at hP
                  generalize H1 = H at hP hS ⊢
                  have hP : va_P (dC, dI) classes (WM h g ca (u2 (u2 iv 12 41 n16) 12 19 n118) (u2 (u2 (u2 (u2 lv 12 17 n119) 12 18 n120) 12 44 n143) 12 45 n144) (u2 (u2 fa 12 39 n14) 12 40 n15) (u2 (u2 la 12 42 f121) 12 43 f122)) H := hP
                  have hD : va_D A (WM h g ca (u2 (u2 iv 12 41 n16) 12 19 n118) (u2 (u2 (u2 (u2 lv 12 17 n119) 12 18 n120) 12 44 n143) 12 45 n144) (u2 (u2 fa 12 39 n14) 12 40 n15) (u2 (u2 la 12 42 f121) 12 43 f122)) := (show va_D _ (WM h g ca (u2 (u2 iv 12 41 n16) 12 19 n118) (u2 (u2 (u2 (u2 lv 12 17 n119) 12 18 n120) 12 44 n143) 12 45 n144) (u2 (u2 fa 12 39 n14) 12 40 n15) (u2 (u2 la 12 42 f121) 12 43 f122)) from hD).weaken (fun _ _ _ h => hFc _ h)
                  have xr142_0 : 1 ≤ (n144 : Int64).toInt := xr142_0
                  have xr142_1 : (n144 : Int64).toInt ≤ 719856007200 := xr142_1
                  refine lv_iload hx hb dX12_stateOf_114 (lv_at hl 1 rfl) ?_
                  refine lv_iconst (v := 1) hx hb dX12_stateOf_116 (by decide) ?_
                  refine lv_iand hx hb dX12_stateOf_117 ?_
                  refine lv_topi (fun v145 ev145 => ?_)
                  obtain rfl : 1 = v145 := (ev145.trans (by decide)).symm
                  have : (1 : Int32).toInt = 1 := (by decide)
                  have hP9 : va_P (dC, dI) classes (WM h g ca (u2 (u2 iv 12 19 n118) 12 41 n16) (u2 (u2 (u2 (u2 lv 12 17 n119) 12 18 n120) 12 44 n143) 12 45 n144) (u2 (u2 fa 12 39 n14) 12 40 n15) (u2 (u2 la 12 42 f121) 12 43 f122)) H := hP
                  have hD9 : va_D A (WM h g ca (u2 (u2 iv 12 19 n118) 12 41 n16) (u2 (u2 (u2 (u2 lv 12 17 n119) 12 18 n120) 12 44 n143) 12 45 n144) (u2 (u2 fa 12 39 n14) 12 40 n15) (u2 (u2 la 12 42 f121) 12 43 f122)) := hD
                  exact W.iret (v := 1) hx hb hr (fun t ht9 hW => ⟨⟨1, ((u2 (u2 iv 12 19 n118) 12 41 n16), (u2 (u2 (u2 (u2 lv 12 17 n119) 12 18 n120) 12 44 n143) 12 45 n144), (u2 (u2 fa 12 39 n14) 12 40 n15), (u2 (u2 la 12 42 f121) 12 43 f122)), rfl, ⟨n14, n15, f121, f122, n118, n16, n119, n120, n143, n144, hn14, hn15, (show inb (0, 8) n16 from ⟨by omega, by omega⟩), (show ((1 : Int32).toInt ≠ 1 ∨ (1 ≤ (n144 : Int64).toInt ∧ (n144 : Int64).toInt ≤ 719856007200)) from by omega), ⟨by decide, by decide⟩, rfl⟩, by rw [ht9]; exact hP9, hD9⟩, hS.F ht9⟩) hS.2.2 dX12_stateOf_118
              · exact absurd c138 (by decide)
        · have fc112 := z_nlt (rfl : (r106).toInt = _) (rfl : (r1).toInt = _) c112
          refine lv_iconst (v := 1) hx hb dX12_stateOf_83 (by decide) ?_
          refine lv_goto (tgt := 88) hx hb dX12_stateOf_84 (by decide) ?_
          refine vp_callSi (W.runS (As := [.int 1]) (rest := [.int 1]) ⟨hx, hb, hml, hown, ht⟩ (c_X12_bit_1 l dC dI) (kS 1 ht m_1396 m_1397 m_89 m_1398 rfl rfl hd_X12_bit_v ⟨Nat.le_of_ble_eq_true rfl, Nat.le_of_ble_eq_true rfl⟩) (sR noP (hK.sub (tys' := []) [] rfl)) rfl rfl hl.1 rfl (lv_room (Nat.le_of_ble_eq_true rfl)) dX12_stateOf_88 ⟨Nat.le_of_ble_eq_true rfl, Nat.le_of_ble_eq_true rfl⟩) (fun r146 hr146 => ?_)
          obtain rfl : 1 = r146 := hr146.symm
          refine lv_iload hx hb dX12_stateOf_91 (lv_at hl 1 rfl) ?_
          refine lv_ishl hx hb dX12_stateOf_93 ?_
          refine lv_topi (fun v147 ev147 => ?_)
          obtain rfl : 2 = v147 := (ev147.trans (by decide)).symm
          refine lv_ior hx hb dX12_stateOf_94 ?_
          refine lv_topi (fun v148 ev148 => ?_)
          obtain rfl : 3 = v148 := (ev148.trans (by decide)).symm
          refine lv_istore (lv' := [(7, .int 3), (9, .int r106), (8, .int 1), (6, .int r13), (5, .int r9), (4, .int r5), (3, .int r1), (0, .ref h), (1, .int a), (2, .int b)]) hx hb dX12_stateOf_95 hl (by decide) rfl (fun ls hl => ?_)
          refine lv_iinc (v := 2) (lv' := [(8, .int 2), (7, .int 3), (9, .int r106), (6, .int r13), (5, .int r9), (4, .int r5), (3, .int r1), (0, .ref h), (1, .int a), (2, .int b)]) hx hb dX12_stateOf_97 hl (k := 2) rfl (by decide) (by decide) rfl (fun ls hl => ?_)
          refine lv_goto (tgt := 37) hx hb dX12_stateOf_100 (by decide) ?_
          refine lv_iload hx hb dX12_stateOf_37 (lv_at hl 0 rfl) ?_
          refine lv_iconst (v := 3) hx hb dX12_stateOf_39 (by decide) ?_
          refine lv_icmp_ge (tgt := 103) hx hb dX12_stateOf_40 (by decide) (fun c149 => ?_) (fun c149 => ?_)
          · exact absurd c149 (by decide)
          · skip
            refine lv_aload_n hx hb dX12_stateOf_43 rfl (lv_at hl 7 rfl) ?_
            refine lv_iload_n hx hb dX12_stateOf_44 rfl (lv_at hl 8 rfl) ?_
            refine lv_iload hx hb dX12_stateOf_45 (lv_at hl 0 rfl) ?_
            refine lv_iload_n hx hb dX12_stateOf_47 rfl (lv_at hl 9 rfl) ?_
            have hFc := free_all hD hS hA
            refine va_calli (va_runV (As := [.int a, .int 2, .int b]) (rest := []) ⟨hx, hb, hml, hown, ht⟩ (c_X12_sumUp_x l dC dI H.size h g ca (u2 (u2 iv 12 41 n16) 12 19 n107) (u2 (u2 lv 12 17 n108) 12 18 n109) (u2 (u2 fa 12 39 n14) 12 40 n15) (u2 (u2 la 12 42 f110) 12 43 f111) (IX_a (c := 12) (k := 40) (IX_a (c := 12) (k := 39) (IX_i (c := 12) (k := 19) (IX_i (c := 12) (k := 41) hI (show inb (0, 8) n16 from ⟨by omega, by omega⟩)) (full_i _)) hn14) hn15) a 2 b hJR) (kV 3 ht m_1434 m_1436 m_45 m_89 m_1437 rfl rfl hd_X12_sumUp_v ⟨Nat.le_of_ble_eq_true rfl, Nat.le_of_ble_eq_true rfl⟩) (vW hP hK hD (rM_12 hK hP)) rfl rfl hl.1 rfl (lv_room (Nat.le_of_ble_eq_true rfl)) dX12_stateOf_48 ⟨Nat.le_of_ble_eq_true rfl, Nat.le_of_ble_eq_true rfl⟩) hS (fun q _ h => hFc q h) hFc (fun r150 u t H1 locs ht9 hvm hr150 hB hz1 hk1 hS => ?_)
            obtain ⟨n151, n152, n153, xr150_0, xr150_1, xr150_2, xr150_3, xr150_4, hr150, rfl⟩ := hr150
            obtain ⟨hP, hD⟩ := hB
            rw [ht9] at hP
            generalize H1 = H at hP hS ⊢
            have hP : va_P (dC, dI) classes (WM h g ca (u2 (u2 iv 12 41 n16) 12 19 n151) (u2 (u2 lv 12 17 n152) 12 18 n153) (u2 (u2 fa 12 39 n14) 12 40 n15) (u2 (u2 la 12 42 f110) 12 43 f111)) H := hP
            have hD : va_D A (WM h g ca (u2 (u2 iv 12 41 n16) 12 19 n151) (u2 (u2 lv 12 17 n152) 12 18 n153) (u2 (u2 fa 12 39 n14) 12 40 n15) (u2 (u2 la 12 42 f110) 12 43 f111)) := (show va_D _ (WM h g ca (u2 (u2 iv 12 41 n16) 12 19 n151) (u2 (u2 lv 12 17 n152) 12 18 n153) (u2 (u2 fa 12 39 n14) 12 40 n15) (u2 (u2 la 12 42 f110) 12 43 f111)) from hD).weaken (fun _ _ _ h => hFc _ h)
            have xr150_0 : 0 ≤ (r150 : Int32).toInt := xr150_0
            have xr150_1 : (r150 : Int32).toInt ≤ 60 := xr150_1
            have xr150_2 : 0 ≤ (n153 : Int64).toInt := xr150_2
            have xr150_3 : (n153 : Int64).toInt ≤ 599940 := xr150_3
            have xr150_4 : 100 * (r150 : Int32).toInt ≤ (n153 : Int64).toInt := xr150_4
            refine lv_istore (lv' := [(9, .int r150), (8, .int 2), (7, .int 3), (6, .int r13), (5, .int r9), (4, .int r5), (3, .int r1), (0, .ref h), (1, .int a), (2, .int b)]) hx hb dX12_stateOf_51 hl (by decide) rfl (fun ls hl => ?_)
            refine lv_aload_n hx hb dX12_stateOf_53 rfl (lv_at hl 7 rfl) ?_
            refine gM_12_42 hx hb ht hown hK hP m_1181 dX12_stateOf_54 ?_
            refine lv_iload hx hb dX12_stateOf_57 (lv_at hl 1 rfl) ?_
            refine lv_aload_n hx hb dX12_stateOf_59 rfl (lv_at hl 7 rfl) ?_
            refine gM_12_17 hx hb ht hown hK hP m_1156 (v := n152) rfl dX12_stateOf_60 ?_
            refine tM_12_42 hx hb hK hP hD hS (f0 := f110) rfl (i := 2) (x := n152) (vp_in_iff.mpr (by decide)) dX12_stateOf_63 (fun f154 ef154 H locs hP hD hS => ?_)
            have hP : va_P (dC, dI) classes (WM h g ca (u2 (u2 iv 12 41 n16) 12 19 n151) (u2 (u2 lv 12 17 n152) 12 18 n153) (u2 (u2 fa 12 39 n14) 12 40 n15) (u2 (u2 la 12 42 f154) 12 43 f111)) H := hP
            have hD : va_D A (WM h g ca (u2 (u2 iv 12 41 n16) 12 19 n151) (u2 (u2 lv 12 17 n152) 12 18 n153) (u2 (u2 fa 12 39 n14) 12 40 n15) (u2 (u2 la 12 42 f154) 12 43 f111)) := hD
            have yf154_0 : f154 (0 : Int32).toNatClampNeg = n20 := by rw [ef154]; exact (updL_ne (by decide)).trans yf110_0
            have yf154_1 : f154 (1 : Int32).toNatClampNeg = n108 := by rw [ef154]; exact (updL_ne (by decide)).trans yf110_1
            have yf154_2 : f154 (2 : Int32).toNatClampNeg = n152 := by rw [ef154]; exact updL_eq
            refine lv_aload_n hx hb dX12_stateOf_64 rfl (lv_at hl 7 rfl) ?_
            refine gM_12_43 hx hb ht hown hK hP m_1182 dX12_stateOf_65 ?_
            refine lv_iload hx hb dX12_stateOf_68 (lv_at hl 1 rfl) ?_
            refine lv_aload_n hx hb dX12_stateOf_70 rfl (lv_at hl 7 rfl) ?_
            refine gM_12_18 hx hb ht hown hK hP m_1157 (v := n153) rfl dX12_stateOf_71 ?_
            refine tM_12_43 hx hb hK hP hD hS (f0 := f111) rfl (i := 2) (x := n153) (vp_in_iff.mpr (by decide)) dX12_stateOf_74 (fun f155 ef155 H locs hP hD hS => ?_)
            have hP : va_P (dC, dI) classes (WM h g ca (u2 (u2 iv 12 41 n16) 12 19 n151) (u2 (u2 lv 12 17 n152) 12 18 n153) (u2 (u2 fa 12 39 n14) 12 40 n15) (u2 (u2 la 12 42 f154) 12 43 f155)) H := hP
            have hD : va_D A (WM h g ca (u2 (u2 iv 12 41 n16) 12 19 n151) (u2 (u2 lv 12 17 n152) 12 18 n153) (u2 (u2 fa 12 39 n14) 12 40 n15) (u2 (u2 la 12 42 f154) 12 43 f155)) := hD
            have yf155_0 : f155 (0 : Int32).toNatClampNeg = n21 := by rw [ef155]; exact (updL_ne (by decide)).trans yf111_0
            have yf155_1 : f155 (1 : Int32).toNatClampNeg = n109 := by rw [ef155]; exact (updL_ne (by decide)).trans yf111_1
            have yf155_2 : f155 (2 : Int32).toNatClampNeg = n153 := by rw [ef155]; exact updL_eq
            refine lv_iload hx hb dX12_stateOf_75 (lv_at hl 2 rfl) ?_
            refine lv_iload hx hb dX12_stateOf_77 (lv_at hl 0 rfl) ?_
            refine lv_iload_n hx hb dX12_stateOf_79 rfl (lv_at hl 6 rfl) ?_
            refine lv_icmp_lt (tgt := 87) hx hb dX12_stateOf_80 (by decide) (fun c156 => ?_) (fun c156 => ?_)
            · have fc156 := z_lt (rfl : (r150).toInt = _) (rfl : (r1).toInt = _) c156
              refine lv_iconst (v := 0) hx hb dX12_stateOf_87 (by decide) ?_
              refine vp_callSi (W.runS (As := [.int 0]) (rest := [.int 3]) ⟨hx, hb, hml, hown, ht⟩ (c_X12_bit_0 l dC dI) (kS 1 ht m_1396 m_1397 m_89 m_1398 rfl rfl hd_X12_bit_v ⟨Nat.le_of_ble_eq_true rfl, Nat.le_of_ble_eq_true rfl⟩) (sR noP (hK.sub (tys' := []) [] rfl)) rfl rfl hl.1 rfl (lv_room (Nat.le_of_ble_eq_true rfl)) dX12_stateOf_88 ⟨Nat.le_of_ble_eq_true rfl, Nat.le_of_ble_eq_true rfl⟩) (fun r157 hr157 => ?_)
              obtain rfl : 0 = r157 := hr157.symm
              refine lv_iload hx hb dX12_stateOf_91 (lv_at hl 1 rfl) ?_
              refine lv_ishl hx hb dX12_stateOf_93 ?_
              refine lv_topi (fun v158 ev158 => ?_)
              obtain rfl : 0 = v158 := (ev158.trans (by decide)).symm
              refine lv_ior hx hb dX12_stateOf_94 ?_
              refine lv_topi (fun v159 ev159 => ?_)
              obtain rfl : 3 = v159 := (ev159.trans (by decide)).symm
              refine lv_istore (lv' := [(7, .int 3), (9, .int r150), (8, .int 2), (6, .int r13), (5, .int r9), (4, .int r5), (3, .int r1), (0, .ref h), (1, .int a), (2, .int b)]) hx hb dX12_stateOf_95 hl (by decide) rfl (fun ls hl => ?_)
              refine lv_iinc (v := 3) (lv' := [(8, .int 3), (7, .int 3), (9, .int r150), (6, .int r13), (5, .int r9), (4, .int r5), (3, .int r1), (0, .ref h), (1, .int a), (2, .int b)]) hx hb dX12_stateOf_97 hl (k := 2) rfl (by decide) (by decide) rfl (fun ls hl => ?_)
              refine lv_goto (tgt := 37) hx hb dX12_stateOf_100 (by decide) ?_
              refine lv_iload hx hb dX12_stateOf_37 (lv_at hl 0 rfl) ?_
              refine lv_iconst (v := 3) hx hb dX12_stateOf_39 (by decide) ?_
              refine lv_icmp_ge (tgt := 103) hx hb dX12_stateOf_40 (by decide) (fun c160 => ?_) (fun c160 => ?_)
              · skip
                refine lv_iload hx hb dX12_stateOf_103 (lv_at hl 5 rfl) ?_
                refine lv_iconst (v := 1) hx hb dX12_stateOf_105 (by decide) ?_
                refine lv_icmp_ne (tgt := 119) hx hb dX12_stateOf_106 (by decide) (fun c161 => ?_) (fun c161 => ?_)
                · have fc161 := z_ne (rfl : (r5).toInt = _) (by decide : (1 : Int32).toInt = 1) c161
                  refine lv_iload hx hb dX12_stateOf_119 (lv_at hl 1 rfl) ?_
                  refine lv_iconst (v := 3) hx hb dX12_stateOf_121 (by decide) ?_
                  refine lv_iand hx hb dX12_stateOf_122 ?_
                  refine lv_topi (fun v162 ev162 => ?_)
                  obtain rfl : 3 = v162 := (ev162.trans (by decide)).symm
                  refine lv_iconst (v := 3) hx hb dX12_stateOf_123 (by decide) ?_
                  refine lv_icmp_eq (tgt := 129) hx hb dX12_stateOf_124 (by decide) (fun c163 => ?_) (fun c163 => ?_)
                  · skip
                    refine lv_aload_n hx hb dX12_stateOf_129 rfl (lv_at hl 7 rfl) ?_
                    refine gM_12_42 hx hb ht hown hK hP m_1181 dX12_stateOf_130 ?_
                    refine lv_iconst (v := 0) hx hb dX12_stateOf_133 (by decide) ?_
                    refine lM_12_42 hx hb hK hP (f := f154) rfl (vp_in_iff.mpr (by decide)) dX12_stateOf_134 ?_
                    refine lv_topl (fun w164 ew164 => ?_)
                    refine lv_aload_n hx hb dX12_stateOf_135 rfl (lv_at hl 7 rfl) ?_
                    refine gM_12_43 hx hb ht hown hK hP m_1182 dX12_stateOf_136 ?_
                    refine lv_iconst (v := 0) hx hb dX12_stateOf_139 (by decide) ?_
                    refine lM_12_43 hx hb hK hP (f := f155) rfl (vp_in_iff.mpr (by decide)) dX12_stateOf_140 ?_
                    refine lv_topl (fun w165 ew165 => ?_)
                    refine lv_aload_n hx hb dX12_stateOf_141 rfl (lv_at hl 7 rfl) ?_
                    refine gM_12_42 hx hb ht hown hK hP m_1181 dX12_stateOf_142 ?_
                    refine lv_iconst (v := 1) hx hb dX12_stateOf_145 (by decide) ?_
                    refine lM_12_42 hx hb hK hP (f := f154) rfl (vp_in_iff.mpr (by decide)) dX12_stateOf_146 ?_
                    refine lv_topl (fun w166 ew166 => ?_)
                    refine lv_aload_n hx hb dX12_stateOf_147 rfl (lv_at hl 7 rfl) ?_
                    refine gM_12_43 hx hb ht hown hK hP m_1182 dX12_stateOf_148 ?_
                    refine lv_iconst (v := 1) hx hb dX12_stateOf_151 (by decide) ?_
                    refine lM_12_43 hx hb hK hP (f := f155) rfl (vp_in_iff.mpr (by decide)) dX12_stateOf_152 ?_
                    refine lv_topl (fun w167 ew167 => ?_)
                    refine lv_iload hx hb dX12_stateOf_153 (lv_at hl 3 rfl) ?_
                    refine vp_callSi (W.runS (As := [.long w164, .long w165, .long w166, .long w167, .int r13]) (rest := []) ⟨hx, hb, hml, hown, ht⟩ (c_X12_doPart l dC dI w164 w165 w166 w167 r13) (kS 5 ht m_1540 m_1541 m_89 m_1542 rfl rfl hd_X12_doPart_v ⟨Nat.le_of_ble_eq_true rfl, Nat.le_of_ble_eq_true rfl⟩) (sR noP (hK.sub (tys' := []) [] rfl)) rfl rfl hl.1 rfl (lv_room (Nat.le_of_ble_eq_true rfl)) dX12_stateOf_155 ⟨Nat.le_of_ble_eq_true rfl, Nat.le_of_ble_eq_true rfl⟩) (fun r168 hr168 => ?_)
                    refine lv_if_ne (tgt := 196) hx hb dX12_stateOf_158 (by decide) (fun c169 => ?_) (fun c169 => ?_)
                    · have fc169 := z_ne (rfl : (r168).toInt = _) (by decide : (0 : Int32).toInt = 0) c169
                      refine lv_iload hx hb dX12_stateOf_196 (lv_at hl 1 rfl) ?_
                      refine lv_iconst (v := 4) hx hb dX12_stateOf_198 (by decide) ?_
                      refine lv_iand hx hb dX12_stateOf_199 ?_
                      refine lv_topi (fun v170 ev170 => ?_)
                      obtain rfl : 0 = v170 := (ev170.trans (by decide)).symm
                      refine lv_if_ne (tgt := 205) hx hb dX12_stateOf_200 (by decide) (fun c171 => ?_) (fun c171 => ?_)
                      · exact absurd rfl c171
                      · skip
                        refine lv_iconst (v := 2) hx hb dX12_stateOf_203 (by decide) ?_
                        have : (2 : Int32).toInt = 2 := (by decide)
                        have hP9 : va_P (dC, dI) classes (WM h g ca (u2 (u2 iv 12 19 n151) 12 41 n16) (u2 (u2 (u2 (u2 lv 12 17 n152) 12 18 n153) 12 44 (lv 12 44)) 12 45 (lv 12 45)) (u2 (u2 fa 12 39 n14) 12 40 n15) (u2 (u2 la 12 42 f154) 12 43 f155)) H := hP
                        have hD9 : va_D A (WM h g ca (u2 (u2 iv 12 19 n151) 12 41 n16) (u2 (u2 (u2 (u2 lv 12 17 n152) 12 18 n153) 12 44 (lv 12 44)) 12 45 (lv 12 45)) (u2 (u2 fa 12 39 n14) 12 40 n15) (u2 (u2 la 12 42 f154) 12 43 f155)) := hD
                        exact W.iret (v := 2) hx hb hr (fun t ht9 hW => ⟨⟨2, ((u2 (u2 iv 12 19 n151) 12 41 n16), (u2 (u2 (u2 (u2 lv 12 17 n152) 12 18 n153) 12 44 (lv 12 44)) 12 45 (lv 12 45)), (u2 (u2 fa 12 39 n14) 12 40 n15), (u2 (u2 la 12 42 f154) 12 43 f155)), rfl, ⟨n14, n15, f154, f155, n151, n16, n152, n153, (lv 12 44), (lv 12 45), hn14, hn15, (show inb (0, 8) n16 from ⟨by omega, by omega⟩), (show ((2 : Int32).toInt ≠ 1 ∨ (1 ≤ ((lv 12 45) : Int64).toInt ∧ ((lv 12 45) : Int64).toInt ≤ 719856007200)) from by omega), ⟨by decide, by decide⟩, rfl⟩, by rw [ht9]; exact hP9, hD9⟩, hS.F ht9⟩) hS.2.2 dX12_stateOf_204
                    · have fc169 := z_eq (rfl : (r168).toInt = _) (by decide : (0 : Int32).toInt = 0) c169
                      refine lv_iload hx hb dX12_stateOf_161 (lv_at hl 4 rfl) ?_
                      refine lv_iconst (v := 1) hx hb dX12_stateOf_163 (by decide) ?_
                      refine lv_icmp_ne (tgt := 188) hx hb dX12_stateOf_164 (by decide) (fun c172 => ?_) (fun c172 => ?_)
                      · have fc172 := z_ne (rfl : (r9).toInt = _) (by decide : (1 : Int32).toInt = 1) c172
                        refine lv_aload_n hx hb dX12_stateOf_188 rfl (lv_at hl 7 rfl) ?_
                        refine lv_iconst (v := 0) hx hb dX12_stateOf_189 (by decide) ?_
                        refine lv_iconst (v := 1) hx hb dX12_stateOf_190 (by decide) ?_
                        have hFc := free_all hD hS hA
                        refine va_callv (va_runV (As := [.int 0, .int 1]) (rest := []) ⟨hx, hb, hml, hown, ht⟩ (c_X12_half_p01 l dC dI H.size h g ca (u2 (u2 iv 12 41 n16) 12 19 n151) (u2 (u2 lv 12 17 n152) 12 18 n153) (u2 (u2 fa 12 39 n14) 12 40 n15) (u2 (u2 la 12 42 f154) 12 43 f155) (IX_a (c := 12) (k := 40) (IX_a (c := 12) (k := 39) (IX_i (c := 12) (k := 19) (IX_i (c := 12) (k := 41) hI (show inb (0, 8) n16 from ⟨by omega, by omega⟩)) (full_i _)) hn14) hn15) (show 1 ≤ (f155 (0 : Int32).toNatClampNeg).toInt ∧ (f155 (0 : Int32).toNatClampNeg).toInt ≤ 599940 from by rw [yf155_0]; exact ⟨by omega, by omega⟩) (show 1 ≤ (f155 (1 : Int32).toNatClampNeg).toInt ∧ (f155 (1 : Int32).toNatClampNeg).toInt ≤ 599940 from by rw [yf155_1]; exact ⟨by omega, by omega⟩)) (kV 2 ht m_1548 m_1550 m_61 m_89 m_1551 rfl rfl hd_X12_half_v ⟨Nat.le_of_ble_eq_true rfl, Nat.le_of_ble_eq_true rfl⟩) (vW hP hK hD (rM_12 hK hP)) rfl rfl hl.1 rfl (lv_room (Nat.le_of_ble_eq_true rfl)) dX12_stateOf_191 ⟨Nat.le_of_ble_eq_true rfl, Nat.le_of_ble_eq_true rfl⟩) hS (fun q _ h => hFc q h) hFc (fun u t H1 locs ht9 hvm hr173 hB hz1 hk1 hS => ?_)
                        obtain ⟨n174, n175, xr173_0, xr173_1, rfl⟩ := hr173
                        obtain ⟨hP, hD⟩ := hB
                        rw [ht9] at hP
                        generalize H1 = H at hP hS ⊢
                        have hP : va_P (dC, dI) classes (WM h g ca (u2 (u2 iv 12 41 n16) 12 19 n151) (u2 (u2 (u2 (u2 lv 12 17 n152) 12 18 n153) 12 44 n174) 12 45 n175) (u2 (u2 fa 12 39 n14) 12 40 n15) (u2 (u2 la 12 42 f154) 12 43 f155)) H := hP
                        have hD : va_D A (WM h g ca (u2 (u2 iv 12 41 n16) 12 19 n151) (u2 (u2 (u2 (u2 lv 12 17 n152) 12 18 n153) 12 44 n174) 12 45 n175) (u2 (u2 fa 12 39 n14) 12 40 n15) (u2 (u2 la 12 42 f154) 12 43 f155)) := (show va_D _ (WM h g ca (u2 (u2 iv 12 41 n16) 12 19 n151) (u2 (u2 (u2 (u2 lv 12 17 n152) 12 18 n153) 12 44 n174) 12 45 n175) (u2 (u2 fa 12 39 n14) 12 40 n15) (u2 (u2 la 12 42 f154) 12 43 f155)) from hD).weaken (fun _ _ _ h => hFc _ h)
                        have xr173_0 : 1 ≤ (n175 : Int64).toInt := xr173_0
                        have xr173_1 : (n175 : Int64).toInt ≤ 719856007200 := xr173_1
                        refine lv_iconst (v := 1) hx hb dX12_stateOf_194 (by decide) ?_
                        have : (1 : Int32).toInt = 1 := (by decide)
                        have hP9 : va_P (dC, dI) classes (WM h g ca (u2 (u2 iv 12 19 n151) 12 41 n16) (u2 (u2 (u2 (u2 lv 12 17 n152) 12 18 n153) 12 44 n174) 12 45 n175) (u2 (u2 fa 12 39 n14) 12 40 n15) (u2 (u2 la 12 42 f154) 12 43 f155)) H := hP
                        have hD9 : va_D A (WM h g ca (u2 (u2 iv 12 19 n151) 12 41 n16) (u2 (u2 (u2 (u2 lv 12 17 n152) 12 18 n153) 12 44 n174) 12 45 n175) (u2 (u2 fa 12 39 n14) 12 40 n15) (u2 (u2 la 12 42 f154) 12 43 f155)) := hD
                        exact W.iret (v := 1) hx hb hr (fun t ht9 hW => ⟨⟨1, ((u2 (u2 iv 12 19 n151) 12 41 n16), (u2 (u2 (u2 (u2 lv 12 17 n152) 12 18 n153) 12 44 n174) 12 45 n175), (u2 (u2 fa 12 39 n14) 12 40 n15), (u2 (u2 la 12 42 f154) 12 43 f155)), rfl, ⟨n14, n15, f154, f155, n151, n16, n152, n153, n174, n175, hn14, hn15, (show inb (0, 8) n16 from ⟨by omega, by omega⟩), (show ((1 : Int32).toInt ≠ 1 ∨ (1 ≤ (n175 : Int64).toInt ∧ (n175 : Int64).toInt ≤ 719856007200)) from by omega), ⟨by decide, by decide⟩, rfl⟩, by rw [ht9]; exact hP9, hD9⟩, hS.F ht9⟩) hS.2.2 dX12_stateOf_195
                      · have fc172 := z_eq (rfl : (r9).toInt = _) (by decide : (1 : Int32).toInt = 1) c172
                        refine lv_aload_n hx hb dX12_stateOf_167 rfl (lv_at hl 7 rfl) ?_
                        refine lv_aload_n hx hb dX12_stateOf_168 rfl (lv_at hl 7 rfl) ?_
                        refine lv_iconst (v := 1) hx hb dX12_stateOf_169 (by decide) ?_
                        refine lv_iconst (v := 0) hx hb dX12_stateOf_170 (by decide) ?_
                        refine vp_callSi (W.runV (As := [.int 1, .int 0]) (rest := [.ref h]) ⟨hx, hb, hml, hown, ht⟩ (c_X12_isLess l dC dI h g ca (u2 (u2 iv 12 41 n16) 12 19 n151) (u2 (u2 lv 12 17 n152) 12 18 n153) (u2 (u2 fa 12 39 n14) 12 40 n15) (u2 (u2 la 12 42 f154) 12 43 f155) (IX_a (c := 12) (k := 40) (IX_a (c := 12) (k := 39) (IX_i (c := 12) (k := 19) (IX_i (c := 12) (k := 41) hI (show inb (0, 8) n16 from ⟨by omega, by omega⟩)) (full_i _)) hn14) hn15) 1 0 ⟨by decide, by decide⟩ ⟨by decide, by decide⟩) (kV 2 ht m_1544 m_1546 m_60 m_89 m_1547 rfl rfl hd_X12_isLess_v ⟨Nat.le_of_ble_eq_true rfl, Nat.le_of_ble_eq_true rfl⟩) (vR hP hK (rM_12 hK hP)) rfl rfl hl.1 rfl (lv_room (Nat.le_of_ble_eq_true rfl)) dX12_stateOf_171 ⟨Nat.le_of_ble_eq_true rfl, Nat.le_of_ble_eq_true rfl⟩) (fun r176 hr176 => ?_)
                        refine lv_if_eq (tgt := 181) hx hb dX12_stateOf_174 (by decide) (fun c177 => ?_) (fun c177 => ?_)
                        · have fc177 := z_eq (rfl : (r176).toInt = _) (by decide : (0 : Int32).toInt = 0) c177
                          refine lv_iconst (v := 0) hx hb dX12_stateOf_181 (by decide) ?_
                          have hFc := free_all hD hS hA
                          refine va_callv (va_runV (As := [.int 0]) (rest := []) ⟨hx, hb, hml, hown, ht⟩ (c_X12_only_p0 l dC dI H.size h g ca (u2 (u2 iv 12 41 n16) 12 19 n151) (u2 (u2 lv 12 17 n152) 12 18 n153) (u2 (u2 fa 12 39 n14) 12 40 n15) (u2 (u2 la 12 42 f154) 12 43 f155) (IX_a (c := 12) (k := 40) (IX_a (c := 12) (k := 39) (IX_i (c := 12) (k := 19) (IX_i (c := 12) (k := 41) hI (show inb (0, 8) n16 from ⟨by omega, by omega⟩)) (full_i _)) hn14) hn15) (show 1 ≤ (f155 (0 : Int32).toNatClampNeg).toInt ∧ (f155 (0 : Int32).toNatClampNeg).toInt ≤ 599940 from by rw [yf155_0]; exact ⟨by omega, by omega⟩)) (kV 1 ht m_1536 m_1538 m_59 m_89 m_1539 rfl rfl hd_X12_only_v ⟨Nat.le_of_ble_eq_true rfl, Nat.le_of_ble_eq_true rfl⟩) (vW hP hK hD (rM_12 hK hP)) rfl rfl hl.1 rfl (lv_room (Nat.le_of_ble_eq_true rfl)) dX12_stateOf_182 ⟨Nat.le_of_ble_eq_true rfl, Nat.le_of_ble_eq_true rfl⟩) hS (fun q _ h => hFc q h) hFc (fun u t H1 locs ht9 hvm hr178 hB hz1 hk1 hS => ?_)
                          obtain ⟨n179, n180, xr178_0, xr178_1, rfl⟩ := hr178
                          obtain ⟨hP, hD⟩ := hB
                          rw [ht9] at hP
                          generalize H1 = H at hP hS ⊢
                          have hP : va_P (dC, dI) classes (WM h g ca (u2 (u2 iv 12 41 n16) 12 19 n151) (u2 (u2 (u2 (u2 lv 12 17 n152) 12 18 n153) 12 44 n179) 12 45 n180) (u2 (u2 fa 12 39 n14) 12 40 n15) (u2 (u2 la 12 42 f154) 12 43 f155)) H := hP
                          have hD : va_D A (WM h g ca (u2 (u2 iv 12 41 n16) 12 19 n151) (u2 (u2 (u2 (u2 lv 12 17 n152) 12 18 n153) 12 44 n179) 12 45 n180) (u2 (u2 fa 12 39 n14) 12 40 n15) (u2 (u2 la 12 42 f154) 12 43 f155)) := (show va_D _ (WM h g ca (u2 (u2 iv 12 41 n16) 12 19 n151) (u2 (u2 (u2 (u2 lv 12 17 n152) 12 18 n153) 12 44 n179) 12 45 n180) (u2 (u2 fa 12 39 n14) 12 40 n15) (u2 (u2 la 12 42 f154) 12 43 f155)) from hD).weaken (fun _ _ _ h => hFc _ h)
                          have xr178_0 : 1 ≤ (n180 : Int64).toInt := xr178_0
                          have xr178_1 : (n180 : Int64).toInt ≤ 719856007200 := xr178_1
                          refine lv_goto (tgt := 194) hx hb dX12_stateOf_185 (by decide) ?_
                          refine lv_iconst (v := 1) hx hb dX12_stateOf_194 (by decide) ?_
                          have : (1 : Int32).toInt = 1 := (by decide)
                          have hP9 : va_P (dC, dI) classes (WM h g ca (u2 (u2 iv 12 19 n151) 12 41 n16) (u2 (u2 (u2 (u2 lv 12 17 n152) 12 18 n153) 12 44 n179) 12 45 n180) (u2 (u2 fa 12 39 n14) 12 40 n15) (u2 (u2 la 12 42 f154) 12 43 f155)) H := hP
                          have hD9 : va_D A (WM h g ca (u2 (u2 iv 12 19 n151) 12 41 n16) (u2 (u2 (u2 (u2 lv 12 17 n152) 12 18 n153) 12 44 n179) 12 45 n180) (u2 (u2 fa 12 39 n14) 12 40 n15) (u2 (u2 la 12 42 f154) 12 43 f155)) := hD
                          exact W.iret (v := 1) hx hb hr (fun t ht9 hW => ⟨⟨1, ((u2 (u2 iv 12 19 n151) 12 41 n16), (u2 (u2 (u2 (u2 lv 12 17 n152) 12 18 n153) 12 44 n179) 12 45 n180), (u2 (u2 fa 12 39 n14) 12 40 n15), (u2 (u2 la 12 42 f154) 12 43 f155)), rfl, ⟨n14, n15, f154, f155, n151, n16, n152, n153, n179, n180, hn14, hn15, (show inb (0, 8) n16 from ⟨by omega, by omega⟩), (show ((1 : Int32).toInt ≠ 1 ∨ (1 ≤ (n180 : Int64).toInt ∧ (n180 : Int64).toInt ≤ 719856007200)) from by omega), ⟨by decide, by decide⟩, rfl⟩, by rw [ht9]; exact hP9, hD9⟩, hS.F ht9⟩) hS.2.2 dX12_stateOf_195
                        · have fc177 := z_ne (rfl : (r176).toInt = _) (by decide : (0 : Int32).toInt = 0) c177
                          refine lv_iconst (v := 1) hx hb dX12_stateOf_177 (by decide) ?_
                          refine lv_goto (tgt := 182) hx hb dX12_stateOf_178 (by decide) ?_
                          have hFc := free_all hD hS hA
                          refine va_callv (va_runV (As := [.int 1]) (rest := []) ⟨hx, hb, hml, hown, ht⟩ (c_X12_only_p1 l dC dI H.size h g ca (u2 (u2 iv 12 41 n16) 12 19 n151) (u2 (u2 lv 12 17 n152) 12 18 n153) (u2 (u2 fa 12 39 n14) 12 40 n15) (u2 (u2 la 12 42 f154) 12 43 f155) (IX_a (c := 12) (k := 40) (IX_a (c := 12) (k := 39) (IX_i (c := 12) (k := 19) (IX_i (c := 12) (k := 41) hI (show inb (0, 8) n16 from ⟨by omega, by omega⟩)) (full_i _)) hn14) hn15) (show 1 ≤ (f155 (1 : Int32).toNatClampNeg).toInt ∧ (f155 (1 : Int32).toNatClampNeg).toInt ≤ 599940 from by rw [yf155_1]; exact ⟨by omega, by omega⟩)) (kV 1 ht m_1536 m_1538 m_59 m_89 m_1539 rfl rfl hd_X12_only_v ⟨Nat.le_of_ble_eq_true rfl, Nat.le_of_ble_eq_true rfl⟩) (vW hP hK hD (rM_12 hK hP)) rfl rfl hl.1 rfl (lv_room (Nat.le_of_ble_eq_true rfl)) dX12_stateOf_182 ⟨Nat.le_of_ble_eq_true rfl, Nat.le_of_ble_eq_true rfl⟩) hS (fun q _ h => hFc q h) hFc (fun u t H1 locs ht9 hvm hr181 hB hz1 hk1 hS => ?_)
                          obtain ⟨n182, n183, xr181_0, xr181_1, rfl⟩ := hr181
                          obtain ⟨hP, hD⟩ := hB
                          rw [ht9] at hP
                          generalize H1 = H at hP hS ⊢
                          have hP : va_P (dC, dI) classes (WM h g ca (u2 (u2 iv 12 41 n16) 12 19 n151) (u2 (u2 (u2 (u2 lv 12 17 n152) 12 18 n153) 12 44 n182) 12 45 n183) (u2 (u2 fa 12 39 n14) 12 40 n15) (u2 (u2 la 12 42 f154) 12 43 f155)) H := hP
                          have hD : va_D A (WM h g ca (u2 (u2 iv 12 41 n16) 12 19 n151) (u2 (u2 (u2 (u2 lv 12 17 n152) 12 18 n153) 12 44 n182) 12 45 n183) (u2 (u2 fa 12 39 n14) 12 40 n15) (u2 (u2 la 12 42 f154) 12 43 f155)) := (show va_D _ (WM h g ca (u2 (u2 iv 12 41 n16) 12 19 n151) (u2 (u2 (u2 (u2 lv 12 17 n152) 12 18 n153) 12 44 n182) 12 45 n183) (u2 (u2 fa 12 39 n14) 12 40 n15) (u2 (u2 la 12 42 f154) 12 43 f155)) from hD).weaken (fun _ _ _ h => hFc _ h)
                          have xr181_0 : 1 ≤ (n183 : Int64).toInt := xr181_0
                          have xr181_1 : (n183 : Int64).toInt ≤ 719856007200 := xr181_1
                          refine lv_goto (tgt := 194) hx hb dX12_stateOf_185 (by decide) ?_
                          refine lv_iconst (v := 1) hx hb dX12_stateOf_194 (by decide) ?_
                          have : (1 : Int32).toInt = 1 := (by decide)
                          have hP9 : va_P (dC, dI) classes (WM h g ca (u2 (u2 iv 12 19 n151) 12 41 n16) (u2 (u2 (u2 (u2 lv 12 17 n152) 12 18 n153) 12 44 n182) 12 45 n183) (u2 (u2 fa 12 39 n14) 12 40 n15) (u2 (u2 la 12 42 f154) 12 43 f155)) H := hP
                          have hD9 : va_D A (WM h g ca (u2 (u2 iv 12 19 n151) 12 41 n16) (u2 (u2 (u2 (u2 lv 12 17 n152) 12 18 n153) 12 44 n182) 12 45 n183) (u2 (u2 fa 12 39 n14) 12 40 n15) (u2 (u2 la 12 42 f154) 12 43 f155)) := hD
                          exact W.iret (v := 1) hx hb hr (fun t ht9 hW => ⟨⟨1, ((u2 (u2 iv 12 19 n151) 12 41 n16), (u2 (u2 (u2 (u2 lv 12 17 n152) 12 18 n153) 12 44 n182) 12 45 n183), (u2 (u2 fa 12 39 n14) 12 40 n15), (u2 (u2 la 12 42 f154) 12 43 f155)), rfl, ⟨n14, n15, f154, f155, n151, n16, n152, n153, n182, n183, hn14, hn15, (show inb (0, 8) n16 from ⟨by omega, by omega⟩), (show ((1 : Int32).toInt ≠ 1 ∨ (1 ≤ (n183 : Int64).toInt ∧ (n183 : Int64).toInt ≤ 719856007200)) from by omega), ⟨by decide, by decide⟩, rfl⟩, by rw [ht9]; exact hP9, hD9⟩, hS.F ht9⟩) hS.2.2 dX12_stateOf_195
                  · exact absurd rfl c163
                · have fc161 := z_eq (rfl : (r5).toInt = _) (by decide : (1 : Int32).toInt = 1) c161
                  refine lv_aload_n hx hb dX12_stateOf_109 rfl (lv_at hl 7 rfl) ?_
                  refine lv_iconst (v := 0) hx hb dX12_stateOf_110 (by decide) ?_
                  have hFc := free_all hD hS hA
                  refine va_callv (va_runV (As := [.int 0]) (rest := []) ⟨hx, hb, hml, hown, ht⟩ (c_X12_only_p0 l dC dI H.size h g ca (u2 (u2 iv 12 41 n16) 12 19 n151) (u2 (u2 lv 12 17 n152) 12 18 n153) (u2 (u2 fa 12 39 n14) 12 40 n15) (u2 (u2 la 12 42 f154) 12 43 f155) (IX_a (c := 12) (k := 40) (IX_a (c := 12) (k := 39) (IX_i (c := 12) (k := 19) (IX_i (c := 12) (k := 41) hI (show inb (0, 8) n16 from ⟨by omega, by omega⟩)) (full_i _)) hn14) hn15) (show 1 ≤ (f155 (0 : Int32).toNatClampNeg).toInt ∧ (f155 (0 : Int32).toNatClampNeg).toInt ≤ 599940 from by rw [yf155_0]; exact ⟨by omega, by omega⟩)) (kV 1 ht m_1536 m_1538 m_59 m_89 m_1539 rfl rfl hd_X12_only_v ⟨Nat.le_of_ble_eq_true rfl, Nat.le_of_ble_eq_true rfl⟩) (vW hP hK hD (rM_12 hK hP)) rfl rfl hl.1 rfl (lv_room (Nat.le_of_ble_eq_true rfl)) dX12_stateOf_111 ⟨Nat.le_of_ble_eq_true rfl, Nat.le_of_ble_eq_true rfl⟩) hS (fun q _ h => hFc q h) hFc (fun u t H1 locs ht9 hvm hr184 hB hz1 hk1 hS => ?_)
                  obtain ⟨n185, n186, xr184_0, xr184_1, rfl⟩ := hr184
                  obtain ⟨hP, hD⟩ := hB
                  rw [ht9] at hP
                  generalize H1 = H at hP hS ⊢
                  have hP : va_P (dC, dI) classes (WM h g ca (u2 (u2 iv 12 41 n16) 12 19 n151) (u2 (u2 (u2 (u2 lv 12 17 n152) 12 18 n153) 12 44 n185) 12 45 n186) (u2 (u2 fa 12 39 n14) 12 40 n15) (u2 (u2 la 12 42 f154) 12 43 f155)) H := hP
                  have hD : va_D A (WM h g ca (u2 (u2 iv 12 41 n16) 12 19 n151) (u2 (u2 (u2 (u2 lv 12 17 n152) 12 18 n153) 12 44 n185) 12 45 n186) (u2 (u2 fa 12 39 n14) 12 40 n15) (u2 (u2 la 12 42 f154) 12 43 f155)) := (show va_D _ (WM h g ca (u2 (u2 iv 12 41 n16) 12 19 n151) (u2 (u2 (u2 (u2 lv 12 17 n152) 12 18 n153) 12 44 n185) 12 45 n186) (u2 (u2 fa 12 39 n14) 12 40 n15) (u2 (u2 la 12 42 f154) 12 43 f155)) from hD).weaken (fun _ _ _ h => hFc _ h)
                  have xr184_0 : 1 ≤ (n186 : Int64).toInt := xr184_0
                  have xr184_1 : (n186 : Int64).toInt ≤ 719856007200 := xr184_1
                  refine lv_iload hx hb dX12_stateOf_114 (lv_at hl 1 rfl) ?_
                  refine lv_iconst (v := 1) hx hb dX12_stateOf_116 (by decide) ?_
                  refine lv_iand hx hb dX12_stateOf_117 ?_
                  refine lv_topi (fun v187 ev187 => ?_)
                  obtain rfl : 1 = v187 := (ev187.trans (by decide)).symm
                  have : (1 : Int32).toInt = 1 := (by decide)
                  have hP9 : va_P (dC, dI) classes (WM h g ca (u2 (u2 iv 12 19 n151) 12 41 n16) (u2 (u2 (u2 (u2 lv 12 17 n152) 12 18 n153) 12 44 n185) 12 45 n186) (u2 (u2 fa 12 39 n14) 12 40 n15) (u2 (u2 la 12 42 f154) 12 43 f155)) H := hP
                  have hD9 : va_D A (WM h g ca (u2 (u2 iv 12 19 n151) 12 41 n16) (u2 (u2 (u2 (u2 lv 12 17 n152) 12 18 n153) 12 44 n185) 12 45 n186) (u2 (u2 fa 12 39 n14) 12 40 n15) (u2 (u2 la 12 42 f154) 12 43 f155)) := hD
                  exact W.iret (v := 1) hx hb hr (fun t ht9 hW => ⟨⟨1, ((u2 (u2 iv 12 19 n151) 12 41 n16), (u2 (u2 (u2 (u2 lv 12 17 n152) 12 18 n153) 12 44 n185) 12 45 n186), (u2 (u2 fa 12 39 n14) 12 40 n15), (u2 (u2 la 12 42 f154) 12 43 f155)), rfl, ⟨n14, n15, f154, f155, n151, n16, n152, n153, n185, n186, hn14, hn15, (show inb (0, 8) n16 from ⟨by omega, by omega⟩), (show ((1 : Int32).toInt ≠ 1 ∨ (1 ≤ (n186 : Int64).toInt ∧ (n186 : Int64).toInt ≤ 719856007200)) from by omega), ⟨by decide, by decide⟩, rfl⟩, by rw [ht9]; exact hP9, hD9⟩, hS.F ht9⟩) hS.2.2 dX12_stateOf_118
              · exact absurd c160 (by decide)
            · have fc156 := z_nlt (rfl : (r150).toInt = _) (rfl : (r1).toInt = _) c156
              refine lv_iconst (v := 1) hx hb dX12_stateOf_83 (by decide) ?_
              refine lv_goto (tgt := 88) hx hb dX12_stateOf_84 (by decide) ?_
              refine vp_callSi (W.runS (As := [.int 1]) (rest := [.int 3]) ⟨hx, hb, hml, hown, ht⟩ (c_X12_bit_1 l dC dI) (kS 1 ht m_1396 m_1397 m_89 m_1398 rfl rfl hd_X12_bit_v ⟨Nat.le_of_ble_eq_true rfl, Nat.le_of_ble_eq_true rfl⟩) (sR noP (hK.sub (tys' := []) [] rfl)) rfl rfl hl.1 rfl (lv_room (Nat.le_of_ble_eq_true rfl)) dX12_stateOf_88 ⟨Nat.le_of_ble_eq_true rfl, Nat.le_of_ble_eq_true rfl⟩) (fun r188 hr188 => ?_)
              obtain rfl : 1 = r188 := hr188.symm
              refine lv_iload hx hb dX12_stateOf_91 (lv_at hl 1 rfl) ?_
              refine lv_ishl hx hb dX12_stateOf_93 ?_
              refine lv_topi (fun v189 ev189 => ?_)
              obtain rfl : 4 = v189 := (ev189.trans (by decide)).symm
              refine lv_ior hx hb dX12_stateOf_94 ?_
              refine lv_topi (fun v190 ev190 => ?_)
              obtain rfl : 7 = v190 := (ev190.trans (by decide)).symm
              refine lv_istore (lv' := [(7, .int 7), (9, .int r150), (8, .int 2), (6, .int r13), (5, .int r9), (4, .int r5), (3, .int r1), (0, .ref h), (1, .int a), (2, .int b)]) hx hb dX12_stateOf_95 hl (by decide) rfl (fun ls hl => ?_)
              refine lv_iinc (v := 3) (lv' := [(8, .int 3), (7, .int 7), (9, .int r150), (6, .int r13), (5, .int r9), (4, .int r5), (3, .int r1), (0, .ref h), (1, .int a), (2, .int b)]) hx hb dX12_stateOf_97 hl (k := 2) rfl (by decide) (by decide) rfl (fun ls hl => ?_)
              refine lv_goto (tgt := 37) hx hb dX12_stateOf_100 (by decide) ?_
              refine lv_iload hx hb dX12_stateOf_37 (lv_at hl 0 rfl) ?_
              refine lv_iconst (v := 3) hx hb dX12_stateOf_39 (by decide) ?_
              refine lv_icmp_ge (tgt := 103) hx hb dX12_stateOf_40 (by decide) (fun c191 => ?_) (fun c191 => ?_)
              · skip
                refine lv_iload hx hb dX12_stateOf_103 (lv_at hl 5 rfl) ?_
                refine lv_iconst (v := 1) hx hb dX12_stateOf_105 (by decide) ?_
                refine lv_icmp_ne (tgt := 119) hx hb dX12_stateOf_106 (by decide) (fun c192 => ?_) (fun c192 => ?_)
                · have fc192 := z_ne (rfl : (r5).toInt = _) (by decide : (1 : Int32).toInt = 1) c192
                  refine lv_iload hx hb dX12_stateOf_119 (lv_at hl 1 rfl) ?_
                  refine lv_iconst (v := 3) hx hb dX12_stateOf_121 (by decide) ?_
                  refine lv_iand hx hb dX12_stateOf_122 ?_
                  refine lv_topi (fun v193 ev193 => ?_)
                  obtain rfl : 3 = v193 := (ev193.trans (by decide)).symm
                  refine lv_iconst (v := 3) hx hb dX12_stateOf_123 (by decide) ?_
                  refine lv_icmp_eq (tgt := 129) hx hb dX12_stateOf_124 (by decide) (fun c194 => ?_) (fun c194 => ?_)
                  · skip
                    refine lv_aload_n hx hb dX12_stateOf_129 rfl (lv_at hl 7 rfl) ?_
                    refine gM_12_42 hx hb ht hown hK hP m_1181 dX12_stateOf_130 ?_
                    refine lv_iconst (v := 0) hx hb dX12_stateOf_133 (by decide) ?_
                    refine lM_12_42 hx hb hK hP (f := f154) rfl (vp_in_iff.mpr (by decide)) dX12_stateOf_134 ?_
                    refine lv_topl (fun w195 ew195 => ?_)
                    refine lv_aload_n hx hb dX12_stateOf_135 rfl (lv_at hl 7 rfl) ?_
                    refine gM_12_43 hx hb ht hown hK hP m_1182 dX12_stateOf_136 ?_
                    refine lv_iconst (v := 0) hx hb dX12_stateOf_139 (by decide) ?_
                    refine lM_12_43 hx hb hK hP (f := f155) rfl (vp_in_iff.mpr (by decide)) dX12_stateOf_140 ?_
                    refine lv_topl (fun w196 ew196 => ?_)
                    refine lv_aload_n hx hb dX12_stateOf_141 rfl (lv_at hl 7 rfl) ?_
                    refine gM_12_42 hx hb ht hown hK hP m_1181 dX12_stateOf_142 ?_
                    refine lv_iconst (v := 1) hx hb dX12_stateOf_145 (by decide) ?_
                    refine lM_12_42 hx hb hK hP (f := f154) rfl (vp_in_iff.mpr (by decide)) dX12_stateOf_146 ?_
                    refine lv_topl (fun w197 ew197 => ?_)
                    refine lv_aload_n hx hb dX12_stateOf_147 rfl (lv_at hl 7 rfl) ?_
                    refine gM_12_43 hx hb ht hown hK hP m_1182 dX12_stateOf_148 ?_
                    refine lv_iconst (v := 1) hx hb dX12_stateOf_151 (by decide) ?_
                    refine lM_12_43 hx hb hK hP (f := f155) rfl (vp_in_iff.mpr (by decide)) dX12_stateOf_152 ?_
                    refine lv_topl (fun w198 ew198 => ?_)
                    refine lv_iload hx hb dX12_stateOf_153 (lv_at hl 3 rfl) ?_
                    refine vp_callSi (W.runS (As := [.long w195, .long w196, .long w197, .long w198, .int r13]) (rest := []) ⟨hx, hb, hml, hown, ht⟩ (c_X12_doPart l dC dI w195 w196 w197 w198 r13) (kS 5 ht m_1540 m_1541 m_89 m_1542 rfl rfl hd_X12_doPart_v ⟨Nat.le_of_ble_eq_true rfl, Nat.le_of_ble_eq_true rfl⟩) (sR noP (hK.sub (tys' := []) [] rfl)) rfl rfl hl.1 rfl (lv_room (Nat.le_of_ble_eq_true rfl)) dX12_stateOf_155 ⟨Nat.le_of_ble_eq_true rfl, Nat.le_of_ble_eq_true rfl⟩) (fun r199 hr199 => ?_)
                    refine lv_if_ne (tgt := 196) hx hb dX12_stateOf_158 (by decide) (fun c200 => ?_) (fun c200 => ?_)
                    · have fc200 := z_ne (rfl : (r199).toInt = _) (by decide : (0 : Int32).toInt = 0) c200
                      refine lv_iload hx hb dX12_stateOf_196 (lv_at hl 1 rfl) ?_
                      refine lv_iconst (v := 4) hx hb dX12_stateOf_198 (by decide) ?_
                      refine lv_iand hx hb dX12_stateOf_199 ?_
                      refine lv_topi (fun v201 ev201 => ?_)
                      obtain rfl : 4 = v201 := (ev201.trans (by decide)).symm
                      refine lv_if_ne (tgt := 205) hx hb dX12_stateOf_200 (by decide) (fun c202 => ?_) (fun c202 => ?_)
                      · skip
                        refine lv_aload_n hx hb dX12_stateOf_205 rfl (lv_at hl 7 rfl) ?_
                        refine lv_iload hx hb dX12_stateOf_206 (lv_at hl 4 rfl) ?_
                        have hFc := free_all hD hS hA
                        refine va_callv (va_runV (As := [.int r9]) (rest := []) ⟨hx, hb, hml, hown, ht⟩ (c_X12_settleThree_p l dC dI H.size h g ca (u2 (u2 iv 12 41 n16) 12 19 n151) (u2 (u2 lv 12 17 n152) 12 18 n153) (u2 (u2 fa 12 39 n14) 12 40 n15) (u2 (u2 la 12 42 f154) 12 43 f155) (IX_a (c := 12) (k := 40) (IX_a (c := 12) (k := 39) (IX_i (c := 12) (k := 19) (IX_i (c := 12) (k := 41) hI (show inb (0, 8) n16 from ⟨by omega, by omega⟩)) (full_i _)) hn14) hn15) r9 (show 1 ≤ (f155 (0 : Int32).toNatClampNeg).toInt ∧ (f155 (0 : Int32).toNatClampNeg).toInt ≤ 599940 from by rw [yf155_0]; exact ⟨by omega, by omega⟩) (show 1 ≤ (f155 (1 : Int32).toNatClampNeg).toInt ∧ (f155 (1 : Int32).toNatClampNeg).toInt ≤ 599940 from by rw [yf155_1]; exact ⟨by omega, by omega⟩) (show 1 ≤ (f155 (2 : Int32).toNatClampNeg).toInt ∧ (f155 (2 : Int32).toNatClampNeg).toInt ≤ 599940 from by rw [yf155_2]; exact ⟨by omega, by omega⟩)) (kV 1 ht m_1552 m_1554 m_62 m_89 m_1555 rfl rfl hd_X12_settleThree_v ⟨Nat.le_of_ble_eq_true rfl, Nat.le_of_ble_eq_true rfl⟩) (vW hP hK hD (rM_12 hK hP)) rfl rfl hl.1 rfl (lv_room (Nat.le_of_ble_eq_true rfl)) dX12_stateOf_208 ⟨Nat.le_of_ble_eq_true rfl, Nat.le_of_ble_eq_true rfl⟩) hS (fun q _ h => hFc q h) hFc (fun u t H1 locs ht9 hvm hr203 hB hz1 hk1 hS => ?_)
                        obtain ⟨n204, n205, xr203_0, xr203_1, rfl⟩ := hr203
                        obtain ⟨hP, hD⟩ := hB
                        rw [ht9] at hP
                        generalize H1 = H at hP hS ⊢
                        have hP : va_P (dC, dI) classes (WM h g ca (u2 (u2 iv 12 41 n16) 12 19 n151) (u2 (u2 (u2 (u2 lv 12 17 n152) 12 18 n153) 12 44 n204) 12 45 n205) (u2 (u2 fa 12 39 n14) 12 40 n15) (u2 (u2 la 12 42 f154) 12 43 f155)) H := hP
                        have hD : va_D A (WM h g ca (u2 (u2 iv 12 41 n16) 12 19 n151) (u2 (u2 (u2 (u2 lv 12 17 n152) 12 18 n153) 12 44 n204) 12 45 n205) (u2 (u2 fa 12 39 n14) 12 40 n15) (u2 (u2 la 12 42 f154) 12 43 f155)) := (show va_D _ (WM h g ca (u2 (u2 iv 12 41 n16) 12 19 n151) (u2 (u2 (u2 (u2 lv 12 17 n152) 12 18 n153) 12 44 n204) 12 45 n205) (u2 (u2 fa 12 39 n14) 12 40 n15) (u2 (u2 la 12 42 f154) 12 43 f155)) from hD).weaken (fun _ _ _ h => hFc _ h)
                        have xr203_0 : 1 ≤ (n205 : Int64).toInt := xr203_0
                        have xr203_1 : (n205 : Int64).toInt ≤ 719856007200 := xr203_1
                        refine lv_iconst (v := 1) hx hb dX12_stateOf_211 (by decide) ?_
                        have : (1 : Int32).toInt = 1 := (by decide)
                        have hP9 : va_P (dC, dI) classes (WM h g ca (u2 (u2 iv 12 19 n151) 12 41 n16) (u2 (u2 (u2 (u2 lv 12 17 n152) 12 18 n153) 12 44 n204) 12 45 n205) (u2 (u2 fa 12 39 n14) 12 40 n15) (u2 (u2 la 12 42 f154) 12 43 f155)) H := hP
                        have hD9 : va_D A (WM h g ca (u2 (u2 iv 12 19 n151) 12 41 n16) (u2 (u2 (u2 (u2 lv 12 17 n152) 12 18 n153) 12 44 n204) 12 45 n205) (u2 (u2 fa 12 39 n14) 12 40 n15) (u2 (u2 la 12 42 f154) 12 43 f155)) := hD
                        exact W.iret (v := 1) hx hb hr (fun t ht9 hW => ⟨⟨1, ((u2 (u2 iv 12 19 n151) 12 41 n16), (u2 (u2 (u2 (u2 lv 12 17 n152) 12 18 n153) 12 44 n204) 12 45 n205), (u2 (u2 fa 12 39 n14) 12 40 n15), (u2 (u2 la 12 42 f154) 12 43 f155)), rfl, ⟨n14, n15, f154, f155, n151, n16, n152, n153, n204, n205, hn14, hn15, (show inb (0, 8) n16 from ⟨by omega, by omega⟩), (show ((1 : Int32).toInt ≠ 1 ∨ (1 ≤ (n205 : Int64).toInt ∧ (n205 : Int64).toInt ≤ 719856007200)) from by omega), ⟨by decide, by decide⟩, rfl⟩, by rw [ht9]; exact hP9, hD9⟩, hS.F ht9⟩) hS.2.2 dX12_stateOf_212
                      · exact absurd c202 (by decide)
                    · have fc200 := z_eq (rfl : (r199).toInt = _) (by decide : (0 : Int32).toInt = 0) c200
                      refine lv_iload hx hb dX12_stateOf_161 (lv_at hl 4 rfl) ?_
                      refine lv_iconst (v := 1) hx hb dX12_stateOf_163 (by decide) ?_
                      refine lv_icmp_ne (tgt := 188) hx hb dX12_stateOf_164 (by decide) (fun c206 => ?_) (fun c206 => ?_)
                      · have fc206 := z_ne (rfl : (r9).toInt = _) (by decide : (1 : Int32).toInt = 1) c206
                        refine lv_aload_n hx hb dX12_stateOf_188 rfl (lv_at hl 7 rfl) ?_
                        refine lv_iconst (v := 0) hx hb dX12_stateOf_189 (by decide) ?_
                        refine lv_iconst (v := 1) hx hb dX12_stateOf_190 (by decide) ?_
                        have hFc := free_all hD hS hA
                        refine va_callv (va_runV (As := [.int 0, .int 1]) (rest := []) ⟨hx, hb, hml, hown, ht⟩ (c_X12_half_p01 l dC dI H.size h g ca (u2 (u2 iv 12 41 n16) 12 19 n151) (u2 (u2 lv 12 17 n152) 12 18 n153) (u2 (u2 fa 12 39 n14) 12 40 n15) (u2 (u2 la 12 42 f154) 12 43 f155) (IX_a (c := 12) (k := 40) (IX_a (c := 12) (k := 39) (IX_i (c := 12) (k := 19) (IX_i (c := 12) (k := 41) hI (show inb (0, 8) n16 from ⟨by omega, by omega⟩)) (full_i _)) hn14) hn15) (show 1 ≤ (f155 (0 : Int32).toNatClampNeg).toInt ∧ (f155 (0 : Int32).toNatClampNeg).toInt ≤ 599940 from by rw [yf155_0]; exact ⟨by omega, by omega⟩) (show 1 ≤ (f155 (1 : Int32).toNatClampNeg).toInt ∧ (f155 (1 : Int32).toNatClampNeg).toInt ≤ 599940 from by rw [yf155_1]; exact ⟨by omega, by omega⟩)) (kV 2 ht m_1548 m_1550 m_61 m_89 m_1551 rfl rfl hd_X12_half_v ⟨Nat.le_of_ble_eq_true rfl, Nat.le_of_ble_eq_true rfl⟩) (vW hP hK hD (rM_12 hK hP)) rfl rfl hl.1 rfl (lv_room (Nat.le_of_ble_eq_true rfl)) dX12_stateOf_191 ⟨Nat.le_of_ble_eq_true rfl, Nat.le_of_ble_eq_true rfl⟩) hS (fun q _ h => hFc q h) hFc (fun u t H1 locs ht9 hvm hr207 hB hz1 hk1 hS => ?_)
                        obtain ⟨n208, n209, xr207_0, xr207_1, rfl⟩ := hr207
                        obtain ⟨hP, hD⟩ := hB
                        rw [ht9] at hP
                        generalize H1 = H at hP hS ⊢
                        have hP : va_P (dC, dI) classes (WM h g ca (u2 (u2 iv 12 41 n16) 12 19 n151) (u2 (u2 (u2 (u2 lv 12 17 n152) 12 18 n153) 12 44 n208) 12 45 n209) (u2 (u2 fa 12 39 n14) 12 40 n15) (u2 (u2 la 12 42 f154) 12 43 f155)) H := hP
                        have hD : va_D A (WM h g ca (u2 (u2 iv 12 41 n16) 12 19 n151) (u2 (u2 (u2 (u2 lv 12 17 n152) 12 18 n153) 12 44 n208) 12 45 n209) (u2 (u2 fa 12 39 n14) 12 40 n15) (u2 (u2 la 12 42 f154) 12 43 f155)) := (show va_D _ (WM h g ca (u2 (u2 iv 12 41 n16) 12 19 n151) (u2 (u2 (u2 (u2 lv 12 17 n152) 12 18 n153) 12 44 n208) 12 45 n209) (u2 (u2 fa 12 39 n14) 12 40 n15) (u2 (u2 la 12 42 f154) 12 43 f155)) from hD).weaken (fun _ _ _ h => hFc _ h)
                        have xr207_0 : 1 ≤ (n209 : Int64).toInt := xr207_0
                        have xr207_1 : (n209 : Int64).toInt ≤ 719856007200 := xr207_1
                        refine lv_iconst (v := 1) hx hb dX12_stateOf_194 (by decide) ?_
                        have : (1 : Int32).toInt = 1 := (by decide)
                        have hP9 : va_P (dC, dI) classes (WM h g ca (u2 (u2 iv 12 19 n151) 12 41 n16) (u2 (u2 (u2 (u2 lv 12 17 n152) 12 18 n153) 12 44 n208) 12 45 n209) (u2 (u2 fa 12 39 n14) 12 40 n15) (u2 (u2 la 12 42 f154) 12 43 f155)) H := hP
                        have hD9 : va_D A (WM h g ca (u2 (u2 iv 12 19 n151) 12 41 n16) (u2 (u2 (u2 (u2 lv 12 17 n152) 12 18 n153) 12 44 n208) 12 45 n209) (u2 (u2 fa 12 39 n14) 12 40 n15) (u2 (u2 la 12 42 f154) 12 43 f155)) := hD
                        exact W.iret (v := 1) hx hb hr (fun t ht9 hW => ⟨⟨1, ((u2 (u2 iv 12 19 n151) 12 41 n16), (u2 (u2 (u2 (u2 lv 12 17 n152) 12 18 n153) 12 44 n208) 12 45 n209), (u2 (u2 fa 12 39 n14) 12 40 n15), (u2 (u2 la 12 42 f154) 12 43 f155)), rfl, ⟨n14, n15, f154, f155, n151, n16, n152, n153, n208, n209, hn14, hn15, (show inb (0, 8) n16 from ⟨by omega, by omega⟩), (show ((1 : Int32).toInt ≠ 1 ∨ (1 ≤ (n209 : Int64).toInt ∧ (n209 : Int64).toInt ≤ 719856007200)) from by omega), ⟨by decide, by decide⟩, rfl⟩, by rw [ht9]; exact hP9, hD9⟩, hS.F ht9⟩) hS.2.2 dX12_stateOf_195
                      · have fc206 := z_eq (rfl : (r9).toInt = _) (by decide : (1 : Int32).toInt = 1) c206
                        refine lv_aload_n hx hb dX12_stateOf_167 rfl (lv_at hl 7 rfl) ?_
                        refine lv_aload_n hx hb dX12_stateOf_168 rfl (lv_at hl 7 rfl) ?_
                        refine lv_iconst (v := 1) hx hb dX12_stateOf_169 (by decide) ?_
                        refine lv_iconst (v := 0) hx hb dX12_stateOf_170 (by decide) ?_
                        refine vp_callSi (W.runV (As := [.int 1, .int 0]) (rest := [.ref h]) ⟨hx, hb, hml, hown, ht⟩ (c_X12_isLess l dC dI h g ca (u2 (u2 iv 12 41 n16) 12 19 n151) (u2 (u2 lv 12 17 n152) 12 18 n153) (u2 (u2 fa 12 39 n14) 12 40 n15) (u2 (u2 la 12 42 f154) 12 43 f155) (IX_a (c := 12) (k := 40) (IX_a (c := 12) (k := 39) (IX_i (c := 12) (k := 19) (IX_i (c := 12) (k := 41) hI (show inb (0, 8) n16 from ⟨by omega, by omega⟩)) (full_i _)) hn14) hn15) 1 0 ⟨by decide, by decide⟩ ⟨by decide, by decide⟩) (kV 2 ht m_1544 m_1546 m_60 m_89 m_1547 rfl rfl hd_X12_isLess_v ⟨Nat.le_of_ble_eq_true rfl, Nat.le_of_ble_eq_true rfl⟩) (vR hP hK (rM_12 hK hP)) rfl rfl hl.1 rfl (lv_room (Nat.le_of_ble_eq_true rfl)) dX12_stateOf_171 ⟨Nat.le_of_ble_eq_true rfl, Nat.le_of_ble_eq_true rfl⟩) (fun r210 hr210 => ?_)
                        refine lv_if_eq (tgt := 181) hx hb dX12_stateOf_174 (by decide) (fun c211 => ?_) (fun c211 => ?_)
                        · have fc211 := z_eq (rfl : (r210).toInt = _) (by decide : (0 : Int32).toInt = 0) c211
                          refine lv_iconst (v := 0) hx hb dX12_stateOf_181 (by decide) ?_
                          have hFc := free_all hD hS hA
                          refine va_callv (va_runV (As := [.int 0]) (rest := []) ⟨hx, hb, hml, hown, ht⟩ (c_X12_only_p0 l dC dI H.size h g ca (u2 (u2 iv 12 41 n16) 12 19 n151) (u2 (u2 lv 12 17 n152) 12 18 n153) (u2 (u2 fa 12 39 n14) 12 40 n15) (u2 (u2 la 12 42 f154) 12 43 f155) (IX_a (c := 12) (k := 40) (IX_a (c := 12) (k := 39) (IX_i (c := 12) (k := 19) (IX_i (c := 12) (k := 41) hI (show inb (0, 8) n16 from ⟨by omega, by omega⟩)) (full_i _)) hn14) hn15) (show 1 ≤ (f155 (0 : Int32).toNatClampNeg).toInt ∧ (f155 (0 : Int32).toNatClampNeg).toInt ≤ 599940 from by rw [yf155_0]; exact ⟨by omega, by omega⟩)) (kV 1 ht m_1536 m_1538 m_59 m_89 m_1539 rfl rfl hd_X12_only_v ⟨Nat.le_of_ble_eq_true rfl, Nat.le_of_ble_eq_true rfl⟩) (vW hP hK hD (rM_12 hK hP)) rfl rfl hl.1 rfl (lv_room (Nat.le_of_ble_eq_true rfl)) dX12_stateOf_182 ⟨Nat.le_of_ble_eq_true rfl, Nat.le_of_ble_eq_true rfl⟩) hS (fun q _ h => hFc q h) hFc (fun u t H1 locs ht9 hvm hr212 hB hz1 hk1 hS => ?_)
                          obtain ⟨n213, n214, xr212_0, xr212_1, rfl⟩ := hr212
                          obtain ⟨hP, hD⟩ := hB
                          rw [ht9] at hP
                          generalize H1 = H at hP hS ⊢
                          have hP : va_P (dC, dI) classes (WM h g ca (u2 (u2 iv 12 41 n16) 12 19 n151) (u2 (u2 (u2 (u2 lv 12 17 n152) 12 18 n153) 12 44 n213) 12 45 n214) (u2 (u2 fa 12 39 n14) 12 40 n15) (u2 (u2 la 12 42 f154) 12 43 f155)) H := hP
                          have hD : va_D A (WM h g ca (u2 (u2 iv 12 41 n16) 12 19 n151) (u2 (u2 (u2 (u2 lv 12 17 n152) 12 18 n153) 12 44 n213) 12 45 n214) (u2 (u2 fa 12 39 n14) 12 40 n15) (u2 (u2 la 12 42 f154) 12 43 f155)) := (show va_D _ (WM h g ca (u2 (u2 iv 12 41 n16) 12 19 n151) (u2 (u2 (u2 (u2 lv 12 17 n152) 12 18 n153) 12 44 n213) 12 45 n214) (u2 (u2 fa 12 39 n14) 12 40 n15) (u2 (u2 la 12 42 f154) 12 43 f155)) from hD).weaken (fun _ _ _ h => hFc _ h)
                          have xr212_0 : 1 ≤ (n214 : Int64).toInt := xr212_0
                          have xr212_1 : (n214 : Int64).toInt ≤ 719856007200 := xr212_1
                          refine lv_goto (tgt := 194) hx hb dX12_stateOf_185 (by decide) ?_
                          refine lv_iconst (v := 1) hx hb dX12_stateOf_194 (by decide) ?_
                          have : (1 : Int32).toInt = 1 := (by decide)
                          have hP9 : va_P (dC, dI) classes (WM h g ca (u2 (u2 iv 12 19 n151) 12 41 n16) (u2 (u2 (u2 (u2 lv 12 17 n152) 12 18 n153) 12 44 n213) 12 45 n214) (u2 (u2 fa 12 39 n14) 12 40 n15) (u2 (u2 la 12 42 f154) 12 43 f155)) H := hP
                          have hD9 : va_D A (WM h g ca (u2 (u2 iv 12 19 n151) 12 41 n16) (u2 (u2 (u2 (u2 lv 12 17 n152) 12 18 n153) 12 44 n213) 12 45 n214) (u2 (u2 fa 12 39 n14) 12 40 n15) (u2 (u2 la 12 42 f154) 12 43 f155)) := hD
                          exact W.iret (v := 1) hx hb hr (fun t ht9 hW => ⟨⟨1, ((u2 (u2 iv 12 19 n151) 12 41 n16), (u2 (u2 (u2 (u2 lv 12 17 n152) 12 18 n153) 12 44 n213) 12 45 n214), (u2 (u2 fa 12 39 n14) 12 40 n15), (u2 (u2 la 12 42 f154) 12 43 f155)), rfl, ⟨n14, n15, f154, f155, n151, n16, n152, n153, n213, n214, hn14, hn15, (show inb (0, 8) n16 from ⟨by omega, by omega⟩), (show ((1 : Int32).toInt ≠ 1 ∨ (1 ≤ (n214 : Int64).toInt ∧ (n214 : Int64).toInt ≤ 719856007200)) from by omega), ⟨by decide, by decide⟩, rfl⟩, by rw [ht9]; exact hP9, hD9⟩, hS.F ht9⟩) hS.2.2 dX12_stateOf_195
                        · have fc211 := z_ne (rfl : (r210).toInt = _) (by decide : (0 : Int32).toInt = 0) c211
                          refine lv_iconst (v := 1) hx hb dX12_stateOf_177 (by decide) ?_
                          refine lv_goto (tgt := 182) hx hb dX12_stateOf_178 (by decide) ?_
                          have hFc := free_all hD hS hA
                          refine va_callv (va_runV (As := [.int 1]) (rest := []) ⟨hx, hb, hml, hown, ht⟩ (c_X12_only_p1 l dC dI H.size h g ca (u2 (u2 iv 12 41 n16) 12 19 n151) (u2 (u2 lv 12 17 n152) 12 18 n153) (u2 (u2 fa 12 39 n14) 12 40 n15) (u2 (u2 la 12 42 f154) 12 43 f155) (IX_a (c := 12) (k := 40) (IX_a (c := 12) (k := 39) (IX_i (c := 12) (k := 19) (IX_i (c := 12) (k := 41) hI (show inb (0, 8) n16 from ⟨by omega, by omega⟩)) (full_i _)) hn14) hn15) (show 1 ≤ (f155 (1 : Int32).toNatClampNeg).toInt ∧ (f155 (1 : Int32).toNatClampNeg).toInt ≤ 599940 from by rw [yf155_1]; exact ⟨by omega, by omega⟩)) (kV 1 ht m_1536 m_1538 m_59 m_89 m_1539 rfl rfl hd_X12_only_v ⟨Nat.le_of_ble_eq_true rfl, Nat.le_of_ble_eq_true rfl⟩) (vW hP hK hD (rM_12 hK hP)) rfl rfl hl.1 rfl (lv_room (Nat.le_of_ble_eq_true rfl)) dX12_stateOf_182 ⟨Nat.le_of_ble_eq_true rfl, Nat.le_of_ble_eq_true rfl⟩) hS (fun q _ h => hFc q h) hFc (fun u t H1 locs ht9 hvm hr215 hB hz1 hk1 hS => ?_)
                          obtain ⟨n216, n217, xr215_0, xr215_1, rfl⟩ := hr215
                          obtain ⟨hP, hD⟩ := hB
                          rw [ht9] at hP
                          generalize H1 = H at hP hS ⊢
                          have hP : va_P (dC, dI) classes (WM h g ca (u2 (u2 iv 12 41 n16) 12 19 n151) (u2 (u2 (u2 (u2 lv 12 17 n152) 12 18 n153) 12 44 n216) 12 45 n217) (u2 (u2 fa 12 39 n14) 12 40 n15) (u2 (u2 la 12 42 f154) 12 43 f155)) H := hP
                          have hD : va_D A (WM h g ca (u2 (u2 iv 12 41 n16) 12 19 n151) (u2 (u2 (u2 (u2 lv 12 17 n152) 12 18 n153) 12 44 n216) 12 45 n217) (u2 (u2 fa 12 39 n14) 12 40 n15) (u2 (u2 la 12 42 f154) 12 43 f155)) := (show va_D _ (WM h g ca (u2 (u2 iv 12 41 n16) 12 19 n151) (u2 (u2 (u2 (u2 lv 12 17 n152) 12 18 n153) 12 44 n216) 12 45 n217) (u2 (u2 fa 12 39 n14) 12 40 n15) (u2 (u2 la 12 42 f154) 12 43 f155)) from hD).weaken (fun _ _ _ h => hFc _ h)
                          have xr215_0 : 1 ≤ (n217 : Int64).toInt := xr215_0
                          have xr215_1 : (n217 : Int64).toInt ≤ 719856007200 := xr215_1
                          refine lv_goto (tgt := 194) hx hb dX12_stateOf_185 (by decide) ?_
                          refine lv_iconst (v := 1) hx hb dX12_stateOf_194 (by decide) ?_
                          have : (1 : Int32).toInt = 1 := (by decide)
                          have hP9 : va_P (dC, dI) classes (WM h g ca (u2 (u2 iv 12 19 n151) 12 41 n16) (u2 (u2 (u2 (u2 lv 12 17 n152) 12 18 n153) 12 44 n216) 12 45 n217) (u2 (u2 fa 12 39 n14) 12 40 n15) (u2 (u2 la 12 42 f154) 12 43 f155)) H := hP
                          have hD9 : va_D A (WM h g ca (u2 (u2 iv 12 19 n151) 12 41 n16) (u2 (u2 (u2 (u2 lv 12 17 n152) 12 18 n153) 12 44 n216) 12 45 n217) (u2 (u2 fa 12 39 n14) 12 40 n15) (u2 (u2 la 12 42 f154) 12 43 f155)) := hD
                          exact W.iret (v := 1) hx hb hr (fun t ht9 hW => ⟨⟨1, ((u2 (u2 iv 12 19 n151) 12 41 n16), (u2 (u2 (u2 (u2 lv 12 17 n152) 12 18 n153) 12 44 n216) 12 45 n217), (u2 (u2 fa 12 39 n14) 12 40 n15), (u2 (u2 la 12 42 f154) 12 43 f155)), rfl, ⟨n14, n15, f154, f155, n151, n16, n152, n153, n216, n217, hn14, hn15, (show inb (0, 8) n16 from ⟨by omega, by omega⟩), (show ((1 : Int32).toInt ≠ 1 ∨ (1 ≤ (n217 : Int64).toInt ∧ (n217 : Int64).toInt ≤ 719856007200)) from by omega), ⟨by decide, by decide⟩, rfl⟩, by rw [ht9]; exact hP9, hD9⟩, hS.F ht9⟩) hS.2.2 dX12_stateOf_195
                  · exact absurd rfl c194
                · have fc192 := z_eq (rfl : (r5).toInt = _) (by decide : (1 : Int32).toInt = 1) c192
                  refine lv_aload_n hx hb dX12_stateOf_109 rfl (lv_at hl 7 rfl) ?_
                  refine lv_iconst (v := 0) hx hb dX12_stateOf_110 (by decide) ?_
                  have hFc := free_all hD hS hA
                  refine va_callv (va_runV (As := [.int 0]) (rest := []) ⟨hx, hb, hml, hown, ht⟩ (c_X12_only_p0 l dC dI H.size h g ca (u2 (u2 iv 12 41 n16) 12 19 n151) (u2 (u2 lv 12 17 n152) 12 18 n153) (u2 (u2 fa 12 39 n14) 12 40 n15) (u2 (u2 la 12 42 f154) 12 43 f155) (IX_a (c := 12) (k := 40) (IX_a (c := 12) (k := 39) (IX_i (c := 12) (k := 19) (IX_i (c := 12) (k := 41) hI (show inb (0, 8) n16 from ⟨by omega, by omega⟩)) (full_i _)) hn14) hn15) (show 1 ≤ (f155 (0 : Int32).toNatClampNeg).toInt ∧ (f155 (0 : Int32).toNatClampNeg).toInt ≤ 599940 from by rw [yf155_0]; exact ⟨by omega, by omega⟩)) (kV 1 ht m_1536 m_1538 m_59 m_89 m_1539 rfl rfl hd_X12_only_v ⟨Nat.le_of_ble_eq_true rfl, Nat.le_of_ble_eq_true rfl⟩) (vW hP hK hD (rM_12 hK hP)) rfl rfl hl.1 rfl (lv_room (Nat.le_of_ble_eq_true rfl)) dX12_stateOf_111 ⟨Nat.le_of_ble_eq_true rfl, Nat.le_of_ble_eq_true rfl⟩) hS (fun q _ h => hFc q h) hFc (fun u t H1 locs ht9 hvm hr218 hB hz1 hk1 hS => ?_)
                  obtain ⟨n219, n220, xr218_0, xr218_1, rfl⟩ := hr218
                  obtain ⟨hP, hD⟩ := hB
                  rw [ht9] at hP
                  generalize H1 = H at hP hS ⊢
                  have hP : va_P (dC, dI) classes (WM h g ca (u2 (u2 iv 12 41 n16) 12 19 n151) (u2 (u2 (u2 (u2 lv 12 17 n152) 12 18 n153) 12 44 n219) 12 45 n220) (u2 (u2 fa 12 39 n14) 12 40 n15) (u2 (u2 la 12 42 f154) 12 43 f155)) H := hP
                  have hD : va_D A (WM h g ca (u2 (u2 iv 12 41 n16) 12 19 n151) (u2 (u2 (u2 (u2 lv 12 17 n152) 12 18 n153) 12 44 n219) 12 45 n220) (u2 (u2 fa 12 39 n14) 12 40 n15) (u2 (u2 la 12 42 f154) 12 43 f155)) := (show va_D _ (WM h g ca (u2 (u2 iv 12 41 n16) 12 19 n151) (u2 (u2 (u2 (u2 lv 12 17 n152) 12 18 n153) 12 44 n219) 12 45 n220) (u2 (u2 fa 12 39 n14) 12 40 n15) (u2 (u2 la 12 42 f154) 12 43 f155)) from hD).weaken (fun _ _ _ h => hFc _ h)
                  have xr218_0 : 1 ≤ (n220 : Int64).toInt := xr218_0
                  have xr218_1 : (n220 : Int64).toInt ≤ 719856007200 := xr218_1
                  refine lv_iload hx hb dX12_stateOf_114 (lv_at hl 1 rfl) ?_
                  refine lv_iconst (v := 1) hx hb dX12_stateOf_116 (by decide) ?_
                  refine lv_iand hx hb dX12_stateOf_117 ?_
                  refine lv_topi (fun v221 ev221 => ?_)
                  obtain rfl : 1 = v221 := (ev221.trans (by decide)).symm
                  have : (1 : Int32).toInt = 1 := (by decide)
                  have hP9 : va_P (dC, dI) classes (WM h g ca (u2 (u2 iv 12 19 n151) 12 41 n16) (u2 (u2 (u2 (u2 lv 12 17 n152) 12 18 n153) 12 44 n219) 12 45 n220) (u2 (u2 fa 12 39 n14) 12 40 n15) (u2 (u2 la 12 42 f154) 12 43 f155)) H := hP
                  have hD9 : va_D A (WM h g ca (u2 (u2 iv 12 19 n151) 12 41 n16) (u2 (u2 (u2 (u2 lv 12 17 n152) 12 18 n153) 12 44 n219) 12 45 n220) (u2 (u2 fa 12 39 n14) 12 40 n15) (u2 (u2 la 12 42 f154) 12 43 f155)) := hD
                  exact W.iret (v := 1) hx hb hr (fun t ht9 hW => ⟨⟨1, ((u2 (u2 iv 12 19 n151) 12 41 n16), (u2 (u2 (u2 (u2 lv 12 17 n152) 12 18 n153) 12 44 n219) 12 45 n220), (u2 (u2 fa 12 39 n14) 12 40 n15), (u2 (u2 la 12 42 f154) 12 43 f155)), rfl, ⟨n14, n15, f154, f155, n151, n16, n152, n153, n219, n220, hn14, hn15, (show inb (0, 8) n16 from ⟨by omega, by omega⟩), (show ((1 : Int32).toInt ≠ 1 ∨ (1 ≤ (n220 : Int64).toInt ∧ (n220 : Int64).toInt ≤ 719856007200)) from by omega), ⟨by decide, by decide⟩, rfl⟩, by rw [ht9]; exact hP9, hD9⟩, hS.F ht9⟩) hS.2.2 dX12_stateOf_118
              · exact absurd c191 (by decide)
/-! ===== n9 ===== -/
theorem m_1185 : Cond.fieldLink RX12 356 "SilkHouseModel" "lawfulUp" "J" ∈ tb := mb_5_6 _ (List.mem_of_getElem? (i := 2) rfl)
theorem m_1186 : Cond.fieldLink RX12 359 "SilkHouseModel" "lawfulDown" "J" ∈ tb := mb_5_6 _ (List.mem_of_getElem? (i := 3) rfl)
set_option maxRecDepth 100000 in
theorem dvX12_findLawful_0 : ([(0, .lload_n 2, 1), (1, .lload 4, 2), (3, .invokestatic 241, 3), (6, .lstore 7, 2), (8, .lload_n 2, 1), (9, .lload 7, 2), (11, .ldiv, 1), (12, .lstore 9, 2), (14, .lload 4, 2), (16, .lload 7, 2), (18, .ldiv, 1), (19, .lstore 11, 2), (21, .aload_n 0, 1), (22, .getfield 7, 3), (25, .iload_n 1, 1), (26, .iaload, 1), (27, .i2l, 1), (28, .sipush 1000, 3), (31, .aload_n 0, 1), (32, .iconst 0, 1), (33, .iload 6, 2), (35, .invokevirtual 325, 3), (38, .iadd, 1), (39, .i2l, 1)] : List (Nat × Instr × Nat)).all (fun q => decide (decode cX12_findLawful q.1 = .ok (q.2.1, q.2.2))) = true := by decide +kernel
theorem dX12_findLawful_0 : decode cX12_findLawful 0 = .ok (.lload_n 2, 1) := all_at dvX12_findLawful_0 0 rfl
theorem dX12_findLawful_1 : decode cX12_findLawful 1 = .ok (.lload 4, 2) := all_at dvX12_findLawful_0 1 rfl
theorem dX12_findLawful_3 : decode cX12_findLawful 3 = .ok (.invokestatic 241, 3) := all_at dvX12_findLawful_0 2 rfl
theorem dX12_findLawful_6 : decode cX12_findLawful 6 = .ok (.lstore 7, 2) := all_at dvX12_findLawful_0 3 rfl
theorem dX12_findLawful_8 : decode cX12_findLawful 8 = .ok (.lload_n 2, 1) := all_at dvX12_findLawful_0 4 rfl
theorem dX12_findLawful_9 : decode cX12_findLawful 9 = .ok (.lload 7, 2) := all_at dvX12_findLawful_0 5 rfl
theorem dX12_findLawful_11 : decode cX12_findLawful 11 = .ok (.ldiv, 1) := all_at dvX12_findLawful_0 6 rfl
theorem dX12_findLawful_12 : decode cX12_findLawful 12 = .ok (.lstore 9, 2) := all_at dvX12_findLawful_0 7 rfl
theorem dX12_findLawful_14 : decode cX12_findLawful 14 = .ok (.lload 4, 2) := all_at dvX12_findLawful_0 8 rfl
theorem dX12_findLawful_16 : decode cX12_findLawful 16 = .ok (.lload 7, 2) := all_at dvX12_findLawful_0 9 rfl
theorem dX12_findLawful_18 : decode cX12_findLawful 18 = .ok (.ldiv, 1) := all_at dvX12_findLawful_0 10 rfl
theorem dX12_findLawful_19 : decode cX12_findLawful 19 = .ok (.lstore 11, 2) := all_at dvX12_findLawful_0 11 rfl
theorem dX12_findLawful_21 : decode cX12_findLawful 21 = .ok (.aload_n 0, 1) := all_at dvX12_findLawful_0 12 rfl
theorem dX12_findLawful_22 : decode cX12_findLawful 22 = .ok (.getfield 7, 3) := all_at dvX12_findLawful_0 13 rfl
theorem dX12_findLawful_25 : decode cX12_findLawful 25 = .ok (.iload_n 1, 1) := all_at dvX12_findLawful_0 14 rfl
theorem dX12_findLawful_26 : decode cX12_findLawful 26 = .ok (.iaload, 1) := all_at dvX12_findLawful_0 15 rfl
theorem dX12_findLawful_27 : decode cX12_findLawful 27 = .ok (.i2l, 1) := all_at dvX12_findLawful_0 16 rfl
theorem dX12_findLawful_28 : decode cX12_findLawful 28 = .ok (.sipush 1000, 3) := all_at dvX12_findLawful_0 17 rfl
theorem dX12_findLawful_31 : decode cX12_findLawful 31 = .ok (.aload_n 0, 1) := all_at dvX12_findLawful_0 18 rfl
theorem dX12_findLawful_32 : decode cX12_findLawful 32 = .ok (.iconst 0, 1) := all_at dvX12_findLawful_0 19 rfl
theorem dX12_findLawful_33 : decode cX12_findLawful 33 = .ok (.iload 6, 2) := all_at dvX12_findLawful_0 20 rfl
theorem dX12_findLawful_35 : decode cX12_findLawful 35 = .ok (.invokevirtual 325, 3) := all_at dvX12_findLawful_0 21 rfl
theorem dX12_findLawful_38 : decode cX12_findLawful 38 = .ok (.iadd, 1) := all_at dvX12_findLawful_0 22 rfl
theorem dX12_findLawful_39 : decode cX12_findLawful 39 = .ok (.i2l, 1) := all_at dvX12_findLawful_0 23 rfl
set_option maxRecDepth 100000 in
theorem dvX12_findLawful_40 : ([(40, .lmul, 1), (41, .lstore 13, 2), (43, .lload 13, 2), (45, .lload 11, 2), (47, .invokestatic 241, 3), (50, .lstore 15, 2), (52, .lload 13, 2), (54, .lload 15, 2), (56, .ldiv, 1), (57, .lstore 13, 2), (59, .lload 11, 2), (61, .lload 15, 2), (63, .ldiv, 1), (64, .lstore 11, 2), (66, .lload 9, 2), (68, .ldc2_w 245, 3), (71, .invokestatic 241, 3), (74, .lstore 17, 2), (76, .lload 9, 2), (78, .lload 17, 2), (80, .ldiv, 1), (81, .lstore 9, 2), (83, .ldc2_w 245, 3), (86, .lload 17, 2)] : List (Nat × Instr × Nat)).all (fun q => decide (decode cX12_findLawful q.1 = .ok (q.2.1, q.2.2))) = true := by decide +kernel
theorem dX12_findLawful_40 : decode cX12_findLawful 40 = .ok (.lmul, 1) := all_at dvX12_findLawful_40 0 rfl
theorem dX12_findLawful_41 : decode cX12_findLawful 41 = .ok (.lstore 13, 2) := all_at dvX12_findLawful_40 1 rfl
theorem dX12_findLawful_43 : decode cX12_findLawful 43 = .ok (.lload 13, 2) := all_at dvX12_findLawful_40 2 rfl
theorem dX12_findLawful_45 : decode cX12_findLawful 45 = .ok (.lload 11, 2) := all_at dvX12_findLawful_40 3 rfl
theorem dX12_findLawful_47 : decode cX12_findLawful 47 = .ok (.invokestatic 241, 3) := all_at dvX12_findLawful_40 4 rfl
theorem dX12_findLawful_50 : decode cX12_findLawful 50 = .ok (.lstore 15, 2) := all_at dvX12_findLawful_40 5 rfl
theorem dX12_findLawful_52 : decode cX12_findLawful 52 = .ok (.lload 13, 2) := all_at dvX12_findLawful_40 6 rfl
theorem dX12_findLawful_54 : decode cX12_findLawful 54 = .ok (.lload 15, 2) := all_at dvX12_findLawful_40 7 rfl
theorem dX12_findLawful_56 : decode cX12_findLawful 56 = .ok (.ldiv, 1) := all_at dvX12_findLawful_40 8 rfl
theorem dX12_findLawful_57 : decode cX12_findLawful 57 = .ok (.lstore 13, 2) := all_at dvX12_findLawful_40 9 rfl
theorem dX12_findLawful_59 : decode cX12_findLawful 59 = .ok (.lload 11, 2) := all_at dvX12_findLawful_40 10 rfl
theorem dX12_findLawful_61 : decode cX12_findLawful 61 = .ok (.lload 15, 2) := all_at dvX12_findLawful_40 11 rfl
theorem dX12_findLawful_63 : decode cX12_findLawful 63 = .ok (.ldiv, 1) := all_at dvX12_findLawful_40 12 rfl
theorem dX12_findLawful_64 : decode cX12_findLawful 64 = .ok (.lstore 11, 2) := all_at dvX12_findLawful_40 13 rfl
theorem dX12_findLawful_66 : decode cX12_findLawful 66 = .ok (.lload 9, 2) := all_at dvX12_findLawful_40 14 rfl
theorem dX12_findLawful_68 : decode cX12_findLawful 68 = .ok (.ldc2_w 245, 3) := all_at dvX12_findLawful_40 15 rfl
theorem dX12_findLawful_71 : decode cX12_findLawful 71 = .ok (.invokestatic 241, 3) := all_at dvX12_findLawful_40 16 rfl
theorem dX12_findLawful_74 : decode cX12_findLawful 74 = .ok (.lstore 17, 2) := all_at dvX12_findLawful_40 17 rfl
theorem dX12_findLawful_76 : decode cX12_findLawful 76 = .ok (.lload 9, 2) := all_at dvX12_findLawful_40 18 rfl
theorem dX12_findLawful_78 : decode cX12_findLawful 78 = .ok (.lload 17, 2) := all_at dvX12_findLawful_40 19 rfl
theorem dX12_findLawful_80 : decode cX12_findLawful 80 = .ok (.ldiv, 1) := all_at dvX12_findLawful_40 20 rfl
theorem dX12_findLawful_81 : decode cX12_findLawful 81 = .ok (.lstore 9, 2) := all_at dvX12_findLawful_40 21 rfl
theorem dX12_findLawful_83 : decode cX12_findLawful 83 = .ok (.ldc2_w 245, 3) := all_at dvX12_findLawful_40 22 rfl
theorem dX12_findLawful_86 : decode cX12_findLawful 86 = .ok (.lload 17, 2) := all_at dvX12_findLawful_40 23 rfl
set_option maxRecDepth 100000 in
theorem dvX12_findLawful_88 : ([(88, .ldiv, 1), (89, .lstore 19, 2), (91, .lload 13, 2), (93, .lload 19, 2), (95, .invokestatic 241, 3), (98, .lstore 21, 2), (100, .lload 13, 2), (102, .lload 21, 2), (104, .ldiv, 1), (105, .lstore 13, 2), (107, .lload 19, 2), (109, .lload 21, 2), (111, .ldiv, 1), (112, .lstore 19, 2), (114, .aload_n 0, 1), (115, .lload 9, 2), (117, .lload 13, 2), (119, .lmul, 1), (120, .putfield 356, 3), (123, .aload_n 0, 1), (124, .lload 11, 2), (126, .lload 19, 2), (128, .lmul, 1), (129, .putfield 359, 3)] : List (Nat × Instr × Nat)).all (fun q => decide (decode cX12_findLawful q.1 = .ok (q.2.1, q.2.2))) = true := by decide +kernel
theorem dX12_findLawful_88 : decode cX12_findLawful 88 = .ok (.ldiv, 1) := all_at dvX12_findLawful_88 0 rfl
theorem dX12_findLawful_89 : decode cX12_findLawful 89 = .ok (.lstore 19, 2) := all_at dvX12_findLawful_88 1 rfl
theorem dX12_findLawful_91 : decode cX12_findLawful 91 = .ok (.lload 13, 2) := all_at dvX12_findLawful_88 2 rfl
theorem dX12_findLawful_93 : decode cX12_findLawful 93 = .ok (.lload 19, 2) := all_at dvX12_findLawful_88 3 rfl
theorem dX12_findLawful_95 : decode cX12_findLawful 95 = .ok (.invokestatic 241, 3) := all_at dvX12_findLawful_88 4 rfl
theorem dX12_findLawful_98 : decode cX12_findLawful 98 = .ok (.lstore 21, 2) := all_at dvX12_findLawful_88 5 rfl
theorem dX12_findLawful_100 : decode cX12_findLawful 100 = .ok (.lload 13, 2) := all_at dvX12_findLawful_88 6 rfl
theorem dX12_findLawful_102 : decode cX12_findLawful 102 = .ok (.lload 21, 2) := all_at dvX12_findLawful_88 7 rfl
theorem dX12_findLawful_104 : decode cX12_findLawful 104 = .ok (.ldiv, 1) := all_at dvX12_findLawful_88 8 rfl
theorem dX12_findLawful_105 : decode cX12_findLawful 105 = .ok (.lstore 13, 2) := all_at dvX12_findLawful_88 9 rfl
theorem dX12_findLawful_107 : decode cX12_findLawful 107 = .ok (.lload 19, 2) := all_at dvX12_findLawful_88 10 rfl
theorem dX12_findLawful_109 : decode cX12_findLawful 109 = .ok (.lload 21, 2) := all_at dvX12_findLawful_88 11 rfl
theorem dX12_findLawful_111 : decode cX12_findLawful 111 = .ok (.ldiv, 1) := all_at dvX12_findLawful_88 12 rfl
theorem dX12_findLawful_112 : decode cX12_findLawful 112 = .ok (.lstore 19, 2) := all_at dvX12_findLawful_88 13 rfl
theorem dX12_findLawful_114 : decode cX12_findLawful 114 = .ok (.aload_n 0, 1) := all_at dvX12_findLawful_88 14 rfl
theorem dX12_findLawful_115 : decode cX12_findLawful 115 = .ok (.lload 9, 2) := all_at dvX12_findLawful_88 15 rfl
theorem dX12_findLawful_117 : decode cX12_findLawful 117 = .ok (.lload 13, 2) := all_at dvX12_findLawful_88 16 rfl
theorem dX12_findLawful_119 : decode cX12_findLawful 119 = .ok (.lmul, 1) := all_at dvX12_findLawful_88 17 rfl
theorem dX12_findLawful_120 : decode cX12_findLawful 120 = .ok (.putfield 356, 3) := all_at dvX12_findLawful_88 18 rfl
theorem dX12_findLawful_123 : decode cX12_findLawful 123 = .ok (.aload_n 0, 1) := all_at dvX12_findLawful_88 19 rfl
theorem dX12_findLawful_124 : decode cX12_findLawful 124 = .ok (.lload 11, 2) := all_at dvX12_findLawful_88 20 rfl
theorem dX12_findLawful_126 : decode cX12_findLawful 126 = .ok (.lload 19, 2) := all_at dvX12_findLawful_88 21 rfl
theorem dX12_findLawful_128 : decode cX12_findLawful 128 = .ok (.lmul, 1) := all_at dvX12_findLawful_88 22 rfl
theorem dX12_findLawful_129 : decode cX12_findLawful 129 = .ok (.putfield 359, 3) := all_at dvX12_findLawful_88 23 rfl
theorem dX12_findLawful_132 : decode cX12_findLawful 132 = .ok (.return_, 1) := by decide +kernel
/-- what a common divisor is good for -/
def gok (r b : Int) : Prop := r ≠ 0 ∧ r.natAbs ≤ b.natAbs
theorem l_dq {a b c : Int64} {B : Int} (h : c = a / b) (hg : gok b.toInt a.toInt) (ha : a.toInt ≠ 0) (h1 : -B ≤ a.toInt) (h2 : a.toInt ≤ B) : c.toInt ≠ 0 ∧ -B ≤ c.toInt ∧ c.toInt ≤ B := by
  have q := l_div h rfl rfl hg.1
  have q1 := q.1
  have q2 := q.2 ha hg.2
  exact ⟨q2, by omega, by omega⟩
theorem l_mulq {a b c : Int64} (h : c = a * b) (h1 : a.toInt ≠ 0) (h2 : b.toInt ≠ 0) (h3 : -1000000000000 ≤ a.toInt ∧ a.toInt ≤ 1000000000000) (h4 : -1000 ≤ b.toInt ∧ b.toInt ≤ 1000) : c.toInt ≠ 0 := l_mulnz h h1 h2 (by omega) (by omega)
set_option maxHeartbeats 4000000 in
set_option maxRecDepth 100000 in
/-- X12_gcd -/
theorem c_X12_gcd_q (l : Launch) (dC : Nat → ClassId) (dI : Nat → Nat → Nat) (a : Int64) (b : Int64) (p_0 : b.toInt ≠ 0) : Met l yX12_gcd (wc yX12_gcd cX12_gcd 10 (some .long)) ({ frames := 1, cells := 0, slots := 0, locals := 21 } : Room) (pR (dC, dI) classes [] [] [.long a, .long b]) (vp_Sl (fun r => (True) ∧ (r.toInt ≠ 0) ∧ (gok r.toInt b.toInt))) 0 0 (fun _ => False) := by
  refine Met.ofW (cc := cX12_gcd) (maxL := 10) (ret := (some .long)) (by decide) rfl ?_
  intro p e s m args below meth c s₁ B hml hv
  obtain ⟨rfl, hP, hK⟩ := hv
  have hx := B.exec
  have hb := B.bytes
  have hr := B.returns
  have ht := tb_tl (atoms_spec (ws := wc yX12_gcd cX12_gcd 10 (some .long)) B.pre)
  have hown : s.vm.findClass RX12 = some m.cls := findClass_of_methodNamed B.named
  have hlocks := B.notSynchronized
  have hl := lv_entry [.long a, .long b] (n := 10) (Nat.le_of_ble_eq_true rfl)
  rw [lg_entry_eq]
  generalize (lg_sl [.long a, .long b] ++ List.replicate (10 - (lg_sl [.long a, .long b]).length) Slot.unset).toArray = ls at hl ⊢
  have hl : lv_has ls 10 [(0, .long a), (2, .long b)] := hl
  refine lv_lload_n hx hb dX12_gcd_0 rfl (lv_at hl 0 rfl) ?_
  refine vp_callSl (W.runS (As := [.long a]) (rest := []) ⟨hx, hb, hml, hown, ht⟩ (c_X12_plain_x l dC dI a) (kS 1 ht m_1445 m_1446 m_89 m_1447 rfl rfl hd_X12_plain_v ⟨Nat.le_of_ble_eq_true rfl, Nat.le_of_ble_eq_true rfl⟩) (sR noP (hK.sub (tys' := []) [] rfl)) rfl rfl hl.1 rfl (lv_room (Nat.le_of_ble_eq_true rfl)) dX12_gcd_1 ⟨Nat.le_of_ble_eq_true rfl, Nat.le_of_ble_eq_true rfl⟩) (fun r1 hr1 => ?_)
  obtain ⟨hr1, xr1_0⟩ := hr1
  have xr1_0 : ((r1 : Int64).toInt).natAbs = ((a : Int64).toInt).natAbs := xr1_0
  refine lv_lstore (lv' := [(4, .long r1), (0, .long a), (2, .long b)]) hx hb dX12_gcd_4 hl (by decide) rfl (fun ls hl => ?_)
  refine lv_lload_n hx hb dX12_gcd_6 rfl (lv_at hl 2 rfl) ?_
  refine vp_callSl (W.runS (As := [.long b]) (rest := []) ⟨hx, hb, hml, hown, ht⟩ (c_X12_plain_x l dC dI b) (kS 1 ht m_1445 m_1446 m_89 m_1447 rfl rfl hd_X12_plain_v ⟨Nat.le_of_ble_eq_true rfl, Nat.le_of_ble_eq_true rfl⟩) (sR noP (hK.sub (tys' := []) [] rfl)) rfl rfl hl.1 rfl (lv_room (Nat.le_of_ble_eq_true rfl)) dX12_gcd_7 ⟨Nat.le_of_ble_eq_true rfl, Nat.le_of_ble_eq_true rfl⟩) (fun r2 hr2 => ?_)
  obtain ⟨hr2, xr2_0⟩ := hr2
  have xr2_0 : ((r2 : Int64).toInt).natAbs = ((b : Int64).toInt).natAbs := xr2_0
  refine lv_lstore (lv' := [(6, .long r2), (4, .long r1), (0, .long a), (2, .long b)]) hx hb dX12_gcd_10 hl (by decide) rfl (fun ls hl => ?_)
  have lp8 : ∀ (nn8 : Nat) (x7_6 : Int64) (x7_4 : Int64), ((x7_6 : Int64).toInt).natAbs ≤ ((b).toInt).natAbs → ((x7_6 : Int64).toInt ≠ 0 ∨ ((x7_4 : Int64).toInt ≠ 0 ∧ ((x7_4 : Int64).toInt).natAbs ≤ ((b).toInt).natAbs)) → (((x7_6 : Int64).toInt).natAbs : Int) < (nn8 : Int) → ∀ (ls : Array Slot), lv_has ls 10 [(6, .long x7_6), (4, .long x7_4), (0, .long a), (2, .long b)] → W p l e ({ frames := 1, cells := 0, slots := 0, locals := 21 } : Room) s m ([.long a, .long b] : List Value).toArray below meth c s.heap [] 0 0 (MQ below (vp_Sl (fun r => (True) ∧ (r.toInt ≠ 0) ∧ (gok r.toInt b.toInt))) ([.long a, .long b] : List Value).toArray s 0 0 (fun _ => False)) (F0 m 12 ls []) := by
    intro nn8
    induction nn8 with
    | zero => intro x7_6 x7_4 hq8_0 hq8_1 hm8; exfalso; omega
    | succ nn8 ih8 =>
      intro x7_6 x7_4 hq8_0 hq8_1 hm8 ls hl
      refine lv_lload hx hb dX12_gcd_12 (lv_at hl 0 rfl) ?_
      refine lv_lconst (v := 0) hx hb dX12_gcd_14 (by decide) ?_
      refine W.lcmp hx hb dX12_gcd_15 ?_
      refine lv_topi (fun v9 ev9 => ?_)
      refine lv_if_eq (tgt := 37) hx hb dX12_gcd_16 (by decide) (fun c10 => ?_) (fun c10 => ?_)
      · have fc10 := zc_eq ev9 (rfl : (x7_6).toInt = _) (by decide : (0 : Int64).toInt = 0) c10
        refine lv_lload hx hb dX12_gcd_37 (lv_at hl 1 rfl) ?_
        exact W.lret (v := x7_4) hx hb hr (fun t ht9 hW => ⟨x7_4, rfl, ⟨trivial, (show (x7_4 : Int64).toInt ≠ 0 from by omega), (show gok (x7_4 : Int64).toInt (b).toInt from ⟨by omega, by omega⟩)⟩, ht9⟩) (fun q hq => by cases hq) dX12_gcd_39
      · have fc10 := zc_ne ev9 (rfl : (x7_6).toInt = _) (by decide : (0 : Int64).toInt = 0) c10
        refine lv_lload hx hb dX12_gcd_19 (lv_at hl 1 rfl) ?_
        refine lv_lload hx hb dX12_gcd_21 (lv_at hl 0 rfl) ?_
        have zw11 : (x7_6 : Int64).toInt ≠ 0 := by omega
        refine lv_lrem hx hb dX12_gcd_23 (l_nz rfl zw11) ?_
        refine lv_topl (fun w11 ew11 => ?_)
        have tw11 := l_rem ew11 (rfl : (x7_4 : Int64).toInt = _) (rfl : (x7_6 : Int64).toInt = _) zw11
        refine lv_lstore (lv' := [(8, .long w11), (6, .long x7_6), (4, .long x7_4), (0, .long a), (2, .long b)]) hx hb dX12_gcd_24 hl (by decide) rfl (fun ls hl => ?_)
        refine lv_lload hx hb dX12_gcd_26 (lv_at hl 1 rfl) ?_
        refine lv_lstore (lv' := [(4, .long x7_6), (8, .long w11), (6, .long x7_6), (0, .long a), (2, .long b)]) hx hb dX12_gcd_28 hl (by decide) rfl (fun ls hl => ?_)
        refine lv_lload hx hb dX12_gcd_30 (lv_at hl 1 rfl) ?_
        refine lv_lstore (lv' := [(6, .long w11), (4, .long x7_6), (8, .long w11), (0, .long a), (2, .long b)]) hx hb dX12_gcd_32 hl (by decide) rfl (fun ls hl => ?_)
        refine lv_goto (tgt := 12) hx hb dX12_gcd_34 (by decide) ?_
        exact ih8 w11 x7_6 (show ((w11 : Int64).toInt).natAbs ≤ ((b).toInt).natAbs from by omega) (show ((w11 : Int64).toInt ≠ 0 ∨ ((x7_6 : Int64).toInt ≠ 0 ∧ ((x7_6 : Int64).toInt).natAbs ≤ ((b).toInt).natAbs)) from by omega) (by omega) ls (lv_sub hl [0, 1, 3, 4] rfl)
  exact lp8 ((r2 : Int64).toInt.natAbs + 1) r2 r1 (show ((r2 : Int64).toInt).natAbs ≤ ((b).toInt).natAbs from by omega) (show ((r2 : Int64).toInt ≠ 0 ∨ ((r1 : Int64).toInt ≠ 0 ∧ ((r1 : Int64).toInt).natAbs ≤ ((b).toInt).natAbs)) from by omega) (show (((r2 : Int64).toInt).natAbs : Int) < _ from by omega) ls (lv_sub hl [0, 1, 2, 3] rfl)
set_option maxHeartbeats 4000000 in
set_option maxRecDepth 100000 in
/-- X12_findLawful -/
theorem c_X12_findLawful (l : Launch) (dC : Nat → ClassId) (dI : Nat → Nat → Nat) (sz : Nat) (h : Nat) (g : Nat → Nat → Nat) (ca : Nat → Nat → ClassId) (iv : Nat → Nat → Int32) (lv : Nat → Nat → Int64) (fa : Nat → Nat → Nat → Int32) (la : Nat → Nat → Nat → Int64) (hI : IX iv fa) (a : Int32) (b : Int64) (d : Int64) (k : Int32) (h_a : 0 ≤ a.toInt ∧ a.toInt ≤ 9) (p_0 : d.toInt ≠ 0) (p_1 : -1000000000000 ≤ d.toInt) (p_2 : d.toInt ≤ 1000000000000) (hJC : JCf (iv 12 23).toInt (fa 12 25) (fa 12 26) (fa 12 27) (fa 12 28)) : Met l yX12_findLawful (wc yX12_findLawful cX12_findLawful 23 none) ({ frames := 2, cells := 0, slots := 0, locals := 50 } : Room) (pW (dC, dI) classes (WM h g ca iv lv fa la) (TM ca) sz [.ref h, .int a, .long b, .long d, .int k]) (va_Qv (fun (u : SS) => ∃ (na_12_39 : Nat → Int32) (na_12_40 : Nat → Int32) (ni_12_41 : Int32) (nl_12_46 : Int64) (nl_12_47 : Int64), (∀ j, inb (bA 12 39 j) (na_12_39 j)) ∧ (∀ j, inb (bA 12 40 j) (na_12_40 j)) ∧ inb (bI 12 41) ni_12_41 ∧ ((nl_12_47).toInt ≠ 0) ∧ u = ((u2 iv 12 41 ni_12_41), (u2 (u2 lv 12 46 nl_12_46) 12 47 nl_12_47), (u2 (u2 fa 12 39 na_12_39) 12 40 na_12_40), la)) (bM (dC, dI) h g ca (va_A (WM h g ca iv lv fa la) sz)) (va_A (WM h g ca iv lv fa la) sz)) 0 0 (va_A (WM h g ca iv lv fa la) sz) := by
  refine Met.ofW (cc := cX12_findLawful) (maxL := 23) (ret := none) (by decide) rfl ?_
  intro p e s m args below meth c s₁ B hml hv
  obtain ⟨rfl, hsz, hP, hK, hD0⟩ := hv
  have hx := B.exec
  have hb := B.bytes
  have hr := B.returns
  have ht := tb_tl (atoms_spec (ws := wc yX12_findLawful cX12_findLawful 23 none) B.pre)
  have hown : s.vm.findClass RX12 = some m.cls := findClass_of_methodNamed B.named
  have hlocks := B.notSynchronized
  subst hsz
  have hD := hD0.self (sz := s.heap.size)
  generalize hAe : va_A (WM h g ca iv lv fa la) s.heap.size = A at hD ⊢
  have hA : ∀ q : Nat, s.heap.size ≤ q → A q := fun q h => by rw [← hAe]; exact Or.inr h
  have hS : va_S A s.heap s.heap [] := va_S.rf
  have hl := lv_entry [.ref h, .int a, .long b, .long d, .int k] (n := 23) (Nat.le_of_ble_eq_true rfl)
  rw [lg_entry_eq]
  generalize (lg_sl [.ref h, .int a, .long b, .long d, .int k] ++ List.replicate (23 - (lg_sl [.ref h, .int a, .long b, .long d, .int k]).length) Slot.unset).toArray = ls at hl ⊢
  have hl : lv_has ls 23 [(0, .ref h), (1, .int a), (2, .long b), (4, .long d), (6, .int k)] := hl
  refine lv_lload_n hx hb dX12_findLawful_0 rfl (lv_at hl 2 rfl) ?_
  refine lv_lload hx hb dX12_findLawful_1 (lv_at hl 3 rfl) ?_
  refine vp_callSl (W.runS (As := [.long b, .long d]) (rest := []) ⟨hx, hb, hml, hown, ht⟩ (c_X12_gcd_q l dC dI b d (show (d : Int64).toInt ≠ 0 from by omega)) (kS 2 ht m_1442 m_1443 m_89 m_1444 rfl rfl hd_X12_gcd_v ⟨Nat.le_of_ble_eq_true rfl, Nat.le_of_ble_eq_true rfl⟩) (sR noP (hK.sub (tys' := []) [] rfl)) rfl rfl hl.1 rfl (lv_room (Nat.le_of_ble_eq_true rfl)) dX12_findLawful_3 ⟨Nat.le_of_ble_eq_true rfl, Nat.le_of_ble_eq_true rfl⟩) (fun r1 hr1 => ?_)
  obtain ⟨hr1, xr1_0, xr1_1⟩ := hr1
  have xr1_0 : (r1 : Int64).toInt ≠ 0 := xr1_0
  have xr1_1 : gok (r1 : Int64).toInt (d : Int64).toInt := xr1_1
  refine lv_lstore (lv' := [(7, .long r1), (0, .ref h), (1, .int a), (2, .long b), (4, .long d), (6, .int k)]) hx hb dX12_findLawful_6 hl (by decide) rfl (fun ls hl => ?_)
  refine lv_lload_n hx hb dX12_findLawful_8 rfl (lv_at hl 3 rfl) ?_
  refine lv_lload hx hb dX12_findLawful_9 (lv_at hl 0 rfl) ?_
  have zw2 : (r1 : Int64).toInt ≠ 0 := by omega
  refine lv_ldiv hx hb dX12_findLawful_11 (l_nz rfl zw2) ?_
  refine lv_topl (fun w2 ew2 => ?_)
  refine lv_lstore (lv' := [(9, .long w2), (7, .long r1), (0, .ref h), (1, .int a), (2, .long b), (4, .long d), (6, .int k)]) hx hb dX12_findLawful_12 hl (by decide) rfl (fun ls hl => ?_)
  refine lv_lload hx hb dX12_findLawful_14 (lv_at hl 5 rfl) ?_
  refine lv_lload hx hb dX12_findLawful_16 (lv_at hl 1 rfl) ?_
  have zw3 : (r1 : Int64).toInt ≠ 0 := by omega
  refine lv_ldiv hx hb dX12_findLawful_18 (l_nz rfl zw3) ?_
  refine lv_topl (fun w3 ew3 => ?_)
  have qw3 := l_dq (a := d) (B := 1000000000000) ew3 xr1_1 (by omega) (by omega) (by omega)
  obtain ⟨qw31, qw32, qw33⟩ := qw3
  refine lv_lstore (lv' := [(11, .long w3), (9, .long w2), (7, .long r1), (0, .ref h), (1, .int a), (2, .long b), (4, .long d), (6, .int k)]) hx hb dX12_findLawful_19 hl (by decide) rfl (fun ls hl => ?_)
  refine lv_aload_n hx hb dX12_findLawful_21 rfl (lv_at hl 3 rfl) ?_
  refine gM_12_2 hx hb ht hown hK hP m_1141 dX12_findLawful_22 ?_
  refine lv_iload_n hx hb dX12_findLawful_25 rfl (lv_at hl 4 rfl) ?_
  refine lM_12_2 hx hb hK hP (f := (fa 12 2)) rfl (vp_in_iff.mpr ⟨by omega, by omega⟩) dX12_findLawful_26 ?_
  refine lv_topi (fun v4 ev4 => ?_)
  refine lv_i2l (v := (v4.toInt64)) hx hb dX12_findLawful_27 rfl ?_
  refine lv_sipush (v := 1000) hx hb dX12_findLawful_28 (by decide) ?_
  refine lv_aload_n hx hb dX12_findLawful_31 rfl (lv_at hl 3 rfl) ?_
  refine lv_iconst (v := 0) hx hb dX12_findLawful_32 (by decide) ?_
  refine lv_iload hx hb dX12_findLawful_33 (lv_at hl 7 rfl) ?_
  have hFc := free_all hD hS hA
  refine va_calli (va_runV (As := [.int 0, .int k]) (rest := [.int 1000, .long (v4.toInt64)]) ⟨hx, hb, hml, hown, ht⟩ (c_X12_forceOf l dC dI s.heap.size h g ca iv lv fa la hI 0 k ⟨by decide, by decide⟩ hJC) (kV 2 ht m_1509 m_1511 m_55 m_89 m_1512 rfl rfl hd_X12_forceOf_v ⟨Nat.le_of_ble_eq_true rfl, Nat.le_of_ble_eq_true rfl⟩) (vW hP hK hD (rM_12 hK hP)) rfl rfl hl.1 rfl (lv_room (Nat.le_of_ble_eq_true rfl)) dX12_findLawful_35 ⟨Nat.le_of_ble_eq_true rfl, Nat.le_of_ble_eq_true rfl⟩) hS (fun q _ h => hFc q h) hFc (fun r5 u t H1 locs ht9 hvm hr5 hB hz1 hk1 hS => ?_)
  obtain ⟨n6, n7, n8, hn6, hn7, hn8, hr5, rfl⟩ := hr5
  have hn8 : 0 ≤ n8.toInt ∧ n8.toInt ≤ 8 := hn8
  obtain ⟨hP, hD⟩ := hB
  rw [ht9] at hP
  generalize H1 = H at hP hS ⊢
  have hP : va_P (dC, dI) classes (WM h g ca (u2 iv 12 41 n8) lv (u2 (u2 fa 12 39 n6) 12 40 n7) la) H := hP
  have hD : va_D A (WM h g ca (u2 iv 12 41 n8) lv (u2 (u2 fa 12 39 n6) 12 40 n7) la) := (show va_D _ (WM h g ca (u2 iv 12 41 n8) lv (u2 (u2 fa 12 39 n6) 12 40 n7) la) from hD).weaken (fun _ _ _ h => hFc _ h)
  refine lv_iadd hx hb dX12_findLawful_38 ?_
  refine lv_topi (fun v9 ev9 => ?_)
  refine lv_i2l (v := (v9.toInt64)) hx hb dX12_findLawful_39 rfl ?_
  refine lv_lmul hx hb dX12_findLawful_40 ?_
  refine lv_topl (fun w10 ew10 => ?_)
  refine lv_lstore (lv' := [(13, .long w10), (11, .long w3), (9, .long w2), (7, .long r1), (0, .ref h), (1, .int a), (2, .long b), (4, .long d), (6, .int k)]) hx hb dX12_findLawful_41 hl (by decide) rfl (fun ls hl => ?_)
  refine lv_lload hx hb dX12_findLawful_43 (lv_at hl 0 rfl) ?_
  refine lv_lload hx hb dX12_findLawful_45 (lv_at hl 1 rfl) ?_
  refine vp_callSl (W.runS (As := [.long w10, .long w3]) (rest := []) ⟨hx, hb, hml, hown, ht⟩ (c_X12_gcd_q l dC dI w10 w3 (show (w3 : Int64).toInt ≠ 0 from by omega)) (kS 2 ht m_1442 m_1443 m_89 m_1444 rfl rfl hd_X12_gcd_v ⟨Nat.le_of_ble_eq_true rfl, Nat.le_of_ble_eq_true rfl⟩) (sR noP (hK.sub (tys' := []) [] rfl)) rfl rfl hl.1 rfl (lv_room (Nat.le_of_ble_eq_true rfl)) dX12_findLawful_47 ⟨Nat.le_of_ble_eq_true rfl, Nat.le_of_ble_eq_true rfl⟩) (fun r11 hr11 => ?_)
  obtain ⟨hr11, xr11_0, xr11_1⟩ := hr11
  have xr11_0 : (r11 : Int64).toInt ≠ 0 := xr11_0
  have xr11_1 : gok (r11 : Int64).toInt (w3 : Int64).toInt := xr11_1
  refine lv_lstore (lv' := [(15, .long r11), (13, .long w10), (11, .long w3), (9, .long w2), (7, .long r1), (0, .ref h), (1, .int a), (2, .long b), (4, .long d), (6, .int k)]) hx hb dX12_findLawful_50 hl (by decide) rfl (fun ls hl => ?_)
  refine lv_lload hx hb dX12_findLawful_52 (lv_at hl 1 rfl) ?_
  refine lv_lload hx hb dX12_findLawful_54 (lv_at hl 0 rfl) ?_
  have zw12 : (r11 : Int64).toInt ≠ 0 := by omega
  refine lv_ldiv hx hb dX12_findLawful_56 (l_nz rfl zw12) ?_
  refine lv_topl (fun w12 ew12 => ?_)
  refine lv_lstore (lv' := [(13, .long w12), (15, .long r11), (11, .long w3), (9, .long w2), (7, .long r1), (0, .ref h), (1, .int a), (2, .long b), (4, .long d), (6, .int k)]) hx hb dX12_findLawful_57 hl (by decide) rfl (fun ls hl => ?_)
  refine lv_lload hx hb dX12_findLawful_59 (lv_at hl 2 rfl) ?_
  refine lv_lload hx hb dX12_findLawful_61 (lv_at hl 1 rfl) ?_
  have zw13 : (r11 : Int64).toInt ≠ 0 := by omega
  refine lv_ldiv hx hb dX12_findLawful_63 (l_nz rfl zw13) ?_
  refine lv_topl (fun w13 ew13 => ?_)
  have qw13 := l_dq (a := w3) (B := 1000000000000) ew13 xr11_1 (by omega) (by omega) (by omega)
  obtain ⟨qw131, qw132, qw133⟩ := qw13
  refine lv_lstore (lv' := [(11, .long w13), (13, .long w12), (15, .long r11), (9, .long w2), (7, .long r1), (0, .ref h), (1, .int a), (2, .long b), (4, .long d), (6, .int k)]) hx hb dX12_findLawful_64 hl (by decide) rfl (fun ls hl => ?_)
  refine lv_lload hx hb dX12_findLawful_66 (lv_at hl 3 rfl) ?_
  refine lv_ldc2 hx hb hown (ht _ m_1543) dX12_findLawful_68 ?_
  have : (1000 : Int64).toInt = 1000 := (by decide)
  refine vp_callSl (W.runS (As := [.long w2, .long 1000]) (rest := []) ⟨hx, hb, hml, hown, ht⟩ (c_X12_gcd_q l dC dI w2 1000 (show (1000 : Int64).toInt ≠ 0 from by omega)) (kS 2 ht m_1442 m_1443 m_89 m_1444 rfl rfl hd_X12_gcd_v ⟨Nat.le_of_ble_eq_true rfl, Nat.le_of_ble_eq_true rfl⟩) (sR noP (hK.sub (tys' := []) [] rfl)) rfl rfl hl.1 rfl (lv_room (Nat.le_of_ble_eq_true rfl)) dX12_findLawful_71 ⟨Nat.le_of_ble_eq_true rfl, Nat.le_of_ble_eq_true rfl⟩) (fun r14 hr14 => ?_)
  obtain ⟨hr14, xr14_0, xr14_1⟩ := hr14
  have xr14_0 : (r14 : Int64).toInt ≠ 0 := xr14_0
  have xr14_1 : gok (r14 : Int64).toInt (1000 : Int64).toInt := xr14_1
  refine lv_lstore (lv' := [(17, .long r14), (11, .long w13), (13, .long w12), (15, .long r11), (9, .long w2), (7, .long r1), (0, .ref h), (1, .int a), (2, .long b), (4, .long d), (6, .int k)]) hx hb dX12_findLawful_74 hl (by decide) rfl (fun ls hl => ?_)
  refine lv_lload hx hb dX12_findLawful_76 (lv_at hl 4 rfl) ?_
  refine lv_lload hx hb dX12_findLawful_78 (lv_at hl 0 rfl) ?_
  have zw15 : (r14 : Int64).toInt ≠ 0 := by omega
  refine lv_ldiv hx hb dX12_findLawful_80 (l_nz rfl zw15) ?_
  refine lv_topl (fun w15 ew15 => ?_)
  refine lv_lstore (lv' := [(9, .long w15), (17, .long r14), (11, .long w13), (13, .long w12), (15, .long r11), (7, .long r1), (0, .ref h), (1, .int a), (2, .long b), (4, .long d), (6, .int k)]) hx hb dX12_findLawful_81 hl (by decide) rfl (fun ls hl => ?_)
  refine lv_ldc2 hx hb hown (ht _ m_1543) dX12_findLawful_83 ?_
  refine lv_lload hx hb dX12_findLawful_86 (lv_at hl 1 rfl) ?_
  have zw16 : (r14 : Int64).toInt ≠ 0 := by omega
  refine lv_ldiv hx hb dX12_findLawful_88 (l_nz rfl zw16) ?_
  refine lv_topl (fun w16 ew16 => ?_)
  have qw16 := l_dq (a := 1000) (B := 1000) ew16 xr14_1 (by decide) (by decide) (by decide)
  obtain ⟨qw161, qw162, qw163⟩ := qw16
  refine lv_lstore (lv' := [(19, .long w16), (9, .long w15), (17, .long r14), (11, .long w13), (13, .long w12), (15, .long r11), (7, .long r1), (0, .ref h), (1, .int a), (2, .long b), (4, .long d), (6, .int k)]) hx hb dX12_findLawful_89 hl (by decide) rfl (fun ls hl => ?_)
  refine lv_lload hx hb dX12_findLawful_91 (lv_at hl 4 rfl) ?_
  refine lv_lload hx hb dX12_findLawful_93 (lv_at hl 0 rfl) ?_
  refine vp_callSl (W.runS (As := [.long w12, .long w16]) (rest := []) ⟨hx, hb, hml, hown, ht⟩ (c_X12_gcd_q l dC dI w12 w16 (show (w16 : Int64).toInt ≠ 0 from by omega)) (kS 2 ht m_1442 m_1443 m_89 m_1444 rfl rfl hd_X12_gcd_v ⟨Nat.le_of_ble_eq_true rfl, Nat.le_of_ble_eq_true rfl⟩) (sR noP (hK.sub (tys' := []) [] rfl)) rfl rfl hl.1 rfl (lv_room (Nat.le_of_ble_eq_true rfl)) dX12_findLawful_95 ⟨Nat.le_of_ble_eq_true rfl, Nat.le_of_ble_eq_true rfl⟩) (fun r17 hr17 => ?_)
  obtain ⟨hr17, xr17_0, xr17_1⟩ := hr17
  have xr17_0 : (r17 : Int64).toInt ≠ 0 := xr17_0
  have xr17_1 : gok (r17 : Int64).toInt (w16 : Int64).toInt := xr17_1
  refine lv_lstore (lv' := [(21, .long r17), (19, .long w16), (9, .long w15), (17, .long r14), (11, .long w13), (13, .long w12), (15, .long r11), (7, .long r1), (0, .ref h), (1, .int a), (2, .long b), (4, .long d), (6, .int k)]) hx hb dX12_findLawful_98 hl (by decide) rfl (fun ls hl => ?_)
  refine lv_lload hx hb dX12_findLawful_100 (lv_at hl 5 rfl) ?_
  refine lv_lload hx hb dX12_findLawful_102 (lv_at hl 0 rfl) ?_
  have zw18 : (r17 : Int64).toInt ≠ 0 := by omega
  refine lv_ldiv hx hb dX12_findLawful_104 (l_nz rfl zw18) ?_
  refine lv_topl (fun w18 ew18 => ?_)
  refine lv_lstore (lv' := [(13, .long w18), (21, .long r17), (19, .long w16), (9, .long w15), (17, .long r14), (11, .long w13), (15, .long r11), (7, .long r1), (0, .ref h), (1, .int a), (2, .long b), (4, .long d), (6, .int k)]) hx hb dX12_findLawful_105 hl (by decide) rfl (fun ls hl => ?_)
  refine lv_lload hx hb dX12_findLawful_107 (lv_at hl 2 rfl) ?_
  refine lv_lload hx hb dX12_findLawful_109 (lv_at hl 1 rfl) ?_
  have zw19 : (r17 : Int64).toInt ≠ 0 := by omega
  refine lv_ldiv hx hb dX12_findLawful_111 (l_nz rfl zw19) ?_
  refine lv_topl (fun w19 ew19 => ?_)
  have qw19 := l_dq (a := w16) (B := 1000) ew19 xr17_1 (by omega) (by omega) (by omega)
  obtain ⟨qw191, qw192, qw193⟩ := qw19
  refine lv_lstore (lv' := [(19, .long w19), (13, .long w18), (21, .long r17), (9, .long w15), (17, .long r14), (11, .long w13), (15, .long r11), (7, .long r1), (0, .ref h), (1, .int a), (2, .long b), (4, .long d), (6, .int k)]) hx hb dX12_findLawful_112 hl (by decide) rfl (fun ls hl => ?_)
  refine lv_aload_n hx hb dX12_findLawful_114 rfl (lv_at hl 8 rfl) ?_
  refine lv_lload hx hb dX12_findLawful_115 (lv_at hl 3 rfl) ?_
  refine lv_lload hx hb dX12_findLawful_117 (lv_at hl 1 rfl) ?_
  refine lv_lmul hx hb dX12_findLawful_119 ?_
  refine lv_topl (fun w20 ew20 => ?_)
  refine pM_12_46 (v := w20) hx hb ht hown hK hP hD hS m_1185 dX12_findLawful_120 (fun H locs hP hD hS => ?_)
  refine lv_aload_n hx hb dX12_findLawful_123 rfl (lv_at hl 8 rfl) ?_
  refine lv_lload hx hb dX12_findLawful_124 (lv_at hl 5 rfl) ?_
  refine lv_lload hx hb dX12_findLawful_126 (lv_at hl 0 rfl) ?_
  refine lv_lmul hx hb dX12_findLawful_128 ?_
  refine lv_topl (fun w21 ew21 => ?_)
  have : (w21 : Int64).toInt ≠ 0 := l_mulq ew21 (by omega) (by omega) ⟨by omega, by omega⟩ ⟨by omega, by omega⟩
  refine pM_12_47 (v := w21) hx hb ht hown hK hP hD hS m_1186 dX12_findLawful_129 (fun H locs hP hD hS => ?_)
  have hP9 : va_P (dC, dI) classes (WM h g ca (u2 iv 12 41 n8) (u2 (u2 lv 12 46 w20) 12 47 w21) (u2 (u2 fa 12 39 n6) 12 40 n7) la) H := hP
  have hD9 : va_D A (WM h g ca (u2 iv 12 41 n8) (u2 (u2 lv 12 46 w20) 12 47 w21) (u2 (u2 fa 12 39 n6) 12 40 n7) la) := hD
  exact W.vret hx hb hr (fun t ht9 hW => ⟨⟨((u2 iv 12 41 n8), (u2 (u2 lv 12 46 w20) 12 47 w21), (u2 (u2 fa 12 39 n6) 12 40 n7), la), rfl, ⟨n6, n7, n8, w20, w21, hn6, hn7, (show inb (0, 8) n8 from ⟨by omega, by omega⟩), (show (w21 : Int64).toInt ≠ 0 from by omega), rfl⟩, by rw [ht9]; exact hP9, hD9⟩, hS.F ht9⟩) hS.2.2 dX12_findLawful_132
