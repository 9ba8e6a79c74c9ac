/-! ===== n11 ===== -/
set_option maxRecDepth 100000 in
theorem m_64 : Cond.selects RX12 yX12_haveBoth yX12_haveBoth ∈ tb := tb_in 64 (by decide +kernel) rfl
set_option maxRecDepth 100000 in
theorem m_65 : Cond.selects RX12 yX12_doLooksPart yX12_doLooksPart ∈ tb := tb_in 65 (by decide +kernel) rfl
set_option maxRecDepth 100000 in
theorem m_66 : Cond.selects RX12 yX12_tryCause yX12_tryCause ∈ tb := tb_in 66 (by decide +kernel) rfl
set_option maxRecDepth 100000 in
theorem m_67 : Cond.selects RX12 yX12_leaveOut yX12_leaveOut ∈ tb := tb_in 67 (by decide +kernel) rfl
theorem m_1187 : Cond.fieldLink RX12 382 "SilkHouseModel" "causes" "I" ∈ tb := mb_5_6 _ (List.mem_of_getElem? (i := 4) rfl)
theorem m_1188 : Cond.fieldLink RX12 103 "SilkHouseModel" "causeOf" "[I" ∈ tb := mb_5_6 _ (List.mem_of_getElem? (i := 5) rfl)
theorem m_1578 : Cond.methodLink RX12 385 yX12_haveBoth ∈ tb := mb_7_2 _ (List.mem_of_getElem? (i := 7) rfl)
theorem m_1580 : Cond.instanceMethod yX12_haveBoth ∈ tb := mb_7_2 _ (List.mem_of_getElem? (i := 8) rfl)
theorem m_1581 : Cond.code yX12_haveBoth cX12_haveBoth 2 (some .boolean) ∈ tb := mb_7_2 _ (List.mem_of_getElem? (i := 9) rfl)
theorem m_1582 : Cond.methodLink RX12 379 yX12_doLooksPart ∈ tb := mb_7_2 _ (List.mem_of_getElem? (i := 10) rfl)
theorem m_1584 : Cond.instanceMethod yX12_doLooksPart ∈ tb := mb_7_2 _ (List.mem_of_getElem? (i := 11) rfl)
theorem m_1585 : Cond.code yX12_doLooksPart cX12_doLooksPart 9 (some .boolean) ∈ tb := mb_7_2 _ (List.mem_of_getElem? (i := 12) rfl)
theorem m_1586 : Cond.methodLink RX12 388 yX12_tryCause ∈ tb := mb_7_2 _ (List.mem_of_getElem? (i := 13) rfl)
theorem m_1588 : Cond.instanceMethod yX12_tryCause ∈ tb := mb_7_2 _ (List.mem_of_getElem? (i := 14) rfl)
theorem m_1589 : Cond.code yX12_tryCause cX12_tryCause 12 none ∈ tb := mb_7_2 _ (List.mem_of_getElem? (i := 15) rfl)
theorem m_1590 : Cond.methodLink RX12 375 yX12_leaveOut ∈ tb := mb_7_2 _ (List.mem_of_getElem? (i := 16) rfl)
theorem m_1592 : Cond.instanceMethod yX12_leaveOut ∈ tb := mb_7_2 _ (List.mem_of_getElem? (i := 17) rfl)
theorem m_1593 : Cond.code yX12_leaveOut cX12_leaveOut 4 none ∈ tb := mb_7_2 _ (List.mem_of_getElem? (i := 18) rfl)
theorem hd_X12_doLooksPart_v : yX12_doLooksPart.cls = RX12 ∧ yX12_doLooksPart.cls ≠ "java/lang/invoke/MethodHandle" ∧ yX12_doLooksPart.cls ≠ "java/lang/invoke/VarHandle" ∧ (parseMethodDescriptor yX12_doLooksPart.desc).map (fun d => d.parameters.length) = some 2 := by decide +kernel
theorem hd_X12_haveBoth_v : yX12_haveBoth.cls = RX12 ∧ yX12_haveBoth.cls ≠ "java/lang/invoke/MethodHandle" ∧ yX12_haveBoth.cls ≠ "java/lang/invoke/VarHandle" ∧ (parseMethodDescriptor yX12_haveBoth.desc).map (fun d => d.parameters.length) = some 1 := by decide +kernel
theorem hd_X12_leaveOut_v : yX12_leaveOut.cls = RX12 ∧ yX12_leaveOut.cls ≠ "java/lang/invoke/MethodHandle" ∧ yX12_leaveOut.cls ≠ "java/lang/invoke/VarHandle" ∧ (parseMethodDescriptor yX12_leaveOut.desc).map (fun d => d.parameters.length) = some 3 := by decide +kernel
theorem hd_X12_tryCause_v : yX12_tryCause.cls = RX12 ∧ yX12_tryCause.cls ≠ "java/lang/invoke/MethodHandle" ∧ yX12_tryCause.cls ≠ "java/lang/invoke/VarHandle" ∧ (parseMethodDescriptor yX12_tryCause.desc).map (fun d => d.parameters.length) = some 5 := by decide +kernel
set_option maxRecDepth 100000 in
theorem dvX12_cause_0 : ([(0, .aload_n 0, 1), (1, .iload_n 1, 1), (2, .invokevirtual 183, 3), (5, .ifCond .eq 6, 3), (8, .ldc 187, 2), (10, .ireturn, 1), (11, .aload_n 0, 1), (12, .iconst 2, 1), (13, .aload_n 0, 1), (14, .getfield 171, 3), (17, .invokevirtual 325, 3), (20, .istore_n 3, 1), (21, .aload_n 0, 1), (22, .iload_n 1, 1), (23, .invokevirtual 385, 3), (26, .ifCond .eq 12, 3), (29, .aload_n 0, 1), (30, .iload_n 1, 1), (31, .iload_n 3, 1), (32, .invokevirtual 379, 3), (35, .ifCond .ne 6, 3), (38, .ldc 179, 2), (40, .ireturn, 1), (41, .aload_n 0, 1)] : List (Nat × Instr × Nat)).all (fun q => decide (decode cX12_cause q.1 = .ok (q.2.1, q.2.2))) = true := by decide +kernel
theorem dX12_cause_0 : decode cX12_cause 0 = .ok (.aload_n 0, 1) := all_at dvX12_cause_0 0 rfl
theorem dX12_cause_1 : decode cX12_cause 1 = .ok (.iload_n 1, 1) := all_at dvX12_cause_0 1 rfl
theorem dX12_cause_2 : decode cX12_cause 2 = .ok (.invokevirtual 183, 3) := all_at dvX12_cause_0 2 rfl
theorem dX12_cause_5 : decode cX12_cause 5 = .ok (.ifCond .eq 6, 3) := all_at dvX12_cause_0 3 rfl
theorem dX12_cause_8 : decode cX12_cause 8 = .ok (.ldc 187, 2) := all_at dvX12_cause_0 4 rfl
theorem dX12_cause_10 : decode cX12_cause 10 = .ok (.ireturn, 1) := all_at dvX12_cause_0 5 rfl
theorem dX12_cause_11 : decode cX12_cause 11 = .ok (.aload_n 0, 1) := all_at dvX12_cause_0 6 rfl
theorem dX12_cause_12 : decode cX12_cause 12 = .ok (.iconst 2, 1) := all_at dvX12_cause_0 7 rfl
theorem dX12_cause_13 : decode cX12_cause 13 = .ok (.aload_n 0, 1) := all_at dvX12_cause_0 8 rfl
theorem dX12_cause_14 : decode cX12_cause 14 = .ok (.getfield 171, 3) := all_at dvX12_cause_0 9 rfl
theorem dX12_cause_17 : decode cX12_cause 17 = .ok (.invokevirtual 325, 3) := all_at dvX12_cause_0 10 rfl
theorem dX12_cause_20 : decode cX12_cause 20 = .ok (.istore_n 3, 1) := all_at dvX12_cause_0 11 rfl
theorem dX12_cause_21 : decode cX12_cause 21 = .ok (.aload_n 0, 1) := all_at dvX12_cause_0 12 rfl
theorem dX12_cause_22 : decode cX12_cause 22 = .ok (.iload_n 1, 1) := all_at dvX12_cause_0 13 rfl
theorem dX12_cause_23 : decode cX12_cause 23 = .ok (.invokevirtual 385, 3) := all_at dvX12_cause_0 14 rfl
theorem dX12_cause_26 : decode cX12_cause 26 = .ok (.ifCond .eq 12, 3) := all_at dvX12_cause_0 15 rfl
theorem dX12_cause_29 : decode cX12_cause 29 = .ok (.aload_n 0, 1) := all_at dvX12_cause_0 16 rfl
theorem dX12_cause_30 : decode cX12_cause 30 = .ok (.iload_n 1, 1) := all_at dvX12_cause_0 17 rfl
theorem dX12_cause_31 : decode cX12_cause 31 = .ok (.iload_n 3, 1) := all_at dvX12_cause_0 18 rfl
theorem dX12_cause_32 : decode cX12_cause 32 = .ok (.invokevirtual 379, 3) := all_at dvX12_cause_0 19 rfl
theorem dX12_cause_35 : decode cX12_cause 35 = .ok (.ifCond .ne 6, 3) := all_at dvX12_cause_0 20 rfl
theorem dX12_cause_38 : decode cX12_cause 38 = .ok (.ldc 179, 2) := all_at dvX12_cause_0 21 rfl
theorem dX12_cause_40 : decode cX12_cause 40 = .ok (.ireturn, 1) := all_at dvX12_cause_0 22 rfl
theorem dX12_cause_41 : decode cX12_cause 41 = .ok (.aload_n 0, 1) := all_at dvX12_cause_0 23 rfl
set_option maxRecDepth 100000 in
theorem dvX12_cause_42 : ([(42, .iconst 0, 1), (43, .putfield 382, 3), (46, .iconst 0, 1), (47, .istore 4, 2), (49, .iload 4, 2), (51, .iconst 4, 1), (52, .if_icmp .ge 19, 3), (55, .aload_n 0, 1), (56, .iload_n 1, 1), (57, .iload_n 3, 1), (58, .iload 4, 2), (60, .iconst (-1), 1), (61, .iconst (-1), 1), (62, .invokevirtual 388, 3), (65, .iinc 4 1, 3), (68, .goto (-19), 3), (71, .iconst 0, 1), (72, .istore 4, 2), (74, .iload 4, 2), (76, .bipush 8, 2), (78, .if_icmp .ge 19, 3), (81, .aload_n 0, 1), (82, .iload_n 1, 1), (83, .iload_n 3, 1)] : List (Nat × Instr × Nat)).all (fun q => decide (decode cX12_cause q.1 = .ok (q.2.1, q.2.2))) = true := by decide +kernel
theorem dX12_cause_42 : decode cX12_cause 42 = .ok (.iconst 0, 1) := all_at dvX12_cause_42 0 rfl
theorem dX12_cause_43 : decode cX12_cause 43 = .ok (.putfield 382, 3) := all_at dvX12_cause_42 1 rfl
theorem dX12_cause_46 : decode cX12_cause 46 = .ok (.iconst 0, 1) := all_at dvX12_cause_42 2 rfl
theorem dX12_cause_47 : decode cX12_cause 47 = .ok (.istore 4, 2) := all_at dvX12_cause_42 3 rfl
theorem dX12_cause_49 : decode cX12_cause 49 = .ok (.iload 4, 2) := all_at dvX12_cause_42 4 rfl
theorem dX12_cause_51 : decode cX12_cause 51 = .ok (.iconst 4, 1) := all_at dvX12_cause_42 5 rfl
theorem dX12_cause_52 : decode cX12_cause 52 = .ok (.if_icmp .ge 19, 3) := all_at dvX12_cause_42 6 rfl
theorem dX12_cause_55 : decode cX12_cause 55 = .ok (.aload_n 0, 1) := all_at dvX12_cause_42 7 rfl
theorem dX12_cause_56 : decode cX12_cause 56 = .ok (.iload_n 1, 1) := all_at dvX12_cause_42 8 rfl
theorem dX12_cause_57 : decode cX12_cause 57 = .ok (.iload_n 3, 1) := all_at dvX12_cause_42 9 rfl
theorem dX12_cause_58 : decode cX12_cause 58 = .ok (.iload 4, 2) := all_at dvX12_cause_42 10 rfl
theorem dX12_cause_60 : decode cX12_cause 60 = .ok (.iconst (-1), 1) := all_at dvX12_cause_42 11 rfl
theorem dX12_cause_61 : decode cX12_cause 61 = .ok (.iconst (-1), 1) := all_at dvX12_cause_42 12 rfl
theorem dX12_cause_62 : decode cX12_cause 62 = .ok (.invokevirtual 388, 3) := all_at dvX12_cause_42 13 rfl
theorem dX12_cause_65 : decode cX12_cause 65 = .ok (.iinc 4 1, 3) := all_at dvX12_cause_42 14 rfl
theorem dX12_cause_68 : decode cX12_cause 68 = .ok (.goto (-19), 3) := all_at dvX12_cause_42 15 rfl
theorem dX12_cause_71 : decode cX12_cause 71 = .ok (.iconst 0, 1) := all_at dvX12_cause_42 16 rfl
theorem dX12_cause_72 : decode cX12_cause 72 = .ok (.istore 4, 2) := all_at dvX12_cause_42 17 rfl
theorem dX12_cause_74 : decode cX12_cause 74 = .ok (.iload 4, 2) := all_at dvX12_cause_42 18 rfl
theorem dX12_cause_76 : decode cX12_cause 76 = .ok (.bipush 8, 2) := all_at dvX12_cause_42 19 rfl
theorem dX12_cause_78 : decode cX12_cause 78 = .ok (.if_icmp .ge 19, 3) := all_at dvX12_cause_42 20 rfl
theorem dX12_cause_81 : decode cX12_cause 81 = .ok (.aload_n 0, 1) := all_at dvX12_cause_42 21 rfl
theorem dX12_cause_82 : decode cX12_cause 82 = .ok (.iload_n 1, 1) := all_at dvX12_cause_42 22 rfl
theorem dX12_cause_83 : decode cX12_cause 83 = .ok (.iload_n 3, 1) := all_at dvX12_cause_42 23 rfl
set_option maxRecDepth 100000 in
theorem dvX12_cause_84 : ([(84, .iconst (-1), 1), (85, .iload 4, 2), (87, .iconst (-1), 1), (88, .invokevirtual 388, 3), (91, .iinc 4 1, 3), (94, .goto (-20), 3), (97, .iconst 0, 1), (98, .istore 4, 2), (100, .iload 4, 2), (102, .aload_n 0, 1), (103, .getfield 200, 3), (106, .if_icmp .ge 54, 3), (109, .aload_n 0, 1), (110, .getfield 13, 3), (113, .iload 4, 2), (115, .iaload, 1), (116, .iload_n 1, 1), (117, .if_icmp .ne 37, 3), (120, .aload_n 0, 1), (121, .getfield 16, 3), (124, .iload 4, 2), (126, .iaload, 1), (127, .iconst 2, 1), (128, .if_icmp .ge 26, 3)] : List (Nat × Instr × Nat)).all (fun q => decide (decode cX12_cause q.1 = .ok (q.2.1, q.2.2))) = true := by decide +kernel
theorem dX12_cause_84 : decode cX12_cause 84 = .ok (.iconst (-1), 1) := all_at dvX12_cause_84 0 rfl
theorem dX12_cause_85 : decode cX12_cause 85 = .ok (.iload 4, 2) := all_at dvX12_cause_84 1 rfl
theorem dX12_cause_87 : decode cX12_cause 87 = .ok (.iconst (-1), 1) := all_at dvX12_cause_84 2 rfl
theorem dX12_cause_88 : decode cX12_cause 88 = .ok (.invokevirtual 388, 3) := all_at dvX12_cause_84 3 rfl
theorem dX12_cause_91 : decode cX12_cause 91 = .ok (.iinc 4 1, 3) := all_at dvX12_cause_84 4 rfl
theorem dX12_cause_94 : decode cX12_cause 94 = .ok (.goto (-20), 3) := all_at dvX12_cause_84 5 rfl
theorem dX12_cause_97 : decode cX12_cause 97 = .ok (.iconst 0, 1) := all_at dvX12_cause_84 6 rfl
theorem dX12_cause_98 : decode cX12_cause 98 = .ok (.istore 4, 2) := all_at dvX12_cause_84 7 rfl
theorem dX12_cause_100 : decode cX12_cause 100 = .ok (.iload 4, 2) := all_at dvX12_cause_84 8 rfl
theorem dX12_cause_102 : decode cX12_cause 102 = .ok (.aload_n 0, 1) := all_at dvX12_cause_84 9 rfl
theorem dX12_cause_103 : decode cX12_cause 103 = .ok (.getfield 200, 3) := all_at dvX12_cause_84 10 rfl
theorem dX12_cause_106 : decode cX12_cause 106 = .ok (.if_icmp .ge 54, 3) := all_at dvX12_cause_84 11 rfl
theorem dX12_cause_109 : decode cX12_cause 109 = .ok (.aload_n 0, 1) := all_at dvX12_cause_84 12 rfl
theorem dX12_cause_110 : decode cX12_cause 110 = .ok (.getfield 13, 3) := all_at dvX12_cause_84 13 rfl
theorem dX12_cause_113 : decode cX12_cause 113 = .ok (.iload 4, 2) := all_at dvX12_cause_84 14 rfl
theorem dX12_cause_115 : decode cX12_cause 115 = .ok (.iaload, 1) := all_at dvX12_cause_84 15 rfl
theorem dX12_cause_116 : decode cX12_cause 116 = .ok (.iload_n 1, 1) := all_at dvX12_cause_84 16 rfl
theorem dX12_cause_117 : decode cX12_cause 117 = .ok (.if_icmp .ne 37, 3) := all_at dvX12_cause_84 17 rfl
theorem dX12_cause_120 : decode cX12_cause 120 = .ok (.aload_n 0, 1) := all_at dvX12_cause_84 18 rfl
theorem dX12_cause_121 : decode cX12_cause 121 = .ok (.getfield 16, 3) := all_at dvX12_cause_84 19 rfl
theorem dX12_cause_124 : decode cX12_cause 124 = .ok (.iload 4, 2) := all_at dvX12_cause_84 20 rfl
theorem dX12_cause_126 : decode cX12_cause 126 = .ok (.iaload, 1) := all_at dvX12_cause_84 21 rfl
theorem dX12_cause_127 : decode cX12_cause 127 = .ok (.iconst 2, 1) := all_at dvX12_cause_84 22 rfl
theorem dX12_cause_128 : decode cX12_cause 128 = .ok (.if_icmp .ge 26, 3) := all_at dvX12_cause_84 23 rfl
set_option maxRecDepth 100000 in
theorem dvX12_cause_131 : ([(131, .aload_n 0, 1), (132, .iload 4, 2), (134, .aload_n 0, 1), (135, .getfield 171, 3), (138, .invokevirtual 233, 3), (141, .ifCond .eq 13, 3), (144, .aload_n 0, 1), (145, .iload_n 1, 1), (146, .iload_n 3, 1), (147, .iconst (-1), 1), (148, .iconst (-1), 1), (149, .iload 4, 2), (151, .invokevirtual 388, 3), (154, .iinc 4 1, 3), (157, .goto (-57), 3), (160, .iload_n 2, 1), (161, .iconst (-1), 1), (162, .if_icmp .ne 10, 3), (165, .aload_n 0, 1), (166, .getfield 382, 3), (169, .goto 29, 3), (172, .iload_n 2, 1), (173, .i2l, 1), (174, .lconst 0, 1)] : List (Nat × Instr × Nat)).all (fun q => decide (decode cX12_cause q.1 = .ok (q.2.1, q.2.2))) = true := by decide +kernel
theorem dX12_cause_131 : decode cX12_cause 131 = .ok (.aload_n 0, 1) := all_at dvX12_cause_131 0 rfl
theorem dX12_cause_132 : decode cX12_cause 132 = .ok (.iload 4, 2) := all_at dvX12_cause_131 1 rfl
theorem dX12_cause_134 : decode cX12_cause 134 = .ok (.aload_n 0, 1) := all_at dvX12_cause_131 2 rfl
theorem dX12_cause_135 : decode cX12_cause 135 = .ok (.getfield 171, 3) := all_at dvX12_cause_131 3 rfl
theorem dX12_cause_138 : decode cX12_cause 138 = .ok (.invokevirtual 233, 3) := all_at dvX12_cause_131 4 rfl
theorem dX12_cause_141 : decode cX12_cause 141 = .ok (.ifCond .eq 13, 3) := all_at dvX12_cause_131 5 rfl
theorem dX12_cause_144 : decode cX12_cause 144 = .ok (.aload_n 0, 1) := all_at dvX12_cause_131 6 rfl
theorem dX12_cause_145 : decode cX12_cause 145 = .ok (.iload_n 1, 1) := all_at dvX12_cause_131 7 rfl
theorem dX12_cause_146 : decode cX12_cause 146 = .ok (.iload_n 3, 1) := all_at dvX12_cause_131 8 rfl
theorem dX12_cause_147 : decode cX12_cause 147 = .ok (.iconst (-1), 1) := all_at dvX12_cause_131 9 rfl
theorem dX12_cause_148 : decode cX12_cause 148 = .ok (.iconst (-1), 1) := all_at dvX12_cause_131 10 rfl
theorem dX12_cause_149 : decode cX12_cause 149 = .ok (.iload 4, 2) := all_at dvX12_cause_131 11 rfl
theorem dX12_cause_151 : decode cX12_cause 151 = .ok (.invokevirtual 388, 3) := all_at dvX12_cause_131 12 rfl
theorem dX12_cause_154 : decode cX12_cause 154 = .ok (.iinc 4 1, 3) := all_at dvX12_cause_131 13 rfl
theorem dX12_cause_157 : decode cX12_cause 157 = .ok (.goto (-57), 3) := all_at dvX12_cause_131 14 rfl
theorem dX12_cause_160 : decode cX12_cause 160 = .ok (.iload_n 2, 1) := all_at dvX12_cause_131 15 rfl
theorem dX12_cause_161 : decode cX12_cause 161 = .ok (.iconst (-1), 1) := all_at dvX12_cause_131 16 rfl
theorem dX12_cause_162 : decode cX12_cause 162 = .ok (.if_icmp .ne 10, 3) := all_at dvX12_cause_131 17 rfl
theorem dX12_cause_165 : decode cX12_cause 165 = .ok (.aload_n 0, 1) := all_at dvX12_cause_131 18 rfl
theorem dX12_cause_166 : decode cX12_cause 166 = .ok (.getfield 382, 3) := all_at dvX12_cause_131 19 rfl
theorem dX12_cause_169 : decode cX12_cause 169 = .ok (.goto 29, 3) := all_at dvX12_cause_131 20 rfl
theorem dX12_cause_172 : decode cX12_cause 172 = .ok (.iload_n 2, 1) := all_at dvX12_cause_131 21 rfl
theorem dX12_cause_173 : decode cX12_cause 173 = .ok (.i2l, 1) := all_at dvX12_cause_131 22 rfl
theorem dX12_cause_174 : decode cX12_cause 174 = .ok (.lconst 0, 1) := all_at dvX12_cause_131 23 rfl
set_option maxRecDepth 100000 in
theorem dvX12_cause_175 : ([(175, .aload_n 0, 1), (176, .getfield 382, 3), (179, .iconst 1, 1), (180, .isub, 1), (181, .i2l, 1), (182, .invokestatic 167, 3), (185, .ifCond .eq 12, 3), (188, .aload_n 0, 1), (189, .getfield 103, 3), (192, .iload_n 2, 1), (193, .iaload, 1), (194, .goto 4, 3), (197, .iconst (-1), 1), (198, .ireturn, 1)] : List (Nat × Instr × Nat)).all (fun q => decide (decode cX12_cause q.1 = .ok (q.2.1, q.2.2))) = true := by decide +kernel
theorem dX12_cause_175 : decode cX12_cause 175 = .ok (.aload_n 0, 1) := all_at dvX12_cause_175 0 rfl
theorem dX12_cause_176 : decode cX12_cause 176 = .ok (.getfield 382, 3) := all_at dvX12_cause_175 1 rfl
theorem dX12_cause_179 : decode cX12_cause 179 = .ok (.iconst 1, 1) := all_at dvX12_cause_175 2 rfl
theorem dX12_cause_180 : decode cX12_cause 180 = .ok (.isub, 1) := all_at dvX12_cause_175 3 rfl
theorem dX12_cause_181 : decode cX12_cause 181 = .ok (.i2l, 1) := all_at dvX12_cause_175 4 rfl
theorem dX12_cause_182 : decode cX12_cause 182 = .ok (.invokestatic 167, 3) := all_at dvX12_cause_175 5 rfl
theorem dX12_cause_185 : decode cX12_cause 185 = .ok (.ifCond .eq 12, 3) := all_at dvX12_cause_175 6 rfl
theorem dX12_cause_188 : decode cX12_cause 188 = .ok (.aload_n 0, 1) := all_at dvX12_cause_175 7 rfl
theorem dX12_cause_189 : decode cX12_cause 189 = .ok (.getfield 103, 3) := all_at dvX12_cause_175 8 rfl
theorem dX12_cause_192 : decode cX12_cause 192 = .ok (.iload_n 2, 1) := all_at dvX12_cause_175 9 rfl
theorem dX12_cause_193 : decode cX12_cause 193 = .ok (.iaload, 1) := all_at dvX12_cause_175 10 rfl
theorem dX12_cause_194 : decode cX12_cause 194 = .ok (.goto 4, 3) := all_at dvX12_cause_175 11 rfl
theorem dX12_cause_197 : decode cX12_cause 197 = .ok (.iconst (-1), 1) := all_at dvX12_cause_175 12 rfl
theorem dX12_cause_198 : decode cX12_cause 198 = .ok (.ireturn, 1) := all_at dvX12_cause_175 13 rfl
set_option maxRecDepth 100000 in
theorem dvX12_odd_0 : ([(0, .aload_n 0, 1), (1, .iload_n 1, 1), (2, .invokevirtual 183, 3), (5, .ifCond .eq 6, 3), (8, .ldc 187, 2), (10, .ireturn, 1), (11, .iload_n 2, 1), (12, .i2l, 1), (13, .lconst 0, 1), (14, .ldc2_w 188, 3), (17, .invokestatic 167, 3), (20, .ifCond .ne 6, 3), (23, .ldc 178, 2), (25, .ireturn, 1), (26, .aload_n 0, 1), (27, .iconst 2, 1), (28, .aload_n 0, 1), (29, .getfield 171, 3), (32, .invokevirtual 325, 3), (35, .istore_n 3, 1), (36, .iconst 0, 1), (37, .istore 4, 2), (39, .iconst 0, 1), (40, .istore 5, 2)] : List (Nat × Instr × Nat)).all (fun q => decide (decode cX12_odd q.1 = .ok (q.2.1, q.2.2))) = true := by decide +kernel
theorem dX12_odd_0 : decode cX12_odd 0 = .ok (.aload_n 0, 1) := all_at dvX12_odd_0 0 rfl
theorem dX12_odd_1 : decode cX12_odd 1 = .ok (.iload_n 1, 1) := all_at dvX12_odd_0 1 rfl
theorem dX12_odd_2 : decode cX12_odd 2 = .ok (.invokevirtual 183, 3) := all_at dvX12_odd_0 2 rfl
theorem dX12_odd_5 : decode cX12_odd 5 = .ok (.ifCond .eq 6, 3) := all_at dvX12_odd_0 3 rfl
theorem dX12_odd_8 : decode cX12_odd 8 = .ok (.ldc 187, 2) := all_at dvX12_odd_0 4 rfl
theorem dX12_odd_10 : decode cX12_odd 10 = .ok (.ireturn, 1) := all_at dvX12_odd_0 5 rfl
theorem dX12_odd_11 : decode cX12_odd 11 = .ok (.iload_n 2, 1) := all_at dvX12_odd_0 6 rfl
theorem dX12_odd_12 : decode cX12_odd 12 = .ok (.i2l, 1) := all_at dvX12_odd_0 7 rfl
theorem dX12_odd_13 : decode cX12_odd 13 = .ok (.lconst 0, 1) := all_at dvX12_odd_0 8 rfl
theorem dX12_odd_14 : decode cX12_odd 14 = .ok (.ldc2_w 188, 3) := all_at dvX12_odd_0 9 rfl
theorem dX12_odd_17 : decode cX12_odd 17 = .ok (.invokestatic 167, 3) := all_at dvX12_odd_0 10 rfl
theorem dX12_odd_20 : decode cX12_odd 20 = .ok (.ifCond .ne 6, 3) := all_at dvX12_odd_0 11 rfl
theorem dX12_odd_23 : decode cX12_odd 23 = .ok (.ldc 178, 2) := all_at dvX12_odd_0 12 rfl
theorem dX12_odd_25 : decode cX12_odd 25 = .ok (.ireturn, 1) := all_at dvX12_odd_0 13 rfl
theorem dX12_odd_26 : decode cX12_odd 26 = .ok (.aload_n 0, 1) := all_at dvX12_odd_0 14 rfl
theorem dX12_odd_27 : decode cX12_odd 27 = .ok (.iconst 2, 1) := all_at dvX12_odd_0 15 rfl
theorem dX12_odd_28 : decode cX12_odd 28 = .ok (.aload_n 0, 1) := all_at dvX12_odd_0 16 rfl
theorem dX12_odd_29 : decode cX12_odd 29 = .ok (.getfield 171, 3) := all_at dvX12_odd_0 17 rfl
theorem dX12_odd_32 : decode cX12_odd 32 = .ok (.invokevirtual 325, 3) := all_at dvX12_odd_0 18 rfl
theorem dX12_odd_35 : decode cX12_odd 35 = .ok (.istore_n 3, 1) := all_at dvX12_odd_0 19 rfl
theorem dX12_odd_36 : decode cX12_odd 36 = .ok (.iconst 0, 1) := all_at dvX12_odd_0 20 rfl
theorem dX12_odd_37 : decode cX12_odd 37 = .ok (.istore 4, 2) := all_at dvX12_odd_0 21 rfl
theorem dX12_odd_39 : decode cX12_odd 39 = .ok (.iconst 0, 1) := all_at dvX12_odd_0 22 rfl
theorem dX12_odd_40 : decode cX12_odd 40 = .ok (.istore 5, 2) := all_at dvX12_odd_0 23 rfl
set_option maxRecDepth 100000 in
theorem dvX12_odd_42 : ([(42, .iload 5, 2), (44, .aload_n 0, 1), (45, .getfield 200, 3), (48, .if_icmp .ge 159, 3), (51, .iconst 0, 1), (52, .istore 6, 2), (54, .iload 6, 2), (56, .iload 5, 2), (58, .if_icmp .ge 143, 3), (61, .aload_n 0, 1), (62, .getfield 13, 3), (65, .iload 5, 2), (67, .iaload, 1), (68, .iload_n 1, 1), (69, .if_icmp .ne 66, 3), (72, .aload_n 0, 1), (73, .getfield 13, 3), (76, .iload 6, 2), (78, .iaload, 1), (79, .iload_n 1, 1), (80, .if_icmp .ne 55, 3), (83, .aload_n 0, 1), (84, .getfield 16, 3), (87, .iload 5, 2)] : List (Nat × Instr × Nat)).all (fun q => decide (decode cX12_odd q.1 = .ok (q.2.1, q.2.2))) = true := by decide +kernel
theorem dX12_odd_42 : decode cX12_odd 42 = .ok (.iload 5, 2) := all_at dvX12_odd_42 0 rfl
theorem dX12_odd_44 : decode cX12_odd 44 = .ok (.aload_n 0, 1) := all_at dvX12_odd_42 1 rfl
theorem dX12_odd_45 : decode cX12_odd 45 = .ok (.getfield 200, 3) := all_at dvX12_odd_42 2 rfl
theorem dX12_odd_48 : decode cX12_odd 48 = .ok (.if_icmp .ge 159, 3) := all_at dvX12_odd_42 3 rfl
theorem dX12_odd_51 : decode cX12_odd 51 = .ok (.iconst 0, 1) := all_at dvX12_odd_42 4 rfl
theorem dX12_odd_52 : decode cX12_odd 52 = .ok (.istore 6, 2) := all_at dvX12_odd_42 5 rfl
theorem dX12_odd_54 : decode cX12_odd 54 = .ok (.iload 6, 2) := all_at dvX12_odd_42 6 rfl
theorem dX12_odd_56 : decode cX12_odd 56 = .ok (.iload 5, 2) := all_at dvX12_odd_42 7 rfl
theorem dX12_odd_58 : decode cX12_odd 58 = .ok (.if_icmp .ge 143, 3) := all_at dvX12_odd_42 8 rfl
theorem dX12_odd_61 : decode cX12_odd 61 = .ok (.aload_n 0, 1) := all_at dvX12_odd_42 9 rfl
theorem dX12_odd_62 : decode cX12_odd 62 = .ok (.getfield 13, 3) := all_at dvX12_odd_42 10 rfl
theorem dX12_odd_65 : decode cX12_odd 65 = .ok (.iload 5, 2) := all_at dvX12_odd_42 11 rfl
theorem dX12_odd_67 : decode cX12_odd 67 = .ok (.iaload, 1) := all_at dvX12_odd_42 12 rfl
theorem dX12_odd_68 : decode cX12_odd 68 = .ok (.iload_n 1, 1) := all_at dvX12_odd_42 13 rfl
theorem dX12_odd_69 : decode cX12_odd 69 = .ok (.if_icmp .ne 66, 3) := all_at dvX12_odd_42 14 rfl
theorem dX12_odd_72 : decode cX12_odd 72 = .ok (.aload_n 0, 1) := all_at dvX12_odd_42 15 rfl
theorem dX12_odd_73 : decode cX12_odd 73 = .ok (.getfield 13, 3) := all_at dvX12_odd_42 16 rfl
theorem dX12_odd_76 : decode cX12_odd 76 = .ok (.iload 6, 2) := all_at dvX12_odd_42 17 rfl
theorem dX12_odd_78 : decode cX12_odd 78 = .ok (.iaload, 1) := all_at dvX12_odd_42 18 rfl
theorem dX12_odd_79 : decode cX12_odd 79 = .ok (.iload_n 1, 1) := all_at dvX12_odd_42 19 rfl
theorem dX12_odd_80 : decode cX12_odd 80 = .ok (.if_icmp .ne 55, 3) := all_at dvX12_odd_42 20 rfl
theorem dX12_odd_83 : decode cX12_odd 83 = .ok (.aload_n 0, 1) := all_at dvX12_odd_42 21 rfl
theorem dX12_odd_84 : decode cX12_odd 84 = .ok (.getfield 16, 3) := all_at dvX12_odd_42 22 rfl
theorem dX12_odd_87 : decode cX12_odd 87 = .ok (.iload 5, 2) := all_at dvX12_odd_42 23 rfl
set_option maxRecDepth 100000 in
theorem dvX12_odd_89 : ([(89, .iaload, 1), (90, .iload_n 2, 1), (91, .if_icmp .ne 44, 3), (94, .aload_n 0, 1), (95, .getfield 16, 3), (98, .iload 6, 2), (100, .iaload, 1), (101, .iload_n 2, 1), (102, .if_icmp .ne 33, 3), (105, .aload_n 0, 1), (106, .iload 5, 2), (108, .aload_n 0, 1), (109, .getfield 171, 3), (112, .invokevirtual 233, 3), (115, .ifCond .eq 20, 3), (118, .aload_n 0, 1), (119, .iload 6, 2), (121, .aload_n 0, 1), (122, .getfield 171, 3), (125, .invokevirtual 233, 3), (128, .ifCond .eq 7, 3), (131, .iconst 1, 1), (132, .goto 4, 3), (135, .iconst 0, 1)] : List (Nat × Instr × Nat)).all (fun q => decide (decode cX12_odd q.1 = .ok (q.2.1, q.2.2))) = true := by decide +kernel
theorem dX12_odd_89 : decode cX12_odd 89 = .ok (.iaload, 1) := all_at dvX12_odd_89 0 rfl
theorem dX12_odd_90 : decode cX12_odd 90 = .ok (.iload_n 2, 1) := all_at dvX12_odd_89 1 rfl
theorem dX12_odd_91 : decode cX12_odd 91 = .ok (.if_icmp .ne 44, 3) := all_at dvX12_odd_89 2 rfl
theorem dX12_odd_94 : decode cX12_odd 94 = .ok (.aload_n 0, 1) := all_at dvX12_odd_89 3 rfl
theorem dX12_odd_95 : decode cX12_odd 95 = .ok (.getfield 16, 3) := all_at dvX12_odd_89 4 rfl
theorem dX12_odd_98 : decode cX12_odd 98 = .ok (.iload 6, 2) := all_at dvX12_odd_89 5 rfl
theorem dX12_odd_100 : decode cX12_odd 100 = .ok (.iaload, 1) := all_at dvX12_odd_89 6 rfl
theorem dX12_odd_101 : decode cX12_odd 101 = .ok (.iload_n 2, 1) := all_at dvX12_odd_89 7 rfl
theorem dX12_odd_102 : decode cX12_odd 102 = .ok (.if_icmp .ne 33, 3) := all_at dvX12_odd_89 8 rfl
theorem dX12_odd_105 : decode cX12_odd 105 = .ok (.aload_n 0, 1) := all_at dvX12_odd_89 9 rfl
theorem dX12_odd_106 : decode cX12_odd 106 = .ok (.iload 5, 2) := all_at dvX12_odd_89 10 rfl
theorem dX12_odd_108 : decode cX12_odd 108 = .ok (.aload_n 0, 1) := all_at dvX12_odd_89 11 rfl
theorem dX12_odd_109 : decode cX12_odd 109 = .ok (.getfield 171, 3) := all_at dvX12_odd_89 12 rfl
theorem dX12_odd_112 : decode cX12_odd 112 = .ok (.invokevirtual 233, 3) := all_at dvX12_odd_89 13 rfl
theorem dX12_odd_115 : decode cX12_odd 115 = .ok (.ifCond .eq 20, 3) := all_at dvX12_odd_89 14 rfl
theorem dX12_odd_118 : decode cX12_odd 118 = .ok (.aload_n 0, 1) := all_at dvX12_odd_89 15 rfl
theorem dX12_odd_119 : decode cX12_odd 119 = .ok (.iload 6, 2) := all_at dvX12_odd_89 16 rfl
theorem dX12_odd_121 : decode cX12_odd 121 = .ok (.aload_n 0, 1) := all_at dvX12_odd_89 17 rfl
theorem dX12_odd_122 : decode cX12_odd 122 = .ok (.getfield 171, 3) := all_at dvX12_odd_89 18 rfl
theorem dX12_odd_125 : decode cX12_odd 125 = .ok (.invokevirtual 233, 3) := all_at dvX12_odd_89 19 rfl
theorem dX12_odd_128 : decode cX12_odd 128 = .ok (.ifCond .eq 7, 3) := all_at dvX12_odd_89 20 rfl
theorem dX12_odd_131 : decode cX12_odd 131 = .ok (.iconst 1, 1) := all_at dvX12_odd_89 21 rfl
theorem dX12_odd_132 : decode cX12_odd 132 = .ok (.goto 4, 3) := all_at dvX12_odd_89 22 rfl
theorem dX12_odd_135 : decode cX12_odd 135 = .ok (.iconst 0, 1) := all_at dvX12_odd_89 23 rfl
set_option maxRecDepth 100000 in
theorem dvX12_odd_136 : ([(136, .istore 7, 2), (138, .iload 4, 2), (140, .iload 7, 2), (142, .ifCond .eq 46, 3), (145, .aload_n 0, 1), (146, .getfield 25, 3), (149, .iload 5, 2), (151, .iaload, 1), (152, .i2l, 1), (153, .aload_n 0, 1), (154, .getfield 22, 3), (157, .iload 5, 2), (159, .iaload, 1), (160, .i2l, 1), (161, .aload_n 0, 1), (162, .getfield 25, 3), (165, .iload 6, 2), (167, .iaload, 1), (168, .i2l, 1), (169, .aload_n 0, 1), (170, .getfield 22, 3), (173, .iload 6, 2), (175, .iaload, 1), (176, .i2l, 1)] : List (Nat × Instr × Nat)).all (fun q => decide (decode cX12_odd q.1 = .ok (q.2.1, q.2.2))) = true := by decide +kernel
theorem dX12_odd_136 : decode cX12_odd 136 = .ok (.istore 7, 2) := all_at dvX12_odd_136 0 rfl
theorem dX12_odd_138 : decode cX12_odd 138 = .ok (.iload 4, 2) := all_at dvX12_odd_136 1 rfl
theorem dX12_odd_140 : decode cX12_odd 140 = .ok (.iload 7, 2) := all_at dvX12_odd_136 2 rfl
theorem dX12_odd_142 : decode cX12_odd 142 = .ok (.ifCond .eq 46, 3) := all_at dvX12_odd_136 3 rfl
theorem dX12_odd_145 : decode cX12_odd 145 = .ok (.aload_n 0, 1) := all_at dvX12_odd_136 4 rfl
theorem dX12_odd_146 : decode cX12_odd 146 = .ok (.getfield 25, 3) := all_at dvX12_odd_136 5 rfl
theorem dX12_odd_149 : decode cX12_odd 149 = .ok (.iload 5, 2) := all_at dvX12_odd_136 6 rfl
theorem dX12_odd_151 : decode cX12_odd 151 = .ok (.iaload, 1) := all_at dvX12_odd_136 7 rfl
theorem dX12_odd_152 : decode cX12_odd 152 = .ok (.i2l, 1) := all_at dvX12_odd_136 8 rfl
theorem dX12_odd_153 : decode cX12_odd 153 = .ok (.aload_n 0, 1) := all_at dvX12_odd_136 9 rfl
theorem dX12_odd_154 : decode cX12_odd 154 = .ok (.getfield 22, 3) := all_at dvX12_odd_136 10 rfl
theorem dX12_odd_157 : decode cX12_odd 157 = .ok (.iload 5, 2) := all_at dvX12_odd_136 11 rfl
theorem dX12_odd_159 : decode cX12_odd 159 = .ok (.iaload, 1) := all_at dvX12_odd_136 12 rfl
theorem dX12_odd_160 : decode cX12_odd 160 = .ok (.i2l, 1) := all_at dvX12_odd_136 13 rfl
theorem dX12_odd_161 : decode cX12_odd 161 = .ok (.aload_n 0, 1) := all_at dvX12_odd_136 14 rfl
theorem dX12_odd_162 : decode cX12_odd 162 = .ok (.getfield 25, 3) := all_at dvX12_odd_136 15 rfl
theorem dX12_odd_165 : decode cX12_odd 165 = .ok (.iload 6, 2) := all_at dvX12_odd_136 16 rfl
theorem dX12_odd_167 : decode cX12_odd 167 = .ok (.iaload, 1) := all_at dvX12_odd_136 17 rfl
theorem dX12_odd_168 : decode cX12_odd 168 = .ok (.i2l, 1) := all_at dvX12_odd_136 18 rfl
theorem dX12_odd_169 : decode cX12_odd 169 = .ok (.aload_n 0, 1) := all_at dvX12_odd_136 19 rfl
theorem dX12_odd_170 : decode cX12_odd 170 = .ok (.getfield 22, 3) := all_at dvX12_odd_136 20 rfl
theorem dX12_odd_173 : decode cX12_odd 173 = .ok (.iload 6, 2) := all_at dvX12_odd_136 21 rfl
theorem dX12_odd_175 : decode cX12_odd 175 = .ok (.iaload, 1) := all_at dvX12_odd_136 22 rfl
theorem dX12_odd_176 : decode cX12_odd 176 = .ok (.i2l, 1) := all_at dvX12_odd_136 23 rfl
set_option maxRecDepth 100000 in
theorem dvX12_odd_177 : ([(177, .iload_n 3, 1), (178, .invokestatic 340, 3), (181, .ifCond .eq 7, 3), (184, .iconst 1, 1), (185, .goto 4, 3), (188, .iconst 0, 1), (189, .invokestatic 203, 3), (192, .iadd, 1), (193, .istore 4, 2), (195, .iinc 6 1, 3), (198, .goto (-144), 3), (201, .iinc 5 1, 3), (204, .goto (-162), 3), (207, .iload 4, 2), (209, .ireturn, 1)] : List (Nat × Instr × Nat)).all (fun q => decide (decode cX12_odd q.1 = .ok (q.2.1, q.2.2))) = true := by decide +kernel
theorem dX12_odd_177 : decode cX12_odd 177 = .ok (.iload_n 3, 1) := all_at dvX12_odd_177 0 rfl
theorem dX12_odd_178 : decode cX12_odd 178 = .ok (.invokestatic 340, 3) := all_at dvX12_odd_177 1 rfl
theorem dX12_odd_181 : decode cX12_odd 181 = .ok (.ifCond .eq 7, 3) := all_at dvX12_odd_177 2 rfl
theorem dX12_odd_184 : decode cX12_odd 184 = .ok (.iconst 1, 1) := all_at dvX12_odd_177 3 rfl
theorem dX12_odd_185 : decode cX12_odd 185 = .ok (.goto 4, 3) := all_at dvX12_odd_177 4 rfl
theorem dX12_odd_188 : decode cX12_odd 188 = .ok (.iconst 0, 1) := all_at dvX12_odd_177 5 rfl
theorem dX12_odd_189 : decode cX12_odd 189 = .ok (.invokestatic 203, 3) := all_at dvX12_odd_177 6 rfl
theorem dX12_odd_192 : decode cX12_odd 192 = .ok (.iadd, 1) := all_at dvX12_odd_177 7 rfl
theorem dX12_odd_193 : decode cX12_odd 193 = .ok (.istore 4, 2) := all_at dvX12_odd_177 8 rfl
theorem dX12_odd_195 : decode cX12_odd 195 = .ok (.iinc 6 1, 3) := all_at dvX12_odd_177 9 rfl
theorem dX12_odd_198 : decode cX12_odd 198 = .ok (.goto (-144), 3) := all_at dvX12_odd_177 10 rfl
theorem dX12_odd_201 : decode cX12_odd 201 = .ok (.iinc 5 1, 3) := all_at dvX12_odd_177 11 rfl
theorem dX12_odd_204 : decode cX12_odd 204 = .ok (.goto (-162), 3) := all_at dvX12_odd_177 12 rfl
theorem dX12_odd_207 : decode cX12_odd 207 = .ok (.iload 4, 2) := all_at dvX12_odd_177 13 rfl
theorem dX12_odd_209 : decode cX12_odd 209 = .ok (.ireturn, 1) := all_at dvX12_odd_177 14 rfl
set_option maxRecDepth 100000 in
theorem dvX12_tryCause_0 : ([(0, .aload_n 0, 1), (1, .iload_n 1, 1), (2, .iconst 0, 1), (3, .aload_n 0, 1), (4, .getfield 171, 3), (7, .invokevirtual 237, 3), (10, .istore 6, 2), (12, .aload_n 0, 1), (13, .iload_n 1, 1), (14, .iconst 1, 1), (15, .aload_n 0, 1), (16, .getfield 171, 3), (19, .invokevirtual 237, 3), (22, .istore 7, 2), (24, .aload_n 0, 1), (25, .iload_n 3, 1), (26, .iload 4, 2), (28, .iload 5, 2), (30, .invokevirtual 375, 3), (33, .aload_n 0, 1), (34, .iload_n 1, 1), (35, .iconst 0, 1), (36, .aload_n 0, 1), (37, .getfield 171, 3)] : List (Nat × Instr × Nat)).all (fun q => decide (decode cX12_tryCause q.1 = .ok (q.2.1, q.2.2))) = true := by decide +kernel
theorem dX12_tryCause_0 : decode cX12_tryCause 0 = .ok (.aload_n 0, 1) := all_at dvX12_tryCause_0 0 rfl
theorem dX12_tryCause_1 : decode cX12_tryCause 1 = .ok (.iload_n 1, 1) := all_at dvX12_tryCause_0 1 rfl
theorem dX12_tryCause_2 : decode cX12_tryCause 2 = .ok (.iconst 0, 1) := all_at dvX12_tryCause_0 2 rfl
theorem dX12_tryCause_3 : decode cX12_tryCause 3 = .ok (.aload_n 0, 1) := all_at dvX12_tryCause_0 3 rfl
theorem dX12_tryCause_4 : decode cX12_tryCause 4 = .ok (.getfield 171, 3) := all_at dvX12_tryCause_0 4 rfl
theorem dX12_tryCause_7 : decode cX12_tryCause 7 = .ok (.invokevirtual 237, 3) := all_at dvX12_tryCause_0 5 rfl
theorem dX12_tryCause_10 : decode cX12_tryCause 10 = .ok (.istore 6, 2) := all_at dvX12_tryCause_0 6 rfl
theorem dX12_tryCause_12 : decode cX12_tryCause 12 = .ok (.aload_n 0, 1) := all_at dvX12_tryCause_0 7 rfl
theorem dX12_tryCause_13 : decode cX12_tryCause 13 = .ok (.iload_n 1, 1) := all_at dvX12_tryCause_0 8 rfl
theorem dX12_tryCause_14 : decode cX12_tryCause 14 = .ok (.iconst 1, 1) := all_at dvX12_tryCause_0 9 rfl
theorem dX12_tryCause_15 : decode cX12_tryCause 15 = .ok (.aload_n 0, 1) := all_at dvX12_tryCause_0 10 rfl
theorem dX12_tryCause_16 : decode cX12_tryCause 16 = .ok (.getfield 171, 3) := all_at dvX12_tryCause_0 11 rfl
theorem dX12_tryCause_19 : decode cX12_tryCause 19 = .ok (.invokevirtual 237, 3) := all_at dvX12_tryCause_0 12 rfl
theorem dX12_tryCause_22 : decode cX12_tryCause 22 = .ok (.istore 7, 2) := all_at dvX12_tryCause_0 13 rfl
theorem dX12_tryCause_24 : decode cX12_tryCause 24 = .ok (.aload_n 0, 1) := all_at dvX12_tryCause_0 14 rfl
theorem dX12_tryCause_25 : decode cX12_tryCause 25 = .ok (.iload_n 3, 1) := all_at dvX12_tryCause_0 15 rfl
theorem dX12_tryCause_26 : decode cX12_tryCause 26 = .ok (.iload 4, 2) := all_at dvX12_tryCause_0 16 rfl
theorem dX12_tryCause_28 : decode cX12_tryCause 28 = .ok (.iload 5, 2) := all_at dvX12_tryCause_0 17 rfl
theorem dX12_tryCause_30 : decode cX12_tryCause 30 = .ok (.invokevirtual 375, 3) := all_at dvX12_tryCause_0 18 rfl
theorem dX12_tryCause_33 : decode cX12_tryCause 33 = .ok (.aload_n 0, 1) := all_at dvX12_tryCause_0 19 rfl
theorem dX12_tryCause_34 : decode cX12_tryCause 34 = .ok (.iload_n 1, 1) := all_at dvX12_tryCause_0 20 rfl
theorem dX12_tryCause_35 : decode cX12_tryCause 35 = .ok (.iconst 0, 1) := all_at dvX12_tryCause_0 21 rfl
theorem dX12_tryCause_36 : decode cX12_tryCause 36 = .ok (.aload_n 0, 1) := all_at dvX12_tryCause_0 22 rfl
theorem dX12_tryCause_37 : decode cX12_tryCause 37 = .ok (.getfield 171, 3) := all_at dvX12_tryCause_0 23 rfl
set_option maxRecDepth 100000 in
theorem dvX12_tryCause_40 : ([(40, .invokevirtual 237, 3), (43, .istore 8, 2), (45, .aload_n 0, 1), (46, .iload_n 1, 1), (47, .iconst 1, 1), (48, .aload_n 0, 1), (49, .getfield 171, 3), (52, .invokevirtual 237, 3), (55, .istore 9, 2), (57, .iload 6, 2), (59, .iload 8, 2), (61, .isub, 1), (62, .iload 7, 2), (64, .iadd, 1), (65, .iload 9, 2), (67, .isub, 1), (68, .istore 10, 2), (70, .iload 8, 2), (72, .ifCond .le 36, 3), (75, .iload 9, 2), (77, .ifCond .le 31, 3), (80, .iload 10, 2), (82, .iload 5, 2), (84, .ifCond .ge 7, 3)] : List (Nat × Instr × Nat)).all (fun q => decide (decode cX12_tryCause q.1 = .ok (q.2.1, q.2.2))) = true := by decide +kernel
theorem dX12_tryCause_40 : decode cX12_tryCause 40 = .ok (.invokevirtual 237, 3) := all_at dvX12_tryCause_40 0 rfl
theorem dX12_tryCause_43 : decode cX12_tryCause 43 = .ok (.istore 8, 2) := all_at dvX12_tryCause_40 1 rfl
theorem dX12_tryCause_45 : decode cX12_tryCause 45 = .ok (.aload_n 0, 1) := all_at dvX12_tryCause_40 2 rfl
theorem dX12_tryCause_46 : decode cX12_tryCause 46 = .ok (.iload_n 1, 1) := all_at dvX12_tryCause_40 3 rfl
theorem dX12_tryCause_47 : decode cX12_tryCause 47 = .ok (.iconst 1, 1) := all_at dvX12_tryCause_40 4 rfl
theorem dX12_tryCause_48 : decode cX12_tryCause 48 = .ok (.aload_n 0, 1) := all_at dvX12_tryCause_40 5 rfl
theorem dX12_tryCause_49 : decode cX12_tryCause 49 = .ok (.getfield 171, 3) := all_at dvX12_tryCause_40 6 rfl
theorem dX12_tryCause_52 : decode cX12_tryCause 52 = .ok (.invokevirtual 237, 3) := all_at dvX12_tryCause_40 7 rfl
theorem dX12_tryCause_55 : decode cX12_tryCause 55 = .ok (.istore 9, 2) := all_at dvX12_tryCause_40 8 rfl
theorem dX12_tryCause_57 : decode cX12_tryCause 57 = .ok (.iload 6, 2) := all_at dvX12_tryCause_40 9 rfl
theorem dX12_tryCause_59 : decode cX12_tryCause 59 = .ok (.iload 8, 2) := all_at dvX12_tryCause_40 10 rfl
theorem dX12_tryCause_61 : decode cX12_tryCause 61 = .ok (.isub, 1) := all_at dvX12_tryCause_40 11 rfl
theorem dX12_tryCause_62 : decode cX12_tryCause 62 = .ok (.iload 7, 2) := all_at dvX12_tryCause_40 12 rfl
theorem dX12_tryCause_64 : decode cX12_tryCause 64 = .ok (.iadd, 1) := all_at dvX12_tryCause_40 13 rfl
theorem dX12_tryCause_65 : decode cX12_tryCause 65 = .ok (.iload 9, 2) := all_at dvX12_tryCause_40 14 rfl
theorem dX12_tryCause_67 : decode cX12_tryCause 67 = .ok (.isub, 1) := all_at dvX12_tryCause_40 15 rfl
theorem dX12_tryCause_68 : decode cX12_tryCause 68 = .ok (.istore 10, 2) := all_at dvX12_tryCause_40 16 rfl
theorem dX12_tryCause_70 : decode cX12_tryCause 70 = .ok (.iload 8, 2) := all_at dvX12_tryCause_40 17 rfl
theorem dX12_tryCause_72 : decode cX12_tryCause 72 = .ok (.ifCond .le 36, 3) := all_at dvX12_tryCause_40 18 rfl
theorem dX12_tryCause_75 : decode cX12_tryCause 75 = .ok (.iload 9, 2) := all_at dvX12_tryCause_40 19 rfl
theorem dX12_tryCause_77 : decode cX12_tryCause 77 = .ok (.ifCond .le 31, 3) := all_at dvX12_tryCause_40 20 rfl
theorem dX12_tryCause_80 : decode cX12_tryCause 80 = .ok (.iload 10, 2) := all_at dvX12_tryCause_40 21 rfl
theorem dX12_tryCause_82 : decode cX12_tryCause 82 = .ok (.iload 5, 2) := all_at dvX12_tryCause_40 22 rfl
theorem dX12_tryCause_84 : decode cX12_tryCause 84 = .ok (.ifCond .ge 7, 3) := all_at dvX12_tryCause_40 23 rfl
set_option maxRecDepth 100000 in
theorem dvX12_tryCause_87 : ([(87, .iconst 2, 1), (88, .goto 4, 3), (91, .iconst 1, 1), (92, .if_icmp .lt 16, 3), (95, .aload_n 0, 1), (96, .iload_n 1, 1), (97, .iload_n 2, 1), (98, .invokevirtual 379, 3), (101, .ifCond .ne 7, 3), (104, .iconst 1, 1), (105, .goto 4, 3), (108, .iconst 0, 1), (109, .istore 11, 2), (111, .aload_n 0, 1), (112, .iconst (-1), 1), (113, .iconst (-1), 1), (114, .iconst (-1), 1), (115, .invokevirtual 375, 3), (118, .iload 11, 2), (120, .ifCond .eq 49, 3), (123, .aload_n 0, 1), (124, .getfield 103, 3), (127, .aload_n 0, 1), (128, .getfield 382, 3)] : List (Nat × Instr × Nat)).all (fun q => decide (decode cX12_tryCause q.1 = .ok (q.2.1, q.2.2))) = true := by decide +kernel
theorem dX12_tryCause_87 : decode cX12_tryCause 87 = .ok (.iconst 2, 1) := all_at dvX12_tryCause_87 0 rfl
theorem dX12_tryCause_88 : decode cX12_tryCause 88 = .ok (.goto 4, 3) := all_at dvX12_tryCause_87 1 rfl
theorem dX12_tryCause_91 : decode cX12_tryCause 91 = .ok (.iconst 1, 1) := all_at dvX12_tryCause_87 2 rfl
theorem dX12_tryCause_92 : decode cX12_tryCause 92 = .ok (.if_icmp .lt 16, 3) := all_at dvX12_tryCause_87 3 rfl
theorem dX12_tryCause_95 : decode cX12_tryCause 95 = .ok (.aload_n 0, 1) := all_at dvX12_tryCause_87 4 rfl
theorem dX12_tryCause_96 : decode cX12_tryCause 96 = .ok (.iload_n 1, 1) := all_at dvX12_tryCause_87 5 rfl
theorem dX12_tryCause_97 : decode cX12_tryCause 97 = .ok (.iload_n 2, 1) := all_at dvX12_tryCause_87 6 rfl
theorem dX12_tryCause_98 : decode cX12_tryCause 98 = .ok (.invokevirtual 379, 3) := all_at dvX12_tryCause_87 7 rfl
theorem dX12_tryCause_101 : decode cX12_tryCause 101 = .ok (.ifCond .ne 7, 3) := all_at dvX12_tryCause_87 8 rfl
theorem dX12_tryCause_104 : decode cX12_tryCause 104 = .ok (.iconst 1, 1) := all_at dvX12_tryCause_87 9 rfl
theorem dX12_tryCause_105 : decode cX12_tryCause 105 = .ok (.goto 4, 3) := all_at dvX12_tryCause_87 10 rfl
theorem dX12_tryCause_108 : decode cX12_tryCause 108 = .ok (.iconst 0, 1) := all_at dvX12_tryCause_87 11 rfl
theorem dX12_tryCause_109 : decode cX12_tryCause 109 = .ok (.istore 11, 2) := all_at dvX12_tryCause_87 12 rfl
theorem dX12_tryCause_111 : decode cX12_tryCause 111 = .ok (.aload_n 0, 1) := all_at dvX12_tryCause_87 13 rfl
theorem dX12_tryCause_112 : decode cX12_tryCause 112 = .ok (.iconst (-1), 1) := all_at dvX12_tryCause_87 14 rfl
theorem dX12_tryCause_113 : decode cX12_tryCause 113 = .ok (.iconst (-1), 1) := all_at dvX12_tryCause_87 15 rfl
theorem dX12_tryCause_114 : decode cX12_tryCause 114 = .ok (.iconst (-1), 1) := all_at dvX12_tryCause_87 16 rfl
theorem dX12_tryCause_115 : decode cX12_tryCause 115 = .ok (.invokevirtual 375, 3) := all_at dvX12_tryCause_87 17 rfl
theorem dX12_tryCause_118 : decode cX12_tryCause 118 = .ok (.iload 11, 2) := all_at dvX12_tryCause_87 18 rfl
theorem dX12_tryCause_120 : decode cX12_tryCause 120 = .ok (.ifCond .eq 49, 3) := all_at dvX12_tryCause_87 19 rfl
theorem dX12_tryCause_123 : decode cX12_tryCause 123 = .ok (.aload_n 0, 1) := all_at dvX12_tryCause_87 20 rfl
theorem dX12_tryCause_124 : decode cX12_tryCause 124 = .ok (.getfield 103, 3) := all_at dvX12_tryCause_87 21 rfl
theorem dX12_tryCause_127 : decode cX12_tryCause 127 = .ok (.aload_n 0, 1) := all_at dvX12_tryCause_87 22 rfl
theorem dX12_tryCause_128 : decode cX12_tryCause 128 = .ok (.getfield 382, 3) := all_at dvX12_tryCause_87 23 rfl
set_option maxRecDepth 100000 in
theorem dvX12_tryCause_131 : ([(131, .iload 5, 2), (133, .ifCond .lt 11, 3), (136, .bipush 100, 2), (138, .iload 5, 2), (140, .iadd, 1), (141, .goto 17, 3), (144, .iload 4, 2), (146, .ifCond .lt 11, 3), (149, .bipush 10, 2), (151, .iload 4, 2), (153, .iadd, 1), (154, .goto 4, 3), (157, .iload_n 3, 1), (158, .iastore, 1), (159, .aload_n 0, 1), (160, .dup, 1), (161, .getfield 382, 3), (164, .iconst 1, 1), (165, .iadd, 1), (166, .putfield 382, 3), (169, .return_, 1)] : List (Nat × Instr × Nat)).all (fun q => decide (decode cX12_tryCause q.1 = .ok (q.2.1, q.2.2))) = true := by decide +kernel
theorem dX12_tryCause_131 : decode cX12_tryCause 131 = .ok (.iload 5, 2) := all_at dvX12_tryCause_131 0 rfl
theorem dX12_tryCause_133 : decode cX12_tryCause 133 = .ok (.ifCond .lt 11, 3) := all_at dvX12_tryCause_131 1 rfl
theorem dX12_tryCause_136 : decode cX12_tryCause 136 = .ok (.bipush 100, 2) := all_at dvX12_tryCause_131 2 rfl
theorem dX12_tryCause_138 : decode cX12_tryCause 138 = .ok (.iload 5, 2) := all_at dvX12_tryCause_131 3 rfl
theorem dX12_tryCause_140 : decode cX12_tryCause 140 = .ok (.iadd, 1) := all_at dvX12_tryCause_131 4 rfl
theorem dX12_tryCause_141 : decode cX12_tryCause 141 = .ok (.goto 17, 3) := all_at dvX12_tryCause_131 5 rfl
theorem dX12_tryCause_144 : decode cX12_tryCause 144 = .ok (.iload 4, 2) := all_at dvX12_tryCause_131 6 rfl
theorem dX12_tryCause_146 : decode cX12_tryCause 146 = .ok (.ifCond .lt 11, 3) := all_at dvX12_tryCause_131 7 rfl
theorem dX12_tryCause_149 : decode cX12_tryCause 149 = .ok (.bipush 10, 2) := all_at dvX12_tryCause_131 8 rfl
theorem dX12_tryCause_151 : decode cX12_tryCause 151 = .ok (.iload 4, 2) := all_at dvX12_tryCause_131 9 rfl
theorem dX12_tryCause_153 : decode cX12_tryCause 153 = .ok (.iadd, 1) := all_at dvX12_tryCause_131 10 rfl
theorem dX12_tryCause_154 : decode cX12_tryCause 154 = .ok (.goto 4, 3) := all_at dvX12_tryCause_131 11 rfl
theorem dX12_tryCause_157 : decode cX12_tryCause 157 = .ok (.iload_n 3, 1) := all_at dvX12_tryCause_131 12 rfl
theorem dX12_tryCause_158 : decode cX12_tryCause 158 = .ok (.iastore, 1) := all_at dvX12_tryCause_131 13 rfl
theorem dX12_tryCause_159 : decode cX12_tryCause 159 = .ok (.aload_n 0, 1) := all_at dvX12_tryCause_131 14 rfl
theorem dX12_tryCause_160 : decode cX12_tryCause 160 = .ok (.dup, 1) := all_at dvX12_tryCause_131 15 rfl
theorem dX12_tryCause_161 : decode cX12_tryCause 161 = .ok (.getfield 382, 3) := all_at dvX12_tryCause_131 16 rfl
theorem dX12_tryCause_164 : decode cX12_tryCause 164 = .ok (.iconst 1, 1) := all_at dvX12_tryCause_131 17 rfl
theorem dX12_tryCause_165 : decode cX12_tryCause 165 = .ok (.iadd, 1) := all_at dvX12_tryCause_131 18 rfl
theorem dX12_tryCause_166 : decode cX12_tryCause 166 = .ok (.putfield 382, 3) := all_at dvX12_tryCause_131 19 rfl
theorem dX12_tryCause_169 : decode cX12_tryCause 169 = .ok (.return_, 1) := all_at dvX12_tryCause_131 20 rfl
set_option maxHeartbeats 4000000 in
set_option maxRecDepth 100000 in
/-- X12_leaveOut -/
theorem c_X12_leaveOut_x (l : Launch) (dC : Nat → ClassId) (dI : Nat → Nat → Nat) (sz : Nat) (h : Nat) (g : Nat → Nat → Nat) (ca : Nat → Nat → ClassId) (iv : Nat → Nat → Int32) (lv : Nat → Nat → Int64) (fa : Nat → Nat → Nat → Int32) (la : Nat → Nat → Nat → Int64) (hI : IX iv fa) (a : Int32) (b : Int32) (d : Int32) : Met l yX12_leaveOut (wc yX12_leaveOut cX12_leaveOut 4 none) ({ frames := 0, cells := 0, slots := 0, locals := 0 } : Room) (pW (dC, dI) classes (WM h g ca iv lv fa la) (TM ca) sz [.ref h, .int a, .int b, .int d]) (va_Qv (fun (u : SS) => ∃ (ni_12_20 : Int32) (ni_12_21 : Int32) (ni_12_22 : Int32), ((ni_12_20).toInt = a.toInt) ∧ ((ni_12_21).toInt = b.toInt) ∧ ((ni_12_22).toInt = d.toInt) ∧ u = ((u2 (u2 (u2 iv 12 20 ni_12_20) 12 21 ni_12_21) 12 22 ni_12_22), lv, fa, la)) (bM (dC, dI) h g ca (va_A (WM h g ca iv lv fa la) sz)) (va_A (WM h g ca iv lv fa la) sz)) 0 0 (va_A (WM h g ca iv lv fa la) sz) := by
  refine Met.ofW (cc := cX12_leaveOut) (maxL := 4) (ret := none) (by decide) rfl ?_
  intro p e s m args below meth c s₁ B hml hv
  obtain ⟨rfl, hsz, hP, hK, hD0⟩ := hv
  have hx := B.exec
  have hb := B.bytes
  have hr := B.returns
  have ht := tb_tl (atoms_spec (ws := wc yX12_leaveOut cX12_leaveOut 4 none) B.pre)
  have hown : s.vm.findClass RX12 = some m.cls := findClass_of_methodNamed B.named
  have hlocks := B.notSynchronized
  subst hsz
  have hD := hD0.self (sz := s.heap.size)
  generalize hAe : va_A (WM h g ca iv lv fa la) s.heap.size = A at hD ⊢
  have hA : ∀ q : Nat, s.heap.size ≤ q → A q := fun q h => by rw [← hAe]; exact Or.inr h
  have hS : va_S A s.heap s.heap [] := va_S.rf
  have hl := lv_entry [.ref h, .int a, .int b, .int d] (n := 4) (Nat.le_of_ble_eq_true rfl)
  rw [lg_entry_eq]
  generalize (lg_sl [.ref h, .int a, .int b, .int d] ++ List.replicate (4 - (lg_sl [.ref h, .int a, .int b, .int d]).length) Slot.unset).toArray = ls at hl ⊢
  have hl : lv_has ls 4 [(0, .ref h), (1, .int a), (2, .int b), (3, .int d)] := hl
  refine lv_aload_n hx hb dX12_leaveOut_0 rfl (lv_at hl 0 rfl) ?_
  refine lv_iload_n hx hb dX12_leaveOut_1 rfl (lv_at hl 1 rfl) ?_
  refine pM_12_20 (v := a) hx hb ht hown hK hP hD hS m_1159 dX12_leaveOut_2 (fun H locs hP hD hS => ?_)
  refine lv_aload_n hx hb dX12_leaveOut_5 rfl (lv_at hl 0 rfl) ?_
  refine lv_iload_n hx hb dX12_leaveOut_6 rfl (lv_at hl 2 rfl) ?_
  refine pM_12_21 (v := b) hx hb ht hown hK hP hD hS m_1160 dX12_leaveOut_7 (fun H locs hP hD hS => ?_)
  refine lv_aload_n hx hb dX12_leaveOut_10 rfl (lv_at hl 0 rfl) ?_
  refine lv_iload_n hx hb dX12_leaveOut_11 rfl (lv_at hl 3 rfl) ?_
  refine pM_12_22 (v := d) hx hb ht hown hK hP hD hS m_1161 dX12_leaveOut_12 (fun H locs hP hD hS => ?_)
  have hP9 : va_P (dC, dI) classes (WM h g ca (u2 (u2 (u2 iv 12 20 a) 12 21 b) 12 22 d) lv fa la) H := hP
  have hD9 : va_D A (WM h g ca (u2 (u2 (u2 iv 12 20 a) 12 21 b) 12 22 d) lv fa la) := hD
  exact W.vret hx hb hr (fun t ht9 hW => ⟨⟨((u2 (u2 (u2 iv 12 20 a) 12 21 b) 12 22 d), lv, fa, la), rfl, ⟨a, b, d, (show (a : Int32).toInt = (a).toInt from by omega), (show (b : Int32).toInt = (b).toInt from by omega), (show (d : Int32).toInt = (d).toInt from by omega), rfl⟩, by rw [ht9]; exact hP9, hD9⟩, hS.F ht9⟩) hS.2.2 dX12_leaveOut_15
set_option maxHeartbeats 4000000 in
set_option maxRecDepth 100000 in
/-- X12_tryCause -/
theorem c_X12_tryCause (l : Launch) (dC : Nat → ClassId) (dI : Nat → Nat → Nat) (sz : Nat) (h : Nat) (g : Nat → Nat → Nat) (ca : Nat → Nat → ClassId) (iv : Nat → Nat → Int32) (lv : Nat → Nat → Int64) (fa : Nat → Nat → Nat → Int32) (la : Nat → Nat → Nat → Int64) (hI : IX iv fa) (a : Int32) (b : Int32) (d : Int32) (k : Int32) (n : Int32) (q_12_48 : 0 ≤ (iv 12 48).toInt ∧ (iv 12 48).toInt ≤ 71) (hJR : JRf (iv 12 3).toInt (fa 12 7)) : Met l yX12_tryCause (wc yX12_tryCause cX12_tryCause 12 none) ({ frames := 3, cells := 0, slots := 0, locals := 77 } : Room) (pW (dC, dI) classes (WM h g ca iv lv fa la) (TM ca) sz [.ref h, .int a, .int b, .int d, .int k, .int n]) (va_Qv (fun (u : SS) => ∃ (na_12_49 : Nat → Int32) (ni_12_19 : Int32) (ni_12_20 : Int32) (ni_12_21 : Int32) (ni_12_22 : Int32) (ni_12_48 : Int32) (nl_12_17 : Int64) (nl_12_18 : Int64), inb (bI 12 48) ni_12_48 ∧ ((ni_12_20).toInt = -1) ∧ ((ni_12_21).toInt = -1) ∧ ((ni_12_22).toInt = -1) ∧ ((ni_12_48).toInt ≤ (iv 12 48).toInt + 1) ∧ u = ((u2 (u2 (u2 (u2 (u2 iv 12 19 ni_12_19) 12 20 ni_12_20) 12 21 ni_12_21) 12 22 ni_12_22) 12 48 ni_12_48), (u2 (u2 lv 12 17 nl_12_17) 12 18 nl_12_18), (u2 fa 12 49 na_12_49), la)) (bM (dC, dI) h g ca (va_A (WM h g ca iv lv fa la) sz)) (va_A (WM h g ca iv lv fa la) sz)) 0 0 (va_A (WM h g ca iv lv fa la) sz) := by
  refine Met.ofW (cc := cX12_tryCause) (maxL := 12) (ret := none) (by decide) rfl ?_
  intro p e s m args below meth c s₁ B hml hv
  obtain ⟨rfl, hsz, hP, hK, hD0⟩ := hv
  have hx := B.exec
  have hb := B.bytes
  have hr := B.returns
  have ht := tb_tl (atoms_spec (ws := wc yX12_tryCause cX12_tryCause 12 none) B.pre)
  have hown : s.vm.findClass RX12 = some m.cls := findClass_of_methodNamed B.named
  have hlocks := B.notSynchronized
  subst hsz
  have hD := hD0.self (sz := s.heap.size)
  generalize hAe : va_A (WM h g ca iv lv fa la) s.heap.size = A at hD ⊢
  have hA : ∀ q : Nat, s.heap.size ≤ q → A q := fun q h => by rw [← hAe]; exact Or.inr h
  have hS : va_S A s.heap s.heap [] := va_S.rf
  have hl := lv_entry [.ref h, .int a, .int b, .int d, .int k, .int n] (n := 12) (Nat.le_of_ble_eq_true rfl)
  rw [lg_entry_eq]
  generalize (lg_sl [.ref h, .int a, .int b, .int d, .int k, .int n] ++ List.replicate (12 - (lg_sl [.ref h, .int a, .int b, .int d, .int k, .int n]).length) Slot.unset).toArray = ls at hl ⊢
  have hl : lv_has ls 12 [(0, .ref h), (1, .int a), (2, .int b), (3, .int d), (4, .int k), (5, .int n)] := hl
  refine lv_aload_n hx hb dX12_tryCause_0 rfl (lv_at hl 0 rfl) ?_
  refine lv_iload_n hx hb dX12_tryCause_1 rfl (lv_at hl 1 rfl) ?_
  refine lv_iconst (v := 0) hx hb dX12_tryCause_2 (by decide) ?_
  refine lv_aload_n hx hb dX12_tryCause_3 rfl (lv_at hl 0 rfl) ?_
  have i_12_0 : 0 ≤ (iv 12 0).toInt ∧ (iv 12 0).toInt ≤ 3000 := hI.1 12 0
  refine gM_12_0 hx hb ht hown hK hP m_1139 (v := (iv 12 0)) rfl dX12_tryCause_4 ?_
  have hFc := free_all hD hS hA
  refine va_calli (va_runV (As := [.int a, .int 0, .int (iv 12 0)]) (rest := []) ⟨hx, hb, hml, hown, ht⟩ (c_X12_sumUp_x l dC dI s.heap.size h g ca iv lv fa la hI a 0 (iv 12 0) hJR) (kV 3 ht m_1434 m_1436 m_45 m_89 m_1437 rfl rfl hd_X12_sumUp_v ⟨Nat.le_of_ble_eq_true rfl, Nat.le_of_ble_eq_true rfl⟩) (vW hP hK hD (rM_12 hK hP)) rfl rfl hl.1 rfl (lv_room (Nat.le_of_ble_eq_true rfl)) dX12_tryCause_7 ⟨Nat.le_of_ble_eq_true rfl, Nat.le_of_ble_eq_true rfl⟩) hS (fun q _ h => hFc q h) hFc (fun r1 u t H1 locs ht9 hvm hr1 hB hz1 hk1 hS => ?_)
  obtain ⟨n2, n3, n4, xr1_0, xr1_1, xr1_2, xr1_3, xr1_4, hr1, rfl⟩ := hr1
  obtain ⟨hP, hD⟩ := hB
  rw [ht9] at hP
  generalize H1 = H at hP hS ⊢
  have hP : va_P (dC, dI) classes (WM h g ca (u2 iv 12 19 n2) (u2 (u2 lv 12 17 n3) 12 18 n4) fa la) H := hP
  have hD : va_D A (WM h g ca (u2 iv 12 19 n2) (u2 (u2 lv 12 17 n3) 12 18 n4) fa la) := (show va_D _ (WM h g ca (u2 iv 12 19 n2) (u2 (u2 lv 12 17 n3) 12 18 n4) fa la) from hD).weaken (fun _ _ _ h => hFc _ h)
  have xr1_0 : 0 ≤ (r1 : Int32).toInt := xr1_0
  have xr1_1 : (r1 : Int32).toInt ≤ 60 := xr1_1
  have xr1_2 : 0 ≤ (n4 : Int64).toInt := xr1_2
  have xr1_3 : (n4 : Int64).toInt ≤ 599940 := xr1_3
  have xr1_4 : 100 * (r1 : Int32).toInt ≤ (n4 : Int64).toInt := xr1_4
  refine lv_istore (lv' := [(6, .int r1), (0, .ref h), (1, .int a), (2, .int b), (3, .int d), (4, .int k), (5, .int n)]) hx hb dX12_tryCause_10 hl (by decide) rfl (fun ls hl => ?_)
  refine lv_aload_n hx hb dX12_tryCause_12 rfl (lv_at hl 1 rfl) ?_
  refine lv_iload_n hx hb dX12_tryCause_13 rfl (lv_at hl 2 rfl) ?_
  refine lv_iconst (v := 1) hx hb dX12_tryCause_14 (by decide) ?_
  refine lv_aload_n hx hb dX12_tryCause_15 rfl (lv_at hl 1 rfl) ?_
  refine gM_12_0 hx hb ht hown hK hP m_1139 (v := (iv 12 0)) rfl dX12_tryCause_16 ?_
  have hFc := free_all hD hS hA
  refine va_calli (va_runV (As := [.int a, .int 1, .int (iv 12 0)]) (rest := []) ⟨hx, hb, hml, hown, ht⟩ (c_X12_sumUp_x l dC dI H.size h g ca (u2 iv 12 19 n2) (u2 (u2 lv 12 17 n3) 12 18 n4) fa la (IX_i (c := 12) (k := 19) hI (full_i _)) a 1 (iv 12 0) hJR) (kV 3 ht m_1434 m_1436 m_45 m_89 m_1437 rfl rfl hd_X12_sumUp_v ⟨Nat.le_of_ble_eq_true rfl, Nat.le_of_ble_eq_true rfl⟩) (vW hP hK hD (rM_12 hK hP)) rfl rfl hl.1 rfl (lv_room (Nat.le_of_ble_eq_true rfl)) dX12_tryCause_19 ⟨Nat.le_of_ble_eq_true rfl, Nat.le_of_ble_eq_true rfl⟩) hS (fun q _ h => hFc q h) hFc (fun r5 u t H1 locs ht9 hvm hr5 hB hz1 hk1 hS => ?_)
  obtain ⟨n6, n7, n8, xr5_0, xr5_1, xr5_2, xr5_3, xr5_4, hr5, rfl⟩ := hr5
  obtain ⟨hP, hD⟩ := hB
  rw [ht9] at hP
  generalize H1 = H at hP hS ⊢
  have hP : va_P (dC, dI) classes (WM h g ca (u2 iv 12 19 n6) (u2 (u2 lv 12 17 n7) 12 18 n8) fa la) H := hP
  have hD : va_D A (WM h g ca (u2 iv 12 19 n6) (u2 (u2 lv 12 17 n7) 12 18 n8) fa la) := (show va_D _ (WM h g ca (u2 iv 12 19 n6) (u2 (u2 lv 12 17 n7) 12 18 n8) fa la) from hD).weaken (fun _ _ _ h => hFc _ h)
  have xr5_0 : 0 ≤ (r5 : Int32).toInt := xr5_0
  have xr5_1 : (r5 : Int32).toInt ≤ 60 := xr5_1
  have xr5_2 : 0 ≤ (n8 : Int64).toInt := xr5_2
  have xr5_3 : (n8 : Int64).toInt ≤ 599940 := xr5_3
  have xr5_4 : 100 * (r5 : Int32).toInt ≤ (n8 : Int64).toInt := xr5_4
  refine lv_istore (lv' := [(7, .int r5), (6, .int r1), (0, .ref h), (1, .int a), (2, .int b), (3, .int d), (4, .int k), (5, .int n)]) hx hb dX12_tryCause_22 hl (by decide) rfl (fun ls hl => ?_)
  refine lv_aload_n hx hb dX12_tryCause_24 rfl (lv_at hl 2 rfl) ?_
  refine lv_iload_n hx hb dX12_tryCause_25 rfl (lv_at hl 5 rfl) ?_
  refine lv_iload hx hb dX12_tryCause_26 (lv_at hl 6 rfl) ?_
  refine lv_iload hx hb dX12_tryCause_28 (lv_at hl 7 rfl) ?_
  have hFc := free_all hD hS hA
  refine va_callv (va_runV (As := [.int d, .int k, .int n]) (rest := []) ⟨hx, hb, hml, hown, ht⟩ (c_X12_leaveOut_x l dC dI H.size h g ca (u2 iv 12 19 n6) (u2 (u2 lv 12 17 n7) 12 18 n8) fa la (IX_i (c := 12) (k := 19) hI (full_i _)) d k n) (kV 3 ht m_1590 m_1592 m_67 m_89 m_1593 rfl rfl hd_X12_leaveOut_v ⟨Nat.le_of_ble_eq_true rfl, Nat.le_of_ble_eq_true rfl⟩) (vW hP hK hD (rM_12 hK hP)) rfl rfl hl.1 rfl (lv_room (Nat.le_of_ble_eq_true rfl)) dX12_tryCause_30 ⟨Nat.le_of_ble_eq_true rfl, Nat.le_of_ble_eq_true rfl⟩) hS (fun q _ h => hFc q h) hFc (fun u t H1 locs ht9 hvm hr9 hB hz1 hk1 hS => ?_)
  obtain ⟨n10, n11, n12, xr9_0, xr9_1, xr9_2, rfl⟩ := hr9
  obtain ⟨hP, hD⟩ := hB
  rw [ht9] at hP
  generalize H1 = H at hP hS ⊢
  have hP : va_P (dC, dI) classes (WM h g ca (u2 (u2 (u2 (u2 iv 12 19 n6) 12 20 n10) 12 21 n11) 12 22 n12) (u2 (u2 lv 12 17 n7) 12 18 n8) fa la) H := hP
  have hD : va_D A (WM h g ca (u2 (u2 (u2 (u2 iv 12 19 n6) 12 20 n10) 12 21 n11) 12 22 n12) (u2 (u2 lv 12 17 n7) 12 18 n8) fa la) := (show va_D _ (WM h g ca (u2 (u2 (u2 (u2 iv 12 19 n6) 12 20 n10) 12 21 n11) 12 22 n12) (u2 (u2 lv 12 17 n7) 12 18 n8) fa la) from hD).weaken (fun _ _ _ h => hFc _ h)
  have xr9_0 : (n10 : Int32).toInt = (d : Int32).toInt := xr9_0
  have xr9_1 : (n11 : Int32).toInt = (k : Int32).toInt := xr9_1
  have xr9_2 : (n12 : Int32).toInt = (n : Int32).toInt := xr9_2
  refine lv_aload_n hx hb dX12_tryCause_33 rfl (lv_at hl 2 rfl) ?_
  refine lv_iload_n hx hb dX12_tryCause_34 rfl (lv_at hl 3 rfl) ?_
  refine lv_iconst (v := 0) hx hb dX12_tryCause_35 (by decide) ?_
  refine lv_aload_n hx hb dX12_tryCause_36 rfl (lv_at hl 2 rfl) ?_
  refine gM_12_0 hx hb ht hown hK hP m_1139 (v := (iv 12 0)) rfl dX12_tryCause_37 ?_
  have hFc := free_all hD hS hA
  refine va_calli (va_runV (As := [.int a, .int 0, .int (iv 12 0)]) (rest := []) ⟨hx, hb, hml, hown, ht⟩ (c_X12_sumUp_x l dC dI H.size h g ca (u2 (u2 (u2 (u2 iv 12 19 n6) 12 20 n10) 12 21 n11) 12 22 n12) (u2 (u2 lv 12 17 n7) 12 18 n8) fa la (IX_i (c := 12) (k := 22) (IX_i (c := 12) (k := 21) (IX_i (c := 12) (k := 20) (IX_i (c := 12) (k := 19) hI (full_i _)) (full_i _)) (full_i _)) (full_i _)) a 0 (iv 12 0) hJR) (kV 3 ht m_1434 m_1436 m_45 m_89 m_1437 rfl rfl hd_X12_sumUp_v ⟨Nat.le_of_ble_eq_true rfl, Nat.le_of_ble_eq_true rfl⟩) (vW hP hK hD (rM_12 hK hP)) rfl rfl hl.1 rfl (lv_room (Nat.le_of_ble_eq_true rfl)) dX12_tryCause_40 ⟨Nat.le_of_ble_eq_true rfl, Nat.le_of_ble_eq_true rfl⟩) hS (fun q _ h => hFc q h) hFc (fun r13 u t H1 locs ht9 hvm hr13 hB hz1 hk1 hS => ?_)
  obtain ⟨n14, n15, n16, xr13_0, xr13_1, xr13_2, xr13_3, xr13_4, hr13, rfl⟩ := hr13
  obtain ⟨hP, hD⟩ := hB
  rw [ht9] at hP
  generalize H1 = H at hP hS ⊢
  have hP : va_P (dC, dI) classes (WM h g ca (u2 (u2 (u2 (u2 iv 12 19 n14) 12 20 n10) 12 21 n11) 12 22 n12) (u2 (u2 lv 12 17 n15) 12 18 n16) fa la) H := hP
  have hD : va_D A (WM h g ca (u2 (u2 (u2 (u2 iv 12 19 n14) 12 20 n10) 12 21 n11) 12 22 n12) (u2 (u2 lv 12 17 n15) 12 18 n16) fa la) := (show va_D _ (WM h g ca (u2 (u2 (u2 (u2 iv 12 19 n14) 12 20 n10) 12 21 n11) 12 22 n12) (u2 (u2 lv 12 17 n15) 12 18 n16) fa la) from hD).weaken (fun _ _ _ h => hFc _ h)
  have xr13_0 : 0 ≤ (r13 : Int32).toInt := xr13_0
  have xr13_1 : (r13 : Int32).toInt ≤ 60 := xr13_1
  have xr13_2 : 0 ≤ (n16 : Int64).toInt := xr13_2
  have xr13_3 : (n16 : Int64).toInt ≤ 599940 := xr13_3
  have xr13_4 : 100 * (r13 : Int32).toInt ≤ (n16 : Int64).toInt := xr13_4
  refine lv_istore (lv' := [(8, .int r13), (7, .int r5), (6, .int r1), (0, .ref h), (1, .int a), (2, .int b), (3, .int d), (4, .int k), (5, .int n)]) hx hb dX12_tryCause_43 hl (by decide) rfl (fun ls hl => ?_)
  refine lv_aload_n hx hb dX12_tryCause_45 rfl (lv_at hl 3 rfl) ?_
  refine lv_iload_n hx hb dX12_tryCause_46 rfl (lv_at hl 4 rfl) ?_
  refine lv_iconst (v := 1) hx hb dX12_tryCause_47 (by decide) ?_
  refine lv_aload_n hx hb dX12_tryCause_48 rfl (lv_at hl 3 rfl) ?_
  refine gM_12_0 hx hb ht hown hK hP m_1139 (v := (iv 12 0)) rfl dX12_tryCause_49 ?_
  have hFc := free_all hD hS hA
  refine va_calli (va_runV (As := [.int a, .int 1, .int (iv 12 0)]) (rest := []) ⟨hx, hb, hml, hown, ht⟩ (c_X12_sumUp_x l dC dI H.size h g ca (u2 (u2 (u2 (u2 iv 12 19 n14) 12 20 n10) 12 21 n11) 12 22 n12) (u2 (u2 lv 12 17 n15) 12 18 n16) fa la (IX_i (c := 12) (k := 22) (IX_i (c := 12) (k := 21) (IX_i (c := 12) (k := 20) (IX_i (c := 12) (k := 19) hI (full_i _)) (full_i _)) (full_i _)) (full_i _)) a 1 (iv 12 0) hJR) (kV 3 ht m_1434 m_1436 m_45 m_89 m_1437 rfl rfl hd_X12_sumUp_v ⟨Nat.le_of_ble_eq_true rfl, Nat.le_of_ble_eq_true rfl⟩) (vW hP hK hD (rM_12 hK hP)) rfl rfl hl.1 rfl (lv_room (Nat.le_of_ble_eq_true rfl)) dX12_tryCause_52 ⟨Nat.le_of_ble_eq_true rfl, Nat.le_of_ble_eq_true rfl⟩) hS (fun q _ h => hFc q h) hFc (fun r17 u t H1 locs ht9 hvm hr17 hB hz1 hk1 hS => ?_)
  obtain ⟨n18, n19, n20, xr17_0, xr17_1, xr17_2, xr17_3, xr17_4, hr17, rfl⟩ := hr17
  obtain ⟨hP, hD⟩ := hB
  rw [ht9] at hP
  generalize H1 = H at hP hS ⊢
  have hP : va_P (dC, dI) classes (WM h g ca (u2 (u2 (u2 (u2 iv 12 19 n18) 12 20 n10) 12 21 n11) 12 22 n12) (u2 (u2 lv 12 17 n19) 12 18 n20) fa la) H := hP
  have hD : va_D A (WM h g ca (u2 (u2 (u2 (u2 iv 12 19 n18) 12 20 n10) 12 21 n11) 12 22 n12) (u2 (u2 lv 12 17 n19) 12 18 n20) fa la) := (show va_D _ (WM h g ca (u2 (u2 (u2 (u2 iv 12 19 n18) 12 20 n10) 12 21 n11) 12 22 n12) (u2 (u2 lv 12 17 n19) 12 18 n20) fa la) from hD).weaken (fun _ _ _ h => hFc _ h)
  have xr17_0 : 0 ≤ (r17 : Int32).toInt := xr17_0
  have xr17_1 : (r17 : Int32).toInt ≤ 60 := xr17_1
  have xr17_2 : 0 ≤ (n20 : Int64).toInt := xr17_2
  have xr17_3 : (n20 : Int64).toInt ≤ 599940 := xr17_3
  have xr17_4 : 100 * (r17 : Int32).toInt ≤ (n20 : Int64).toInt := xr17_4
  refine lv_istore (lv' := [(9, .int r17), (8, .int r13), (7, .int r5), (6, .int r1), (0, .ref h), (1, .int a), (2, .int b), (3, .int d), (4, .int k), (5, .int n)]) hx hb dX12_tryCause_55 hl (by decide) rfl (fun ls hl => ?_)
  refine lv_iload hx hb dX12_tryCause_57 (lv_at hl 3 rfl) ?_
  refine lv_iload hx hb dX12_tryCause_59 (lv_at hl 1 rfl) ?_
  refine lv_isub hx hb dX12_tryCause_61 ?_
  refine lv_topi (fun v21 ev21 => ?_)
  refine lv_iload hx hb dX12_tryCause_62 (lv_at hl 2 rfl) ?_
  refine lv_iadd hx hb dX12_tryCause_64 ?_
  refine lv_topi (fun v22 ev22 => ?_)
  refine lv_iload hx hb dX12_tryCause_65 (lv_at hl 0 rfl) ?_
  refine lv_isub hx hb dX12_tryCause_67 ?_
  refine lv_topi (fun v23 ev23 => ?_)
  refine lv_istore (lv' := [(10, .int v23), (9, .int r17), (8, .int r13), (7, .int r5), (6, .int r1), (0, .ref h), (1, .int a), (2, .int b), (3, .int d), (4, .int k), (5, .int n)]) hx hb dX12_tryCause_68 hl (by decide) rfl (fun ls hl => ?_)
  refine lv_iload hx hb dX12_tryCause_70 (lv_at hl 2 rfl) ?_
  refine lv_if_le (tgt := 108) hx hb dX12_tryCause_72 (by decide) (fun c24 => ?_) (fun c24 => ?_)
  · have fc24 := z_le (rfl : (r13).toInt = _) (by decide : (0 : Int32).toInt = 0) c24
    refine lv_iconst (v := 0) hx hb dX12_tryCause_108 (by decide) ?_
    refine lv_istore (lv' := [(11, .int 0), (10, .int v23), (9, .int r17), (8, .int r13), (7, .int r5), (6, .int r1), (0, .ref h), (1, .int a), (2, .int b), (3, .int d), (4, .int k), (5, .int n)]) hx hb dX12_tryCause_109 hl (by decide) rfl (fun ls hl => ?_)
    refine lv_aload_n hx hb dX12_tryCause_111 rfl (lv_at hl 6 rfl) ?_
    refine lv_iconst (v := (-1)) hx hb dX12_tryCause_112 (by decide) ?_
    refine lv_iconst (v := (-1)) hx hb dX12_tryCause_113 (by decide) ?_
    refine lv_iconst (v := (-1)) hx hb dX12_tryCause_114 (by decide) ?_
    have hFc := free_all hD hS hA
    refine va_callv (va_runV (As := [.int (-1), .int (-1), .int (-1)]) (rest := []) ⟨hx, hb, hml, hown, ht⟩ (c_X12_leaveOut_x l dC dI H.size h g ca (u2 (u2 (u2 (u2 iv 12 19 n18) 12 20 n10) 12 21 n11) 12 22 n12) (u2 (u2 lv 12 17 n19) 12 18 n20) fa la (IX_i (c := 12) (k := 22) (IX_i (c := 12) (k := 21) (IX_i (c := 12) (k := 20) (IX_i (c := 12) (k := 19) hI (full_i _)) (full_i _)) (full_i _)) (full_i _)) (-1) (-1) (-1)) (kV 3 ht m_1590 m_1592 m_67 m_89 m_1593 rfl rfl hd_X12_leaveOut_v ⟨Nat.le_of_ble_eq_true rfl, Nat.le_of_ble_eq_true rfl⟩) (vW hP hK hD (rM_12 hK hP)) rfl rfl hl.1 rfl (lv_room (Nat.le_of_ble_eq_true rfl)) dX12_tryCause_115 ⟨Nat.le_of_ble_eq_true rfl, Nat.le_of_ble_eq_true rfl⟩) hS (fun q _ h => hFc q h) hFc (fun u t H1 locs ht9 hvm hr25 hB hz1 hk1 hS => ?_)
    obtain ⟨n26, n27, n28, xr25_0, xr25_1, xr25_2, rfl⟩ := hr25
    obtain ⟨hP, hD⟩ := hB
    rw [ht9] at hP
    generalize H1 = H at hP hS ⊢
    have hP : va_P (dC, dI) classes (WM h g ca (u2 (u2 (u2 (u2 iv 12 19 n18) 12 20 n26) 12 21 n27) 12 22 n28) (u2 (u2 lv 12 17 n19) 12 18 n20) fa la) H := hP
    have hD : va_D A (WM h g ca (u2 (u2 (u2 (u2 iv 12 19 n18) 12 20 n26) 12 21 n27) 12 22 n28) (u2 (u2 lv 12 17 n19) 12 18 n20) fa la) := (show va_D _ (WM h g ca (u2 (u2 (u2 (u2 iv 12 19 n18) 12 20 n26) 12 21 n27) 12 22 n28) (u2 (u2 lv 12 17 n19) 12 18 n20) fa la) from hD).weaken (fun _ _ _ h => hFc _ h)
    have : ((-1) : Int32).toInt = (-1) := (by decide)
    have xr25_0 : (n26 : Int32).toInt = ((-1) : Int32).toInt := xr25_0
    have xr25_1 : (n27 : Int32).toInt = ((-1) : Int32).toInt := xr25_1
    have xr25_2 : (n28 : Int32).toInt = ((-1) : Int32).toInt := xr25_2
    refine lv_iload hx hb dX12_tryCause_118 (lv_at hl 0 rfl) ?_
    refine lv_if_eq (tgt := 169) hx hb dX12_tryCause_120 (by decide) (fun c29 => ?_) (fun c29 => ?_)
    · skip
      have i_12_48 : 0 ≤ (iv 12 48).toInt ∧ (iv 12 48).toInt ≤ 72 := hI.1 12 48
      have hP9 : va_P (dC, dI) classes (WM h g ca (u2 (u2 (u2 (u2 (u2 iv 12 19 n18) 12 20 n26) 12 21 n27) 12 22 n28) 12 48 (iv 12 48)) (u2 (u2 lv 12 17 n19) 12 18 n20) (u2 fa 12 49 (fa 12 49)) la) H := hP
      have hD9 : va_D A (WM h g ca (u2 (u2 (u2 (u2 (u2 iv 12 19 n18) 12 20 n26) 12 21 n27) 12 22 n28) 12 48 (iv 12 48)) (u2 (u2 lv 12 17 n19) 12 18 n20) (u2 fa 12 49 (fa 12 49)) la) := hD
      exact W.vret hx hb hr (fun t ht9 hW => ⟨⟨((u2 (u2 (u2 (u2 (u2 iv 12 19 n18) 12 20 n26) 12 21 n27) 12 22 n28) 12 48 (iv 12 48)), (u2 (u2 lv 12 17 n19) 12 18 n20), (u2 fa 12 49 (fa 12 49)), la), rfl, ⟨(fa 12 49), n18, n26, n27, n28, (iv 12 48), n19, n20, (hI.1 12 48), (show (n26 : Int32).toInt = -1 from by omega), (show (n27 : Int32).toInt = -1 from by omega), (show (n28 : Int32).toInt = -1 from by omega), (show ((iv 12 48) : Int32).toInt ≤ (iv 12 48).toInt + 1 from by omega), rfl⟩, by rw [ht9]; exact hP9, hD9⟩, hS.F ht9⟩) hS.2.2 dX12_tryCause_169
    · exact absurd rfl c29
  · have fc24 := z_nle (rfl : (r13).toInt = _) (by decide : (0 : Int32).toInt = 0) c24
    refine lv_iload hx hb dX12_tryCause_75 (lv_at hl 1 rfl) ?_
    refine lv_if_le (tgt := 108) hx hb dX12_tryCause_77 (by decide) (fun c30 => ?_) (fun c30 => ?_)
    · have fc30 := z_le (rfl : (r17).toInt = _) (by decide : (0 : Int32).toInt = 0) c30
      refine lv_iconst (v := 0) hx hb dX12_tryCause_108 (by decide) ?_
      refine lv_istore (lv' := [(11, .int 0), (10, .int v23), (9, .int r17), (8, .int r13), (7, .int r5), (6, .int r1), (0, .ref h), (1, .int a), (2, .int b), (3, .int d), (4, .int k), (5, .int n)]) hx hb dX12_tryCause_109 hl (by decide) rfl (fun ls hl => ?_)
      refine lv_aload_n hx hb dX12_tryCause_111 rfl (lv_at hl 6 rfl) ?_
      refine lv_iconst (v := (-1)) hx hb dX12_tryCause_112 (by decide) ?_
      refine lv_iconst (v := (-1)) hx hb dX12_tryCause_113 (by decide) ?_
      refine lv_iconst (v := (-1)) hx hb dX12_tryCause_114 (by decide) ?_
      have hFc := free_all hD hS hA
      refine va_callv (va_runV (As := [.int (-1), .int (-1), .int (-1)]) (rest := []) ⟨hx, hb, hml, hown, ht⟩ (c_X12_leaveOut_x l dC dI H.size h g ca (u2 (u2 (u2 (u2 iv 12 19 n18) 12 20 n10) 12 21 n11) 12 22 n12) (u2 (u2 lv 12 17 n19) 12 18 n20) fa la (IX_i (c := 12) (k := 22) (IX_i (c := 12) (k := 21) (IX_i (c := 12) (k := 20) (IX_i (c := 12) (k := 19) hI (full_i _)) (full_i _)) (full_i _)) (full_i _)) (-1) (-1) (-1)) (kV 3 ht m_1590 m_1592 m_67 m_89 m_1593 rfl rfl hd_X12_leaveOut_v ⟨Nat.le_of_ble_eq_true rfl, Nat.le_of_ble_eq_true rfl⟩) (vW hP hK hD (rM_12 hK hP)) rfl rfl hl.1 rfl (lv_room (Nat.le_of_ble_eq_true rfl)) dX12_tryCause_115 ⟨Nat.le_of_ble_eq_true rfl, Nat.le_of_ble_eq_true rfl⟩) hS (fun q _ h => hFc q h) hFc (fun u t H1 locs ht9 hvm hr31 hB hz1 hk1 hS => ?_)
      obtain ⟨n32, n33, n34, xr31_0, xr31_1, xr31_2, rfl⟩ := hr31
      obtain ⟨hP, hD⟩ := hB
      rw [ht9] at hP
      generalize H1 = H at hP hS ⊢
      have hP : va_P (dC, dI) classes (WM h g ca (u2 (u2 (u2 (u2 iv 12 19 n18) 12 20 n32) 12 21 n33) 12 22 n34) (u2 (u2 lv 12 17 n19) 12 18 n20) fa la) H := hP
      have hD : va_D A (WM h g ca (u2 (u2 (u2 (u2 iv 12 19 n18) 12 20 n32) 12 21 n33) 12 22 n34) (u2 (u2 lv 12 17 n19) 12 18 n20) fa la) := (show va_D _ (WM h g ca (u2 (u2 (u2 (u2 iv 12 19 n18) 12 20 n32) 12 21 n33) 12 22 n34) (u2 (u2 lv 12 17 n19) 12 18 n20) fa la) from hD).weaken (fun _ _ _ h => hFc _ h)
      have : ((-1) : Int32).toInt = (-1) := (by decide)
      have xr31_0 : (n32 : Int32).toInt = ((-1) : Int32).toInt := xr31_0
      have xr31_1 : (n33 : Int32).toInt = ((-1) : Int32).toInt := xr31_1
      have xr31_2 : (n34 : Int32).toInt = ((-1) : Int32).toInt := xr31_2
      refine lv_iload hx hb dX12_tryCause_118 (lv_at hl 0 rfl) ?_
      refine lv_if_eq (tgt := 169) hx hb dX12_tryCause_120 (by decide) (fun c35 => ?_) (fun c35 => ?_)
      · skip
        have i_12_48 : 0 ≤ (iv 12 48).toInt ∧ (iv 12 48).toInt ≤ 72 := hI.1 12 48
        have hP9 : va_P (dC, dI) classes (WM h g ca (u2 (u2 (u2 (u2 (u2 iv 12 19 n18) 12 20 n32) 12 21 n33) 12 22 n34) 12 48 (iv 12 48)) (u2 (u2 lv 12 17 n19) 12 18 n20) (u2 fa 12 49 (fa 12 49)) la) H := hP
        have hD9 : va_D A (WM h g ca (u2 (u2 (u2 (u2 (u2 iv 12 19 n18) 12 20 n32) 12 21 n33) 12 22 n34) 12 48 (iv 12 48)) (u2 (u2 lv 12 17 n19) 12 18 n20) (u2 fa 12 49 (fa 12 49)) la) := hD
        exact W.vret hx hb hr (fun t ht9 hW => ⟨⟨((u2 (u2 (u2 (u2 (u2 iv 12 19 n18) 12 20 n32) 12 21 n33) 12 22 n34) 12 48 (iv 12 48)), (u2 (u2 lv 12 17 n19) 12 18 n20), (u2 fa 12 49 (fa 12 49)), la), rfl, ⟨(fa 12 49), n18, n32, n33, n34, (iv 12 48), n19, n20, (hI.1 12 48), (show (n32 : Int32).toInt = -1 from by omega), (show (n33 : Int32).toInt = -1 from by omega), (show (n34 : Int32).toInt = -1 from by omega), (show ((iv 12 48) : Int32).toInt ≤ (iv 12 48).toInt + 1 from by omega), rfl⟩, by rw [ht9]; exact hP9, hD9⟩, hS.F ht9⟩) hS.2.2 dX12_tryCause_169
      · exact absurd rfl c35
    · have fc30 := z_nle (rfl : (r17).toInt = _) (by decide : (0 : Int32).toInt = 0) c30
      refine lv_iload hx hb dX12_tryCause_80 (lv_at hl 0 rfl) ?_
      refine lv_iload hx hb dX12_tryCause_82 (lv_at hl 10 rfl) ?_
      refine lv_if_ge (tgt := 91) hx hb dX12_tryCause_84 (by decide) (fun c36 => ?_) (fun c36 => ?_)
      · have fc36 := z_le (by decide : (0 : Int32).toInt = 0) (rfl : (n).toInt = _) c36
        refine lv_iconst (v := 1) hx hb dX12_tryCause_91 (by decide) ?_
        refine lv_icmp_lt (tgt := 108) hx hb dX12_tryCause_92 (by decide) (fun c37 => ?_) (fun c37 => ?_)
        · have fc37 := z_lt (rfl : (v23).toInt = _) (by decide : (1 : Int32).toInt = 1) c37
          refine lv_iconst (v := 0) hx hb dX12_tryCause_108 (by decide) ?_
          refine lv_istore (lv' := [(11, .int 0), (10, .int v23), (9, .int r17), (8, .int r13), (7, .int r5), (6, .int r1), (0, .ref h), (1, .int a), (2, .int b), (3, .int d), (4, .int k), (5, .int n)]) hx hb dX12_tryCause_109 hl (by decide) rfl (fun ls hl => ?_)
          refine lv_aload_n hx hb dX12_tryCause_111 rfl (lv_at hl 6 rfl) ?_
          refine lv_iconst (v := (-1)) hx hb dX12_tryCause_112 (by decide) ?_
          refine lv_iconst (v := (-1)) hx hb dX12_tryCause_113 (by decide) ?_
          refine lv_iconst (v := (-1)) hx hb dX12_tryCause_114 (by decide) ?_
          have hFc := free_all hD hS hA
          refine va_callv (va_runV (As := [.int (-1), .int (-1), .int (-1)]) (rest := []) ⟨hx, hb, hml, hown, ht⟩ (c_X12_leaveOut_x l dC dI H.size h g ca (u2 (u2 (u2 (u2 iv 12 19 n18) 12 20 n10) 12 21 n11) 12 22 n12) (u2 (u2 lv 12 17 n19) 12 18 n20) fa la (IX_i (c := 12) (k := 22) (IX_i (c := 12) (k := 21) (IX_i (c := 12) (k := 20) (IX_i (c := 12) (k := 19) hI (full_i _)) (full_i _)) (full_i _)) (full_i _)) (-1) (-1) (-1)) (kV 3 ht m_1590 m_1592 m_67 m_89 m_1593 rfl rfl hd_X12_leaveOut_v ⟨Nat.le_of_ble_eq_true rfl, Nat.le_of_ble_eq_true rfl⟩) (vW hP hK hD (rM_12 hK hP)) rfl rfl hl.1 rfl (lv_room (Nat.le_of_ble_eq_true rfl)) dX12_tryCause_115 ⟨Nat.le_of_ble_eq_true rfl, Nat.le_of_ble_eq_true rfl⟩) hS (fun q _ h => hFc q h) hFc (fun u t H1 locs ht9 hvm hr38 hB hz1 hk1 hS => ?_)
          obtain ⟨n39, n40, n41, xr38_0, xr38_1, xr38_2, rfl⟩ := hr38
          obtain ⟨hP, hD⟩ := hB
          rw [ht9] at hP
          generalize H1 = H at hP hS ⊢
          have hP : va_P (dC, dI) classes (WM h g ca (u2 (u2 (u2 (u2 iv 12 19 n18) 12 20 n39) 12 21 n40) 12 22 n41) (u2 (u2 lv 12 17 n19) 12 18 n20) fa la) H := hP
          have hD : va_D A (WM h g ca (u2 (u2 (u2 (u2 iv 12 19 n18) 12 20 n39) 12 21 n40) 12 22 n41) (u2 (u2 lv 12 17 n19) 12 18 n20) fa la) := (show va_D _ (WM h g ca (u2 (u2 (u2 (u2 iv 12 19 n18) 12 20 n39) 12 21 n40) 12 22 n41) (u2 (u2 lv 12 17 n19) 12 18 n20) fa la) from hD).weaken (fun _ _ _ h => hFc _ h)
          have : ((-1) : Int32).toInt = (-1) := (by decide)
          have xr38_0 : (n39 : Int32).toInt = ((-1) : Int32).toInt := xr38_0
          have xr38_1 : (n40 : Int32).toInt = ((-1) : Int32).toInt := xr38_1
          have xr38_2 : (n41 : Int32).toInt = ((-1) : Int32).toInt := xr38_2
          refine lv_iload hx hb dX12_tryCause_118 (lv_at hl 0 rfl) ?_
          refine lv_if_eq (tgt := 169) hx hb dX12_tryCause_120 (by decide) (fun c42 => ?_) (fun c42 => ?_)
          · skip
            have i_12_48 : 0 ≤ (iv 12 48).toInt ∧ (iv 12 48).toInt ≤ 72 := hI.1 12 48
            have hP9 : va_P (dC, dI) classes (WM h g ca (u2 (u2 (u2 (u2 (u2 iv 12 19 n18) 12 20 n39) 12 21 n40) 12 22 n41) 12 48 (iv 12 48)) (u2 (u2 lv 12 17 n19) 12 18 n20) (u2 fa 12 49 (fa 12 49)) la) H := hP
            have hD9 : va_D A (WM h g ca (u2 (u2 (u2 (u2 (u2 iv 12 19 n18) 12 20 n39) 12 21 n40) 12 22 n41) 12 48 (iv 12 48)) (u2 (u2 lv 12 17 n19) 12 18 n20) (u2 fa 12 49 (fa 12 49)) la) := hD
            exact W.vret hx hb hr (fun t ht9 hW => ⟨⟨((u2 (u2 (u2 (u2 (u2 iv 12 19 n18) 12 20 n39) 12 21 n40) 12 22 n41) 12 48 (iv 12 48)), (u2 (u2 lv 12 17 n19) 12 18 n20), (u2 fa 12 49 (fa 12 49)), la), rfl, ⟨(fa 12 49), n18, n39, n40, n41, (iv 12 48), n19, n20, (hI.1 12 48), (show (n39 : Int32).toInt = -1 from by omega), (show (n40 : Int32).toInt = -1 from by omega), (show (n41 : Int32).toInt = -1 from by omega), (show ((iv 12 48) : Int32).toInt ≤ (iv 12 48).toInt + 1 from by omega), rfl⟩, by rw [ht9]; exact hP9, hD9⟩, hS.F ht9⟩) hS.2.2 dX12_tryCause_169
          · exact absurd rfl c42
        · have fc37 := z_nlt (rfl : (v23).toInt = _) (by decide : (1 : Int32).toInt = 1) c37
          refine lv_aload_n hx hb dX12_tryCause_95 rfl (lv_at hl 5 rfl) ?_
          refine lv_iload_n hx hb dX12_tryCause_96 rfl (lv_at hl 6 rfl) ?_
          refine lv_iload_n hx hb dX12_tryCause_97 rfl (lv_at hl 7 rfl) ?_
          have hFc := free_all hD hS hA
          refine va_calli (va_runV (As := [.int a, .int b]) (rest := []) ⟨hx, hb, hml, hown, ht⟩ (c_X12_doLooksPart_x l dC dI H.size h g ca (u2 (u2 (u2 (u2 iv 12 19 n18) 12 20 n10) 12 21 n11) 12 22 n12) (u2 (u2 lv 12 17 n19) 12 18 n20) fa la (IX_i (c := 12) (k := 22) (IX_i (c := 12) (k := 21) (IX_i (c := 12) (k := 20) (IX_i (c := 12) (k := 19) hI (full_i _)) (full_i _)) (full_i _)) (full_i _)) a b hJR) (kV 2 ht m_1582 m_1584 m_65 m_89 m_1585 rfl rfl hd_X12_doLooksPart_v ⟨Nat.le_of_ble_eq_true rfl, Nat.le_of_ble_eq_true rfl⟩) (vW hP hK hD (rM_12 hK hP)) rfl rfl hl.1 rfl (lv_room (Nat.le_of_ble_eq_true rfl)) dX12_tryCause_98 ⟨Nat.le_of_ble_eq_true rfl, Nat.le_of_ble_eq_true rfl⟩) hS (fun q _ h => hFc q h) hFc (fun r43 u t H1 locs ht9 hvm hr43 hB hz1 hk1 hS => ?_)
          obtain ⟨n44, n45, n46, hr43, rfl⟩ := hr43
          obtain ⟨hP, hD⟩ := hB
          rw [ht9] at hP
          generalize H1 = H at hP hS ⊢
          have hP : va_P (dC, dI) classes (WM h g ca (u2 (u2 (u2 (u2 iv 12 19 n44) 12 20 n10) 12 21 n11) 12 22 n12) (u2 (u2 lv 12 17 n45) 12 18 n46) fa la) H := hP
          have hD : va_D A (WM h g ca (u2 (u2 (u2 (u2 iv 12 19 n44) 12 20 n10) 12 21 n11) 12 22 n12) (u2 (u2 lv 12 17 n45) 12 18 n46) fa la) := (show va_D _ (WM h g ca (u2 (u2 (u2 (u2 iv 12 19 n44) 12 20 n10) 12 21 n11) 12 22 n12) (u2 (u2 lv 12 17 n45) 12 18 n46) fa la) from hD).weaken (fun _ _ _ h => hFc _ h)
          refine lv_if_ne (tgt := 108) hx hb dX12_tryCause_101 (by decide) (fun c47 => ?_) (fun c47 => ?_)
          · have fc47 := z_ne (rfl : (r43).toInt = _) (by decide : (0 : Int32).toInt = 0) c47
            refine lv_iconst (v := 0) hx hb dX12_tryCause_108 (by decide) ?_
            refine lv_istore (lv' := [(11, .int 0), (10, .int v23), (9, .int r17), (8, .int r13), (7, .int r5), (6, .int r1), (0, .ref h), (1, .int a), (2, .int b), (3, .int d), (4, .int k), (5, .int n)]) hx hb dX12_tryCause_109 hl (by decide) rfl (fun ls hl => ?_)
            refine lv_aload_n hx hb dX12_tryCause_111 rfl (lv_at hl 6 rfl) ?_
            refine lv_iconst (v := (-1)) hx hb dX12_tryCause_112 (by decide) ?_
            refine lv_iconst (v := (-1)) hx hb dX12_tryCause_113 (by decide) ?_
            refine lv_iconst (v := (-1)) hx hb dX12_tryCause_114 (by decide) ?_
            have hFc := free_all hD hS hA
            refine va_callv (va_runV (As := [.int (-1), .int (-1), .int (-1)]) (rest := []) ⟨hx, hb, hml, hown, ht⟩ (c_X12_leaveOut_x l dC dI H.size h g ca (u2 (u2 (u2 (u2 iv 12 19 n44) 12 20 n10) 12 21 n11) 12 22 n12) (u2 (u2 lv 12 17 n45) 12 18 n46) fa la (IX_i (c := 12) (k := 22) (IX_i (c := 12) (k := 21) (IX_i (c := 12) (k := 20) (IX_i (c := 12) (k := 19) hI (full_i _)) (full_i _)) (full_i _)) (full_i _)) (-1) (-1) (-1)) (kV 3 ht m_1590 m_1592 m_67 m_89 m_1593 rfl rfl hd_X12_leaveOut_v ⟨Nat.le_of_ble_eq_true rfl, Nat.le_of_ble_eq_true rfl⟩) (vW hP hK hD (rM_12 hK hP)) rfl rfl hl.1 rfl (lv_room (Nat.le_of_ble_eq_true rfl)) dX12_tryCause_115 ⟨Nat.le_of_ble_eq_true rfl, Nat.le_of_ble_eq_true rfl⟩) hS (fun q _ h => hFc q h) hFc (fun u t H1 locs ht9 hvm hr48 hB hz1 hk1 hS => ?_)
            obtain ⟨n49, n50, n51, xr48_0, xr48_1, xr48_2, rfl⟩ := hr48
            obtain ⟨hP, hD⟩ := hB
            rw [ht9] at hP
            generalize H1 = H at hP hS ⊢
            have hP : va_P (dC, dI) classes (WM h g ca (u2 (u2 (u2 (u2 iv 12 19 n44) 12 20 n49) 12 21 n50) 12 22 n51) (u2 (u2 lv 12 17 n45) 12 18 n46) fa la) H := hP
            have hD : va_D A (WM h g ca (u2 (u2 (u2 (u2 iv 12 19 n44) 12 20 n49) 12 21 n50) 12 22 n51) (u2 (u2 lv 12 17 n45) 12 18 n46) fa la) := (show va_D _ (WM h g ca (u2 (u2 (u2 (u2 iv 12 19 n44) 12 20 n49) 12 21 n50) 12 22 n51) (u2 (u2 lv 12 17 n45) 12 18 n46) fa la) from hD).weaken (fun _ _ _ h => hFc _ h)
            have : ((-1) : Int32).toInt = (-1) := (by decide)
            have xr48_0 : (n49 : Int32).toInt = ((-1) : Int32).toInt := xr48_0
            have xr48_1 : (n50 : Int32).toInt = ((-1) : Int32).toInt := xr48_1
            have xr48_2 : (n51 : Int32).toInt = ((-1) : Int32).toInt := xr48_2
            refine lv_iload hx hb dX12_tryCause_118 (lv_at hl 0 rfl) ?_
            refine lv_if_eq (tgt := 169) hx hb dX12_tryCause_120 (by decide) (fun c52 => ?_) (fun c52 => ?_)
            · skip
              have i_12_48 : 0 ≤ (iv 12 48).toInt ∧ (iv 12 48).toInt ≤ 72 := hI.1 12 48
              have hP9 : va_P (dC, dI) classes (WM h g ca (u2 (u2 (u2 (u2 (u2 iv 12 19 n44) 12 20 n49) 12 21 n50) 12 22 n51) 12 48 (iv 12 48)) (u2 (u2 lv 12 17 n45) 12 18 n46) (u2 fa 12 49 (fa 12 49)) la) H := hP
              have hD9 : va_D A (WM h g ca (u2 (u2 (u2 (u2 (u2 iv 12 19 n44) 12 20 n49) 12 21 n50) 12 22 n51) 12 48 (iv 12 48)) (u2 (u2 lv 12 17 n45) 12 18 n46) (u2 fa 12 49 (fa 12 49)) la) := hD
              exact W.vret hx hb hr (fun t ht9 hW => ⟨⟨((u2 (u2 (u2 (u2 (u2 iv 12 19 n44) 12 20 n49) 12 21 n50) 12 22 n51) 12 48 (iv 12 48)), (u2 (u2 lv 12 17 n45) 12 18 n46), (u2 fa 12 49 (fa 12 49)), la), rfl, ⟨(fa 12 49), n44, n49, n50, n51, (iv 12 48), n45, n46, (hI.1 12 48), (show (n49 : Int32).toInt = -1 from by omega), (show (n50 : Int32).toInt = -1 from by omega), (show (n51 : Int32).toInt = -1 from by omega), (show ((iv 12 48) : Int32).toInt ≤ (iv 12 48).toInt + 1 from by omega), rfl⟩, by rw [ht9]; exact hP9, hD9⟩, hS.F ht9⟩) hS.2.2 dX12_tryCause_169
            · exact absurd rfl c52
          · have fc47 := z_eq (rfl : (r43).toInt = _) (by decide : (0 : Int32).toInt = 0) c47
            refine lv_iconst (v := 1) hx hb dX12_tryCause_104 (by decide) ?_
            refine lv_goto (tgt := 109) hx hb dX12_tryCause_105 (by decide) ?_
            refine lv_istore (lv' := [(11, .int 1), (10, .int v23), (9, .int r17), (8, .int r13), (7, .int r5), (6, .int r1), (0, .ref h), (1, .int a), (2, .int b), (3, .int d), (4, .int k), (5, .int n)]) hx hb dX12_tryCause_109 hl (by decide) rfl (fun ls hl => ?_)
            refine lv_aload_n hx hb dX12_tryCause_111 rfl (lv_at hl 6 rfl) ?_
            refine lv_iconst (v := (-1)) hx hb dX12_tryCause_112 (by decide) ?_
            refine lv_iconst (v := (-1)) hx hb dX12_tryCause_113 (by decide) ?_
            refine lv_iconst (v := (-1)) hx hb dX12_tryCause_114 (by decide) ?_
            have hFc := free_all hD hS hA
            refine va_callv (va_runV (As := [.int (-1), .int (-1), .int (-1)]) (rest := []) ⟨hx, hb, hml, hown, ht⟩ (c_X12_leaveOut_x l dC dI H.size h g ca (u2 (u2 (u2 (u2 iv 12 19 n44) 12 20 n10) 12 21 n11) 12 22 n12) (u2 (u2 lv 12 17 n45) 12 18 n46) fa la (IX_i (c := 12) (k := 22) (IX_i (c := 12) (k := 21) (IX_i (c := 12) (k := 20) (IX_i (c := 12) (k := 19) hI (full_i _)) (full_i _)) (full_i _)) (full_i _)) (-1) (-1) (-1)) (kV 3 ht m_1590 m_1592 m_67 m_89 m_1593 rfl rfl hd_X12_leaveOut_v ⟨Nat.le_of_ble_eq_true rfl, Nat.le_of_ble_eq_true rfl⟩) (vW hP hK hD (rM_12 hK hP)) rfl rfl hl.1 rfl (lv_room (Nat.le_of_ble_eq_true rfl)) dX12_tryCause_115 ⟨Nat.le_of_ble_eq_true rfl, Nat.le_of_ble_eq_true rfl⟩) hS (fun q _ h => hFc q h) hFc (fun u t H1 locs ht9 hvm hr53 hB hz1 hk1 hS => ?_)
            obtain ⟨n54, n55, n56, xr53_0, xr53_1, xr53_2, rfl⟩ := hr53
            obtain ⟨hP, hD⟩ := hB
            rw [ht9] at hP
            generalize H1 = H at hP hS ⊢
            have hP : va_P (dC, dI) classes (WM h g ca (u2 (u2 (u2 (u2 iv 12 19 n44) 12 20 n54) 12 21 n55) 12 22 n56) (u2 (u2 lv 12 17 n45) 12 18 n46) fa la) H := hP
            have hD : va_D A (WM h g ca (u2 (u2 (u2 (u2 iv 12 19 n44) 12 20 n54) 12 21 n55) 12 22 n56) (u2 (u2 lv 12 17 n45) 12 18 n46) fa la) := (show va_D _ (WM h g ca (u2 (u2 (u2 (u2 iv 12 19 n44) 12 20 n54) 12 21 n55) 12 22 n56) (u2 (u2 lv 12 17 n45) 12 18 n46) fa la) from hD).weaken (fun _ _ _ h => hFc _ h)
            have : ((-1) : Int32).toInt = (-1) := (by decide)
            have xr53_0 : (n54 : Int32).toInt = ((-1) : Int32).toInt := xr53_0
            have xr53_1 : (n55 : Int32).toInt = ((-1) : Int32).toInt := xr53_1
            have xr53_2 : (n56 : Int32).toInt = ((-1) : Int32).toInt := xr53_2
            refine lv_iload hx hb dX12_tryCause_118 (lv_at hl 0 rfl) ?_
            refine lv_if_eq (tgt := 169) hx hb dX12_tryCause_120 (by decide) (fun c57 => ?_) (fun c57 => ?_)
            · exact absurd c57 (by decide)
            · skip
              refine lv_aload_n hx hb dX12_tryCause_123 rfl (lv_at hl 6 rfl) ?_
              refine gM_12_49 hx hb ht hown hK hP m_1188 dX12_tryCause_124 ?_
              refine lv_aload_n hx hb dX12_tryCause_127 rfl (lv_at hl 6 rfl) ?_
              have i_12_48 : 0 ≤ (iv 12 48).toInt ∧ (iv 12 48).toInt ≤ 72 := hI.1 12 48
              refine gM_12_48 hx hb ht hown hK hP m_1187 (v := (iv 12 48)) rfl dX12_tryCause_128 ?_
              refine lv_iload hx hb dX12_tryCause_131 (lv_at hl 11 rfl) ?_
              refine lv_if_lt (tgt := 144) hx hb dX12_tryCause_133 (by decide) (fun c58 => ?_) (fun c58 => ?_)
              · have fc58 := z_lt (rfl : (n).toInt = _) (by decide : (0 : Int32).toInt = 0) c58; exfalso; omega
              · skip
                refine lv_bipush (v := 100) hx hb dX12_tryCause_136 (by decide) ?_
                refine lv_iload hx hb dX12_tryCause_138 (lv_at hl 11 rfl) ?_
                refine lv_iadd hx hb dX12_tryCause_140 ?_
                refine lv_topi (fun v59 ev59 => ?_)
                refine lv_goto (tgt := 158) hx hb dX12_tryCause_141 (by decide) ?_
                refine tM_12_49 hx hb hK hP hD hS (f0 := (fa 12 49)) rfl (i := (iv 12 48)) (x := v59) (vp_in_iff.mpr ⟨by omega, by omega⟩) dX12_tryCause_158 (fun f60 ef60 H locs hP hD hS => ?_)
                have hf60 : ∀ j, inb (bA 12 49 j) (f60 j) := fun j => full_i _
                refine lv_aload_n hx hb dX12_tryCause_159 rfl (lv_at hl 6 rfl) ?_
                refine lv_dup hx hb dX12_tryCause_160 rfl ?_
                refine gM_12_48 hx hb ht hown hK hP m_1187 (v := (iv 12 48)) rfl dX12_tryCause_161 ?_
                refine lv_iconst (v := 1) hx hb dX12_tryCause_164 (by decide) ?_
                refine lv_iadd hx hb dX12_tryCause_165 ?_
                refine lv_topi (fun v61 ev61 => ?_)
                have tv61 := z_add ev61 (rfl : ((iv 12 48)).toInt = _) (by decide : (1 : Int32).toInt = 1) (by omega) (by omega)
                refine pM_12_48 (v := v61) hx hb ht hown hK hP hD hS m_1187 dX12_tryCause_166 (fun H locs hP hD hS => ?_)
                have hP9 : va_P (dC, dI) classes (WM h g ca (u2 (u2 (u2 (u2 (u2 iv 12 19 n44) 12 20 n54) 12 21 n55) 12 22 n56) 12 48 v61) (u2 (u2 lv 12 17 n45) 12 18 n46) (u2 fa 12 49 f60) la) H := hP
                have hD9 : va_D A (WM h g ca (u2 (u2 (u2 (u2 (u2 iv 12 19 n44) 12 20 n54) 12 21 n55) 12 22 n56) 12 48 v61) (u2 (u2 lv 12 17 n45) 12 18 n46) (u2 fa 12 49 f60) la) := hD
                exact W.vret hx hb hr (fun t ht9 hW => ⟨⟨((u2 (u2 (u2 (u2 (u2 iv 12 19 n44) 12 20 n54) 12 21 n55) 12 22 n56) 12 48 v61), (u2 (u2 lv 12 17 n45) 12 18 n46), (u2 fa 12 49 f60), la), rfl, ⟨f60, n44, n54, n55, n56, v61, n45, n46, (show inb (0, 72) v61 from ⟨by omega, by omega⟩), (show (n54 : Int32).toInt = -1 from by omega), (show (n55 : Int32).toInt = -1 from by omega), (show (n56 : Int32).toInt = -1 from by omega), (show (v61 : Int32).toInt ≤ (iv 12 48).toInt + 1 from by omega), rfl⟩, by rw [ht9]; exact hP9, hD9⟩, hS.F ht9⟩) hS.2.2 dX12_tryCause_169
      · have fc36 := z_nle (by decide : (0 : Int32).toInt = 0) (rfl : (n).toInt = _) c36
        refine lv_iconst (v := 2) hx hb dX12_tryCause_87 (by decide) ?_
        refine lv_goto (tgt := 92) hx hb dX12_tryCause_88 (by decide) ?_
        refine lv_icmp_lt (tgt := 108) hx hb dX12_tryCause_92 (by decide) (fun c62 => ?_) (fun c62 => ?_)
        · have fc62 := z_lt (rfl : (v23).toInt = _) (by decide : (2 : Int32).toInt = 2) c62
          refine lv_iconst (v := 0) hx hb dX12_tryCause_108 (by decide) ?_
          refine lv_istore (lv' := [(11, .int 0), (10, .int v23), (9, .int r17), (8, .int r13), (7, .int r5), (6, .int r1), (0, .ref h), (1, .int a), (2, .int b), (3, .int d), (4, .int k), (5, .int n)]) hx hb dX12_tryCause_109 hl (by decide) rfl (fun ls hl => ?_)
          refine lv_aload_n hx hb dX12_tryCause_111 rfl (lv_at hl 6 rfl) ?_
          refine lv_iconst (v := (-1)) hx hb dX12_tryCause_112 (by decide) ?_
          refine lv_iconst (v := (-1)) hx hb dX12_tryCause_113 (by decide) ?_
          refine lv_iconst (v := (-1)) hx hb dX12_tryCause_114 (by decide) ?_
          have hFc := free_all hD hS hA
          refine va_callv (va_runV (As := [.int (-1), .int (-1), .int (-1)]) (rest := []) ⟨hx, hb, hml, hown, ht⟩ (c_X12_leaveOut_x l dC dI H.size h g ca (u2 (u2 (u2 (u2 iv 12 19 n18) 12 20 n10) 12 21 n11) 12 22 n12) (u2 (u2 lv 12 17 n19) 12 18 n20) fa la (IX_i (c := 12) (k := 22) (IX_i (c := 12) (k := 21) (IX_i (c := 12) (k := 20) (IX_i (c := 12) (k := 19) hI (full_i _)) (full_i _)) (full_i _)) (full_i _)) (-1) (-1) (-1)) (kV 3 ht m_1590 m_1592 m_67 m_89 m_1593 rfl rfl hd_X12_leaveOut_v ⟨Nat.le_of_ble_eq_true rfl, Nat.le_of_ble_eq_true rfl⟩) (vW hP hK hD (rM_12 hK hP)) rfl rfl hl.1 rfl (lv_room (Nat.le_of_ble_eq_true rfl)) dX12_tryCause_115 ⟨Nat.le_of_ble_eq_true rfl, Nat.le_of_ble_eq_true rfl⟩) hS (fun q _ h => hFc q h) hFc (fun u t H1 locs ht9 hvm hr63 hB hz1 hk1 hS => ?_)
          obtain ⟨n64, n65, n66, xr63_0, xr63_1, xr63_2, rfl⟩ := hr63
          obtain ⟨hP, hD⟩ := hB
          rw [ht9] at hP
          generalize H1 = H at hP hS ⊢
          have hP : va_P (dC, dI) classes (WM h g ca (u2 (u2 (u2 (u2 iv 12 19 n18) 12 20 n64) 12 21 n65) 12 22 n66) (u2 (u2 lv 12 17 n19) 12 18 n20) fa la) H := hP
          have hD : va_D A (WM h g ca (u2 (u2 (u2 (u2 iv 12 19 n18) 12 20 n64) 12 21 n65) 12 22 n66) (u2 (u2 lv 12 17 n19) 12 18 n20) fa la) := (show va_D _ (WM h g ca (u2 (u2 (u2 (u2 iv 12 19 n18) 12 20 n64) 12 21 n65) 12 22 n66) (u2 (u2 lv 12 17 n19) 12 18 n20) fa la) from hD).weaken (fun _ _ _ h => hFc _ h)
          have : ((-1) : Int32).toInt = (-1) := (by decide)
          have xr63_0 : (n64 : Int32).toInt = ((-1) : Int32).toInt := xr63_0
          have xr63_1 : (n65 : Int32).toInt = ((-1) : Int32).toInt := xr63_1
          have xr63_2 : (n66 : Int32).toInt = ((-1) : Int32).toInt := xr63_2
          refine lv_iload hx hb dX12_tryCause_118 (lv_at hl 0 rfl) ?_
          refine lv_if_eq (tgt := 169) hx hb dX12_tryCause_120 (by decide) (fun c67 => ?_) (fun c67 => ?_)
          · skip
            have i_12_48 : 0 ≤ (iv 12 48).toInt ∧ (iv 12 48).toInt ≤ 72 := hI.1 12 48
            have hP9 : va_P (dC, dI) classes (WM h g ca (u2 (u2 (u2 (u2 (u2 iv 12 19 n18) 12 20 n64) 12 21 n65) 12 22 n66) 12 48 (iv 12 48)) (u2 (u2 lv 12 17 n19) 12 18 n20) (u2 fa 12 49 (fa 12 49)) la) H := hP
            have hD9 : va_D A (WM h g ca (u2 (u2 (u2 (u2 (u2 iv 12 19 n18) 12 20 n64) 12 21 n65) 12 22 n66) 12 48 (iv 12 48)) (u2 (u2 lv 12 17 n19) 12 18 n20) (u2 fa 12 49 (fa 12 49)) la) := hD
            exact W.vret hx hb hr (fun t ht9 hW => ⟨⟨((u2 (u2 (u2 (u2 (u2 iv 12 19 n18) 12 20 n64) 12 21 n65) 12 22 n66) 12 48 (iv 12 48)), (u2 (u2 lv 12 17 n19) 12 18 n20), (u2 fa 12 49 (fa 12 49)), la), rfl, ⟨(fa 12 49), n18, n64, n65, n66, (iv 12 48), n19, n20, (hI.1 12 48), (show (n64 : Int32).toInt = -1 from by omega), (show (n65 : Int32).toInt = -1 from by omega), (show (n66 : Int32).toInt = -1 from by omega), (show ((iv 12 48) : Int32).toInt ≤ (iv 12 48).toInt + 1 from by omega), rfl⟩, by rw [ht9]; exact hP9, hD9⟩, hS.F ht9⟩) hS.2.2 dX12_tryCause_169
          · exact absurd rfl c67
        · have fc62 := z_nlt (rfl : (v23).toInt = _) (by decide : (2 : Int32).toInt = 2) c62
          refine lv_aload_n hx hb dX12_tryCause_95 rfl (lv_at hl 5 rfl) ?_
          refine lv_iload_n hx hb dX12_tryCause_96 rfl (lv_at hl 6 rfl) ?_
          refine lv_iload_n hx hb dX12_tryCause_97 rfl (lv_at hl 7 rfl) ?_
          have hFc := free_all hD hS hA
          refine va_calli (va_runV (As := [.int a, .int b]) (rest := []) ⟨hx, hb, hml, hown, ht⟩ (c_X12_doLooksPart_x l dC dI H.size h g ca (u2 (u2 (u2 (u2 iv 12 19 n18) 12 20 n10) 12 21 n11) 12 22 n12) (u2 (u2 lv 12 17 n19) 12 18 n20) fa la (IX_i (c := 12) (k := 22) (IX_i (c := 12) (k := 21) (IX_i (c := 12) (k := 20) (IX_i (c := 12) (k := 19) hI (full_i _)) (full_i _)) (full_i _)) (full_i _)) a b hJR) (kV 2 ht m_1582 m_1584 m_65 m_89 m_1585 rfl rfl hd_X12_doLooksPart_v ⟨Nat.le_of_ble_eq_true rfl, Nat.le_of_ble_eq_true rfl⟩) (vW hP hK hD (rM_12 hK hP)) rfl rfl hl.1 rfl (lv_room (Nat.le_of_ble_eq_true rfl)) dX12_tryCause_98 ⟨Nat.le_of_ble_eq_true rfl, Nat.le_of_ble_eq_true rfl⟩) hS (fun q _ h => hFc q h) hFc (fun r68 u t H1 locs ht9 hvm hr68 hB hz1 hk1 hS => ?_)
          obtain ⟨n69, n70, n71, hr68, rfl⟩ := hr68
          obtain ⟨hP, hD⟩ := hB
          rw [ht9] at hP
          generalize H1 = H at hP hS ⊢
          have hP : va_P (dC, dI) classes (WM h g ca (u2 (u2 (u2 (u2 iv 12 19 n69) 12 20 n10) 12 21 n11) 12 22 n12) (u2 (u2 lv 12 17 n70) 12 18 n71) fa la) H := hP
          have hD : va_D A (WM h g ca (u2 (u2 (u2 (u2 iv 12 19 n69) 12 20 n10) 12 21 n11) 12 22 n12) (u2 (u2 lv 12 17 n70) 12 18 n71) fa la) := (show va_D _ (WM h g ca (u2 (u2 (u2 (u2 iv 12 19 n69) 12 20 n10) 12 21 n11) 12 22 n12) (u2 (u2 lv 12 17 n70) 12 18 n71) fa la) from hD).weaken (fun _ _ _ h => hFc _ h)
          refine lv_if_ne (tgt := 108) hx hb dX12_tryCause_101 (by decide) (fun c72 => ?_) (fun c72 => ?_)
          · have fc72 := z_ne (rfl : (r68).toInt = _) (by decide : (0 : Int32).toInt = 0) c72
            refine lv_iconst (v := 0) hx hb dX12_tryCause_108 (by decide) ?_
            refine lv_istore (lv' := [(11, .int 0), (10, .int v23), (9, .int r17), (8, .int r13), (7, .int r5), (6, .int r1), (0, .ref h), (1, .int a), (2, .int b), (3, .int d), (4, .int k), (5, .int n)]) hx hb dX12_tryCause_109 hl (by decide) rfl (fun ls hl => ?_)
            refine lv_aload_n hx hb dX12_tryCause_111 rfl (lv_at hl 6 rfl) ?_
            refine lv_iconst (v := (-1)) hx hb dX12_tryCause_112 (by decide) ?_
            refine lv_iconst (v := (-1)) hx hb dX12_tryCause_113 (by decide) ?_
            refine lv_iconst (v := (-1)) hx hb dX12_tryCause_114 (by decide) ?_
            have hFc := free_all hD hS hA
            refine va_callv (va_runV (As := [.int (-1), .int (-1), .int (-1)]) (rest := []) ⟨hx, hb, hml, hown, ht⟩ (c_X12_leaveOut_x l dC dI H.size h g ca (u2 (u2 (u2 (u2 iv 12 19 n69) 12 20 n10) 12 21 n11) 12 22 n12) (u2 (u2 lv 12 17 n70) 12 18 n71) fa la (IX_i (c := 12) (k := 22) (IX_i (c := 12) (k := 21) (IX_i (c := 12) (k := 20) (IX_i (c := 12) (k := 19) hI (full_i _)) (full_i _)) (full_i _)) (full_i _)) (-1) (-1) (-1)) (kV 3 ht m_1590 m_1592 m_67 m_89 m_1593 rfl rfl hd_X12_leaveOut_v ⟨Nat.le_of_ble_eq_true rfl, Nat.le_of_ble_eq_true rfl⟩) (vW hP hK hD (rM_12 hK hP)) rfl rfl hl.1 rfl (lv_room (Nat.le_of_ble_eq_true rfl)) dX12_tryCause_115 ⟨Nat.le_of_ble_eq_true rfl, Nat.le_of_ble_eq_true rfl⟩) hS (fun q _ h => hFc q h) hFc (fun u t H1 locs ht9 hvm hr73 hB hz1 hk1 hS => ?_)
            obtain ⟨n74, n75, n76, xr73_0, xr73_1, xr73_2, rfl⟩ := hr73
            obtain ⟨hP, hD⟩ := hB
            rw [ht9] at hP
            generalize H1 = H at hP hS ⊢
            have hP : va_P (dC, dI) classes (WM h g ca (u2 (u2 (u2 (u2 iv 12 19 n69) 12 20 n74) 12 21 n75) 12 22 n76) (u2 (u2 lv 12 17 n70) 12 18 n71) fa la) H := hP
            have hD : va_D A (WM h g ca (u2 (u2 (u2 (u2 iv 12 19 n69) 12 20 n74) 12 21 n75) 12 22 n76) (u2 (u2 lv 12 17 n70) 12 18 n71) fa la) := (show va_D _ (WM h g ca (u2 (u2 (u2 (u2 iv 12 19 n69) 12 20 n74) 12 21 n75) 12 22 n76) (u2 (u2 lv 12 17 n70) 12 18 n71) fa la) from hD).weaken (fun _ _ _ h => hFc _ h)
            have : ((-1) : Int32).toInt = (-1) := (by decide)
            have xr73_0 : (n74 : Int32).toInt = ((-1) : Int32).toInt := xr73_0
            have xr73_1 : (n75 : Int32).toInt = ((-1) : Int32).toInt := xr73_1
            have xr73_2 : (n76 : Int32).toInt = ((-1) : Int32).toInt := xr73_2
            refine lv_iload hx hb dX12_tryCause_118 (lv_at hl 0 rfl) ?_
            refine lv_if_eq (tgt := 169) hx hb dX12_tryCause_120 (by decide) (fun c77 => ?_) (fun c77 => ?_)
            · skip
              have i_12_48 : 0 ≤ (iv 12 48).toInt ∧ (iv 12 48).toInt ≤ 72 := hI.1 12 48
              have hP9 : va_P (dC, dI) classes (WM h g ca (u2 (u2 (u2 (u2 (u2 iv 12 19 n69) 12 20 n74) 12 21 n75) 12 22 n76) 12 48 (iv 12 48)) (u2 (u2 lv 12 17 n70) 12 18 n71) (u2 fa 12 49 (fa 12 49)) la) H := hP
              have hD9 : va_D A (WM h g ca (u2 (u2 (u2 (u2 (u2 iv 12 19 n69) 12 20 n74) 12 21 n75) 12 22 n76) 12 48 (iv 12 48)) (u2 (u2 lv 12 17 n70) 12 18 n71) (u2 fa 12 49 (fa 12 49)) la) := hD
              exact W.vret hx hb hr (fun t ht9 hW => ⟨⟨((u2 (u2 (u2 (u2 (u2 iv 12 19 n69) 12 20 n74) 12 21 n75) 12 22 n76) 12 48 (iv 12 48)), (u2 (u2 lv 12 17 n70) 12 18 n71), (u2 fa 12 49 (fa 12 49)), la), rfl, ⟨(fa 12 49), n69, n74, n75, n76, (iv 12 48), n70, n71, (hI.1 12 48), (show (n74 : Int32).toInt = -1 from by omega), (show (n75 : Int32).toInt = -1 from by omega), (show (n76 : Int32).toInt = -1 from by omega), (show ((iv 12 48) : Int32).toInt ≤ (iv 12 48).toInt + 1 from by omega), rfl⟩, by rw [ht9]; exact hP9, hD9⟩, hS.F ht9⟩) hS.2.2 dX12_tryCause_169
            · exact absurd rfl c77
          · have fc72 := z_eq (rfl : (r68).toInt = _) (by decide : (0 : Int32).toInt = 0) c72
            refine lv_iconst (v := 1) hx hb dX12_tryCause_104 (by decide) ?_
            refine lv_goto (tgt := 109) hx hb dX12_tryCause_105 (by decide) ?_
            refine lv_istore (lv' := [(11, .int 1), (10, .int v23), (9, .int r17), (8, .int r13), (7, .int r5), (6, .int r1), (0, .ref h), (1, .int a), (2, .int b), (3, .int d), (4, .int k), (5, .int n)]) hx hb dX12_tryCause_109 hl (by decide) rfl (fun ls hl => ?_)
            refine lv_aload_n hx hb dX12_tryCause_111 rfl (lv_at hl 6 rfl) ?_
            refine lv_iconst (v := (-1)) hx hb dX12_tryCause_112 (by decide) ?_
            refine lv_iconst (v := (-1)) hx hb dX12_tryCause_113 (by decide) ?_
            refine lv_iconst (v := (-1)) hx hb dX12_tryCause_114 (by decide) ?_
            have hFc := free_all hD hS hA
            refine va_callv (va_runV (As := [.int (-1), .int (-1), .int (-1)]) (rest := []) ⟨hx, hb, hml, hown, ht⟩ (c_X12_leaveOut_x l dC dI H.size h g ca (u2 (u2 (u2 (u2 iv 12 19 n69) 12 20 n10) 12 21 n11) 12 22 n12) (u2 (u2 lv 12 17 n70) 12 18 n71) fa la (IX_i (c := 12) (k := 22) (IX_i (c := 12) (k := 21) (IX_i (c := 12) (k := 20) (IX_i (c := 12) (k := 19) hI (full_i _)) (full_i _)) (full_i _)) (full_i _)) (-1) (-1) (-1)) (kV 3 ht m_1590 m_1592 m_67 m_89 m_1593 rfl rfl hd_X12_leaveOut_v ⟨Nat.le_of_ble_eq_true rfl, Nat.le_of_ble_eq_true rfl⟩) (vW hP hK hD (rM_12 hK hP)) rfl rfl hl.1 rfl (lv_room (Nat.le_of_ble_eq_true rfl)) dX12_tryCause_115 ⟨Nat.le_of_ble_eq_true rfl, Nat.le_of_ble_eq_true rfl⟩) hS (fun q _ h => hFc q h) hFc (fun u t H1 locs ht9 hvm hr78 hB hz1 hk1 hS => ?_)
            obtain ⟨n79, n80, n81, xr78_0, xr78_1, xr78_2, rfl⟩ := hr78
            obtain ⟨hP, hD⟩ := hB
            rw [ht9] at hP
            generalize H1 = H at hP hS ⊢
            have hP : va_P (dC, dI) classes (WM h g ca (u2 (u2 (u2 (u2 iv 12 19 n69) 12 20 n79) 12 21 n80) 12 22 n81) (u2 (u2 lv 12 17 n70) 12 18 n71) fa la) H := hP
            have hD : va_D A (WM h g ca (u2 (u2 (u2 (u2 iv 12 19 n69) 12 20 n79) 12 21 n80) 12 22 n81) (u2 (u2 lv 12 17 n70) 12 18 n71) fa la) := (show va_D _ (WM h g ca (u2 (u2 (u2 (u2 iv 12 19 n69) 12 20 n79) 12 21 n80) 12 22 n81) (u2 (u2 lv 12 17 n70) 12 18 n71) fa la) from hD).weaken (fun _ _ _ h => hFc _ h)
            have : ((-1) : Int32).toInt = (-1) := (by decide)
            have xr78_0 : (n79 : Int32).toInt = ((-1) : Int32).toInt := xr78_0
            have xr78_1 : (n80 : Int32).toInt = ((-1) : Int32).toInt := xr78_1
            have xr78_2 : (n81 : Int32).toInt = ((-1) : Int32).toInt := xr78_2
            refine lv_iload hx hb dX12_tryCause_118 (lv_at hl 0 rfl) ?_
            refine lv_if_eq (tgt := 169) hx hb dX12_tryCause_120 (by decide) (fun c82 => ?_) (fun c82 => ?_)
            · exact absurd c82 (by decide)
            · skip
              refine lv_aload_n hx hb dX12_tryCause_123 rfl (lv_at hl 6 rfl) ?_
              refine gM_12_49 hx hb ht hown hK hP m_1188 dX12_tryCause_124 ?_
              refine lv_aload_n hx hb dX12_tryCause_127 rfl (lv_at hl 6 rfl) ?_
              have i_12_48 : 0 ≤ (iv 12 48).toInt ∧ (iv 12 48).toInt ≤ 72 := hI.1 12 48
              refine gM_12_48 hx hb ht hown hK hP m_1187 (v := (iv 12 48)) rfl dX12_tryCause_128 ?_
              refine lv_iload hx hb dX12_tryCause_131 (lv_at hl 11 rfl) ?_
              refine lv_if_lt (tgt := 144) hx hb dX12_tryCause_133 (by decide) (fun c83 => ?_) (fun c83 => ?_)
              · skip
                refine lv_iload hx hb dX12_tryCause_144 (lv_at hl 10 rfl) ?_
                refine lv_if_lt (tgt := 157) hx hb dX12_tryCause_146 (by decide) (fun c84 => ?_) (fun c84 => ?_)
                · have fc84 := z_lt (rfl : (k).toInt = _) (by decide : (0 : Int32).toInt = 0) c84
                  refine lv_iload_n hx hb dX12_tryCause_157 rfl (lv_at hl 9 rfl) ?_
                  refine tM_12_49 hx hb hK hP hD hS (f0 := (fa 12 49)) rfl (i := (iv 12 48)) (x := d) (vp_in_iff.mpr ⟨by omega, by omega⟩) dX12_tryCause_158 (fun f85 ef85 H locs hP hD hS => ?_)
                  have hf85 : ∀ j, inb (bA 12 49 j) (f85 j) := fun j => full_i _
                  refine lv_aload_n hx hb dX12_tryCause_159 rfl (lv_at hl 6 rfl) ?_
                  refine lv_dup hx hb dX12_tryCause_160 rfl ?_
                  refine gM_12_48 hx hb ht hown hK hP m_1187 (v := (iv 12 48)) rfl dX12_tryCause_161 ?_
                  refine lv_iconst (v := 1) hx hb dX12_tryCause_164 (by decide) ?_
                  refine lv_iadd hx hb dX12_tryCause_165 ?_
                  refine lv_topi (fun v86 ev86 => ?_)
                  have tv86 := z_add ev86 (rfl : ((iv 12 48)).toInt = _) (by decide : (1 : Int32).toInt = 1) (by omega) (by omega)
                  refine pM_12_48 (v := v86) hx hb ht hown hK hP hD hS m_1187 dX12_tryCause_166 (fun H locs hP hD hS => ?_)
                  have hP9 : va_P (dC, dI) classes (WM h g ca (u2 (u2 (u2 (u2 (u2 iv 12 19 n69) 12 20 n79) 12 21 n80) 12 22 n81) 12 48 v86) (u2 (u2 lv 12 17 n70) 12 18 n71) (u2 fa 12 49 f85) la) H := hP
                  have hD9 : va_D A (WM h g ca (u2 (u2 (u2 (u2 (u2 iv 12 19 n69) 12 20 n79) 12 21 n80) 12 22 n81) 12 48 v86) (u2 (u2 lv 12 17 n70) 12 18 n71) (u2 fa 12 49 f85) la) := hD
                  exact W.vret hx hb hr (fun t ht9 hW => ⟨⟨((u2 (u2 (u2 (u2 (u2 iv 12 19 n69) 12 20 n79) 12 21 n80) 12 22 n81) 12 48 v86), (u2 (u2 lv 12 17 n70) 12 18 n71), (u2 fa 12 49 f85), la), rfl, ⟨f85, n69, n79, n80, n81, v86, n70, n71, (show inb (0, 72) v86 from ⟨by omega, by omega⟩), (show (n79 : Int32).toInt = -1 from by omega), (show (n80 : Int32).toInt = -1 from by omega), (show (n81 : Int32).toInt = -1 from by omega), (show (v86 : Int32).toInt ≤ (iv 12 48).toInt + 1 from by omega), rfl⟩, by rw [ht9]; exact hP9, hD9⟩, hS.F ht9⟩) hS.2.2 dX12_tryCause_169
                · have fc84 := z_nlt (rfl : (k).toInt = _) (by decide : (0 : Int32).toInt = 0) c84
                  refine lv_bipush (v := 10) hx hb dX12_tryCause_149 (by decide) ?_
                  refine lv_iload hx hb dX12_tryCause_151 (lv_at hl 10 rfl) ?_
                  refine lv_iadd hx hb dX12_tryCause_153 ?_
                  refine lv_topi (fun v87 ev87 => ?_)
                  refine lv_goto (tgt := 158) hx hb dX12_tryCause_154 (by decide) ?_
                  refine tM_12_49 hx hb hK hP hD hS (f0 := (fa 12 49)) rfl (i := (iv 12 48)) (x := v87) (vp_in_iff.mpr ⟨by omega, by omega⟩) dX12_tryCause_158 (fun f88 ef88 H locs hP hD hS => ?_)
                  have hf88 : ∀ j, inb (bA 12 49 j) (f88 j) := fun j => full_i _
                  refine lv_aload_n hx hb dX12_tryCause_159 rfl (lv_at hl 6 rfl) ?_
                  refine lv_dup hx hb dX12_tryCause_160 rfl ?_
                  refine gM_12_48 hx hb ht hown hK hP m_1187 (v := (iv 12 48)) rfl dX12_tryCause_161 ?_
                  refine lv_iconst (v := 1) hx hb dX12_tryCause_164 (by decide) ?_
                  refine lv_iadd hx hb dX12_tryCause_165 ?_
                  refine lv_topi (fun v89 ev89 => ?_)
                  have tv89 := z_add ev89 (rfl : ((iv 12 48)).toInt = _) (by decide : (1 : Int32).toInt = 1) (by omega) (by omega)
                  refine pM_12_48 (v := v89) hx hb ht hown hK hP hD hS m_1187 dX12_tryCause_166 (fun H locs hP hD hS => ?_)
                  have hP9 : va_P (dC, dI) classes (WM h g ca (u2 (u2 (u2 (u2 (u2 iv 12 19 n69) 12 20 n79) 12 21 n80) 12 22 n81) 12 48 v89) (u2 (u2 lv 12 17 n70) 12 18 n71) (u2 fa 12 49 f88) la) H := hP
                  have hD9 : va_D A (WM h g ca (u2 (u2 (u2 (u2 (u2 iv 12 19 n69) 12 20 n79) 12 21 n80) 12 22 n81) 12 48 v89) (u2 (u2 lv 12 17 n70) 12 18 n71) (u2 fa 12 49 f88) la) := hD
                  exact W.vret hx hb hr (fun t ht9 hW => ⟨⟨((u2 (u2 (u2 (u2 (u2 iv 12 19 n69) 12 20 n79) 12 21 n80) 12 22 n81) 12 48 v89), (u2 (u2 lv 12 17 n70) 12 18 n71), (u2 fa 12 49 f88), la), rfl, ⟨f88, n69, n79, n80, n81, v89, n70, n71, (show inb (0, 72) v89 from ⟨by omega, by omega⟩), (show (n79 : Int32).toInt = -1 from by omega), (show (n80 : Int32).toInt = -1 from by omega), (show (n81 : Int32).toInt = -1 from by omega), (show (v89 : Int32).toInt ≤ (iv 12 48).toInt + 1 from by omega), rfl⟩, by rw [ht9]; exact hP9, hD9⟩, hS.F ht9⟩) hS.2.2 dX12_tryCause_169
              · have fc83 := z_nlt (rfl : (n).toInt = _) (by decide : (0 : Int32).toInt = 0) c83; exfalso; omega
set_option maxHeartbeats 4000000 in
set_option maxRecDepth 100000 in
/-- X12_cause -/
theorem c_X12_cause (l : Launch) (dC : Nat → ClassId) (dI : Nat → Nat → Nat) (sz : Nat) (h : Nat) (g : Nat → Nat → Nat) (ca : Nat → Nat → ClassId) (iv : Nat → Nat → Int32) (lv : Nat → Nat → Int64) (fa : Nat → Nat → Nat → Int32) (la : Nat → Nat → Nat → Int64) (hI : IX iv fa) (a : Int32) (b : Int32) (hJC : JCf (iv 12 23).toInt (fa 12 25) (fa 12 26) (fa 12 27) (fa 12 28)) (hJR : JRf (iv 12 3).toInt (fa 12 7)) (hJO : (iv 12 20).toInt = -1 ∧ (iv 12 21).toInt = -1 ∧ (iv 12 22).toInt = -1) : Met l yX12_cause (wc yX12_cause cX12_cause 5 (some .int)) ({ frames := 4, cells := 0, slots := 0, locals := 108 } : Room) (pW (dC, dI) classes (WM h g ca iv lv fa la) (TM ca) sz [.ref h, .int a, .int b]) (va_Qi (fun r (u : SS) => ∃ (na_12_39 : Nat → Int32) (na_12_40 : Nat → Int32) (na_12_49 : Nat → Int32) (ni_12_19 : Int32) (ni_12_20 : Int32) (ni_12_21 : Int32) (ni_12_22 : Int32) (ni_12_41 : Int32) (ni_12_48 : Int32) (nl_12_17 : Int64) (nl_12_18 : Int64), (∀ j, inb (bA 12 39 j) (na_12_39 j)) ∧ (∀ j, inb (bA 12 40 j) (na_12_40 j)) ∧ inb (bI 12 41) ni_12_41 ∧ inb (bI 12 48) ni_12_48 ∧ ((ni_12_20).toInt = -1) ∧ ((ni_12_21).toInt = -1) ∧ ((ni_12_22).toInt = -1) ∧ (True) ∧ u = ((u2 (u2 (u2 (u2 (u2 (u2 iv 12 19 ni_12_19) 12 20 ni_12_20) 12 21 ni_12_21) 12 22 ni_12_22) 12 41 ni_12_41) 12 48 ni_12_48), (u2 (u2 lv 12 17 nl_12_17) 12 18 nl_12_18), (u2 (u2 (u2 fa 12 39 na_12_39) 12 40 na_12_40) 12 49 na_12_49), la)) (bM (dC, dI) h g ca (va_A (WM h g ca iv lv fa la) sz)) (va_A (WM h g ca iv lv fa la) sz)) 0 0 (va_A (WM h g ca iv lv fa la) sz) := by
  refine Met.ofW (cc := cX12_cause) (maxL := 5) (ret := (some .int)) (by decide) rfl ?_
  intro p e s m args below meth c s₁ B hml hv
  obtain ⟨rfl, hsz, hP, hK, hD0⟩ := hv
  have hx := B.exec
  have hb := B.bytes
  have hr := B.returns
  have ht := tb_tl (atoms_spec (ws := wc yX12_cause cX12_cause 5 (some .int)) B.pre)
  have hown : s.vm.findClass RX12 = some m.cls := findClass_of_methodNamed B.named
  have hlocks := B.notSynchronized
  subst hsz
  have hD := hD0.self (sz := s.heap.size)
  generalize hAe : va_A (WM h g ca iv lv fa la) s.heap.size = A at hD ⊢
  have hA : ∀ q : Nat, s.heap.size ≤ q → A q := fun q h => by rw [← hAe]; exact Or.inr h
  have hS : va_S A s.heap s.heap [] := va_S.rf
  have hl := lv_entry [.ref h, .int a, .int b] (n := 5) (Nat.le_of_ble_eq_true rfl)
  rw [lg_entry_eq]
  generalize (lg_sl [.ref h, .int a, .int b] ++ List.replicate (5 - (lg_sl [.ref h, .int a, .int b]).length) Slot.unset).toArray = ls at hl ⊢
  have hl : lv_has ls 5 [(0, .ref h), (1, .int a), (2, .int b)] := hl
  refine lv_aload_n hx hb dX12_cause_0 rfl (lv_at hl 0 rfl) ?_
  refine lv_iload_n hx hb dX12_cause_1 rfl (lv_at hl 1 rfl) ?_
  refine vp_callSi (W.runV (As := [.int a]) (rest := []) ⟨hx, hb, hml, hown, ht⟩ (c_X12_noBale l dC dI h g ca iv lv fa la hI a) (kV 1 ht m_1385 m_1387 m_42 m_89 m_1388 rfl rfl hd_X12_noBale_v ⟨Nat.le_of_ble_eq_true rfl, Nat.le_of_ble_eq_true rfl⟩) (vR hP hK (rM_12 hK hP)) rfl rfl hl.1 rfl (lv_room (Nat.le_of_ble_eq_true rfl)) dX12_cause_2 ⟨Nat.le_of_ble_eq_true rfl, Nat.le_of_ble_eq_true rfl⟩) (fun r1 hr1 => ?_)
  rcases hr1 with ⟨rfl, fr1⟩ | ⟨rfl, fr1⟩
  · skip
    have i_12_1 : 0 ≤ (iv 12 1).toInt ∧ (iv 12 1).toInt ≤ 10 := hI.1 12 1
    have fr1 : ¬ (0 ≤ (a : Int32).toInt ∧ (a : Int32).toInt < ((iv 12 1) : Int32).toInt) := fr1
    refine lv_if_eq (tgt := 11) hx hb dX12_cause_5 (by decide) (fun c2 => ?_) (fun c2 => ?_)
    · exact absurd c2 (by decide)
    · skip
      refine lv_ldc hx hb hown (ht _ m_1389) dX12_cause_8 ?_
      have hP9 : va_P (dC, dI) classes (WM h g ca (u2 (u2 (u2 (u2 (u2 (u2 iv 12 19 (iv 12 19)) 12 20 (iv 12 20)) 12 21 (iv 12 21)) 12 22 (iv 12 22)) 12 41 (iv 12 41)) 12 48 (iv 12 48)) (u2 (u2 lv 12 17 (lv 12 17)) 12 18 (lv 12 18)) (u2 (u2 (u2 fa 12 39 (fa 12 39)) 12 40 (fa 12 40)) 12 49 (fa 12 49)) la) s.heap := hP
      have hD9 : va_D A (WM h g ca (u2 (u2 (u2 (u2 (u2 (u2 iv 12 19 (iv 12 19)) 12 20 (iv 12 20)) 12 21 (iv 12 21)) 12 22 (iv 12 22)) 12 41 (iv 12 41)) 12 48 (iv 12 48)) (u2 (u2 lv 12 17 (lv 12 17)) 12 18 (lv 12 18)) (u2 (u2 (u2 fa 12 39 (fa 12 39)) 12 40 (fa 12 40)) 12 49 (fa 12 49)) la) := hD
      exact W.iret (v := (-100001)) hx hb hr (fun t ht9 hW => ⟨⟨(-100001), ((u2 (u2 (u2 (u2 (u2 (u2 iv 12 19 (iv 12 19)) 12 20 (iv 12 20)) 12 21 (iv 12 21)) 12 22 (iv 12 22)) 12 41 (iv 12 41)) 12 48 (iv 12 48)), (u2 (u2 lv 12 17 (lv 12 17)) 12 18 (lv 12 18)), (u2 (u2 (u2 fa 12 39 (fa 12 39)) 12 40 (fa 12 40)) 12 49 (fa 12 49)), la), rfl, ⟨(fa 12 39), (fa 12 40), (fa 12 49), (iv 12 19), (iv 12 20), (iv 12 21), (iv 12 22), (iv 12 41), (iv 12 48), (lv 12 17), (lv 12 18), (hI.2 12 39), (hI.2 12 40), (hI.1 12 41), (hI.1 12 48), (show ((iv 12 20) : Int32).toInt = -1 from by omega), (show ((iv 12 21) : Int32).toInt = -1 from by omega), (show ((iv 12 22) : Int32).toInt = -1 from by omega), trivial, rfl⟩, by rw [ht9]; exact hP9, hD9⟩, hS.F ht9⟩) hS.2.2 dX12_cause_10
  · skip
    have i_12_1 : 0 ≤ (iv 12 1).toInt ∧ (iv 12 1).toInt ≤ 10 := hI.1 12 1
    have fr1 : (0 ≤ (a : Int32).toInt ∧ (a : Int32).toInt < ((iv 12 1) : Int32).toInt) := Decidable.not_not.mp fr1
    refine lv_if_eq (tgt := 11) hx hb dX12_cause_5 (by decide) (fun c3 => ?_) (fun c3 => ?_)
    · skip
      refine lv_aload_n hx hb dX12_cause_11 rfl (lv_at hl 0 rfl) ?_
      refine lv_iconst (v := 2) hx hb dX12_cause_12 (by decide) ?_
      refine lv_aload_n hx hb dX12_cause_13 rfl (lv_at hl 0 rfl) ?_
      have i_12_0 : 0 ≤ (iv 12 0).toInt ∧ (iv 12 0).toInt ≤ 3000 := hI.1 12 0
      refine gM_12_0 hx hb ht hown hK hP m_1139 (v := (iv 12 0)) rfl dX12_cause_14 ?_
      have hFc := free_all hD hS hA
      refine va_calli (va_runV (As := [.int 2, .int (iv 12 0)]) (rest := []) ⟨hx, hb, hml, hown, ht⟩ (c_X12_forceOf l dC dI s.heap.size h g ca iv lv fa la hI 2 (iv 12 0) ⟨by decide, by decide⟩ hJC) (kV 2 ht m_1509 m_1511 m_55 m_89 m_1512 rfl rfl hd_X12_forceOf_v ⟨Nat.le_of_ble_eq_true rfl, Nat.le_of_ble_eq_true rfl⟩) (vW hP hK hD (rM_12 hK hP)) rfl rfl hl.1 rfl (lv_room (Nat.le_of_ble_eq_true rfl)) dX12_cause_17 ⟨Nat.le_of_ble_eq_true rfl, Nat.le_of_ble_eq_true rfl⟩) hS (fun q _ h => hFc q h) hFc (fun r4 u t H1 locs ht9 hvm hr4 hB hz1 hk1 hS => ?_)
      obtain ⟨n5, n6, n7, hn5, hn6, hn7, hr4, rfl⟩ := hr4
      have hn7 : 0 ≤ n7.toInt ∧ n7.toInt ≤ 8 := hn7
      obtain ⟨hP, hD⟩ := hB
      rw [ht9] at hP
      generalize H1 = H at hP hS ⊢
      have hP : va_P (dC, dI) classes (WM h g ca (u2 iv 12 41 n7) lv (u2 (u2 fa 12 39 n5) 12 40 n6) la) H := hP
      have hD : va_D A (WM h g ca (u2 iv 12 41 n7) lv (u2 (u2 fa 12 39 n5) 12 40 n6) la) := (show va_D _ (WM h g ca (u2 iv 12 41 n7) lv (u2 (u2 fa 12 39 n5) 12 40 n6) la) from hD).weaken (fun _ _ _ h => hFc _ h)
      refine lv_istore_n (lv' := [(3, .int r4), (0, .ref h), (1, .int a), (2, .int b)]) hx hb dX12_cause_20 rfl hl (by decide) rfl (fun ls hl => ?_)
      refine lv_aload_n hx hb dX12_cause_21 rfl (lv_at hl 1 rfl) ?_
      refine lv_iload_n hx hb dX12_cause_22 rfl (lv_at hl 2 rfl) ?_
      have hFc := free_all hD hS hA
      refine va_calli (va_runV (As := [.int a]) (rest := []) ⟨hx, hb, hml, hown, ht⟩ (c_X12_haveBoth_x l dC dI H.size h g ca (u2 iv 12 41 n7) lv (u2 (u2 fa 12 39 n5) 12 40 n6) la (IX_a (c := 12) (k := 40) (IX_a (c := 12) (k := 39) (IX_i (c := 12) (k := 41) hI (show inb (0, 8) n7 from ⟨by omega, by omega⟩)) hn5) hn6) a hJR) (kV 1 ht m_1578 m_1580 m_64 m_89 m_1581 rfl rfl hd_X12_haveBoth_v ⟨Nat.le_of_ble_eq_true rfl, Nat.le_of_ble_eq_true rfl⟩) (vW hP hK hD (rM_12 hK hP)) rfl rfl hl.1 rfl (lv_room (Nat.le_of_ble_eq_true rfl)) dX12_cause_23 ⟨Nat.le_of_ble_eq_true rfl, Nat.le_of_ble_eq_true rfl⟩) hS (fun q _ h => hFc q h) hFc (fun r8 u t H1 locs ht9 hvm hr8 hB hz1 hk1 hS => ?_)
      obtain ⟨n9, n10, n11, hr8, rfl⟩ := hr8
      obtain ⟨hP, hD⟩ := hB
      rw [ht9] at hP
      generalize H1 = H at hP hS ⊢
      have hP : va_P (dC, dI) classes (WM h g ca (u2 (u2 iv 12 41 n7) 12 19 n9) (u2 (u2 lv 12 17 n10) 12 18 n11) (u2 (u2 fa 12 39 n5) 12 40 n6) la) H := hP
      have hD : va_D A (WM h g ca (u2 (u2 iv 12 41 n7) 12 19 n9) (u2 (u2 lv 12 17 n10) 12 18 n11) (u2 (u2 fa 12 39 n5) 12 40 n6) la) := (show va_D _ (WM h g ca (u2 (u2 iv 12 41 n7) 12 19 n9) (u2 (u2 lv 12 17 n10) 12 18 n11) (u2 (u2 fa 12 39 n5) 12 40 n6) la) from hD).weaken (fun _ _ _ h => hFc _ h)
      refine lv_if_eq (tgt := 38) hx hb dX12_cause_26 (by decide) (fun c12 => ?_) (fun c12 => ?_)
      · have fc12 := z_eq (rfl : (r8).toInt = _) (by decide : (0 : Int32).toInt = 0) c12
        refine lv_ldc hx hb hown (ht _ m_1374) dX12_cause_38 ?_
        have hP9 : va_P (dC, dI) classes (WM h g ca (u2 (u2 (u2 (u2 (u2 (u2 iv 12 19 n9) 12 20 (iv 12 20)) 12 21 (iv 12 21)) 12 22 (iv 12 22)) 12 41 n7) 12 48 (iv 12 48)) (u2 (u2 lv 12 17 n10) 12 18 n11) (u2 (u2 (u2 fa 12 39 n5) 12 40 n6) 12 49 (fa 12 49)) la) H := hP
        have hD9 : va_D A (WM h g ca (u2 (u2 (u2 (u2 (u2 (u2 iv 12 19 n9) 12 20 (iv 12 20)) 12 21 (iv 12 21)) 12 22 (iv 12 22)) 12 41 n7) 12 48 (iv 12 48)) (u2 (u2 lv 12 17 n10) 12 18 n11) (u2 (u2 (u2 fa 12 39 n5) 12 40 n6) 12 49 (fa 12 49)) la) := hD
        exact W.iret (v := (-100003)) hx hb hr (fun t ht9 hW => ⟨⟨(-100003), ((u2 (u2 (u2 (u2 (u2 (u2 iv 12 19 n9) 12 20 (iv 12 20)) 12 21 (iv 12 21)) 12 22 (iv 12 22)) 12 41 n7) 12 48 (iv 12 48)), (u2 (u2 lv 12 17 n10) 12 18 n11), (u2 (u2 (u2 fa 12 39 n5) 12 40 n6) 12 49 (fa 12 49)), la), rfl, ⟨n5, n6, (fa 12 49), n9, (iv 12 20), (iv 12 21), (iv 12 22), n7, (iv 12 48), n10, n11, hn5, hn6, (show inb (0, 8) n7 from ⟨by omega, by omega⟩), (hI.1 12 48), (show ((iv 12 20) : Int32).toInt = -1 from by omega), (show ((iv 12 21) : Int32).toInt = -1 from by omega), (show ((iv 12 22) : Int32).toInt = -1 from by omega), trivial, rfl⟩, by rw [ht9]; exact hP9, hD9⟩, hS.F ht9⟩) hS.2.2 dX12_cause_40
      · have fc12 := z_ne (rfl : (r8).toInt = _) (by decide : (0 : Int32).toInt = 0) c12
        refine lv_aload_n hx hb dX12_cause_29 rfl (lv_at hl 1 rfl) ?_
        refine lv_iload_n hx hb dX12_cause_30 rfl (lv_at hl 2 rfl) ?_
        refine lv_iload_n hx hb dX12_cause_31 rfl (lv_at hl 0 rfl) ?_
        have hFc := free_all hD hS hA
        refine va_calli (va_runV (As := [.int a, .int r4]) (rest := []) ⟨hx, hb, hml, hown, ht⟩ (c_X12_doLooksPart_x l dC dI H.size h g ca (u2 (u2 iv 12 41 n7) 12 19 n9) (u2 (u2 lv 12 17 n10) 12 18 n11) (u2 (u2 fa 12 39 n5) 12 40 n6) la (IX_a (c := 12) (k := 40) (IX_a (c := 12) (k := 39) (IX_i (c := 12) (k := 19) (IX_i (c := 12) (k := 41) hI (show inb (0, 8) n7 from ⟨by omega, by omega⟩)) (full_i _)) hn5) hn6) a r4 hJR) (kV 2 ht m_1582 m_1584 m_65 m_89 m_1585 rfl rfl hd_X12_doLooksPart_v ⟨Nat.le_of_ble_eq_true rfl, Nat.le_of_ble_eq_true rfl⟩) (vW hP hK hD (rM_12 hK hP)) rfl rfl hl.1 rfl (lv_room (Nat.le_of_ble_eq_true rfl)) dX12_cause_32 ⟨Nat.le_of_ble_eq_true rfl, Nat.le_of_ble_eq_true rfl⟩) hS (fun q _ h => hFc q h) hFc (fun r13 u t H1 locs ht9 hvm hr13 hB hz1 hk1 hS => ?_)
        obtain ⟨n14, n15, n16, hr13, rfl⟩ := hr13
        obtain ⟨hP, hD⟩ := hB
        rw [ht9] at hP
        generalize H1 = H at hP hS ⊢
        have hP : va_P (dC, dI) classes (WM h g ca (u2 (u2 iv 12 41 n7) 12 19 n14) (u2 (u2 lv 12 17 n15) 12 18 n16) (u2 (u2 fa 12 39 n5) 12 40 n6) la) H := hP
        have hD : va_D A (WM h g ca (u2 (u2 iv 12 41 n7) 12 19 n14) (u2 (u2 lv 12 17 n15) 12 18 n16) (u2 (u2 fa 12 39 n5) 12 40 n6) la) := (show va_D _ (WM h g ca (u2 (u2 iv 12 41 n7) 12 19 n14) (u2 (u2 lv 12 17 n15) 12 18 n16) (u2 (u2 fa 12 39 n5) 12 40 n6) la) from hD).weaken (fun _ _ _ h => hFc _ h)
        refine lv_if_ne (tgt := 41) hx hb dX12_cause_35 (by decide) (fun c17 => ?_) (fun c17 => ?_)
        · have fc17 := z_ne (rfl : (r13).toInt = _) (by decide : (0 : Int32).toInt = 0) c17
          refine lv_aload_n hx hb dX12_cause_41 rfl (lv_at hl 1 rfl) ?_
          refine lv_iconst (v := 0) hx hb dX12_cause_42 (by decide) ?_
          refine pM_12_48 (v := 0) hx hb ht hown hK hP hD hS m_1187 dX12_cause_43 (fun H locs hP hD hS => ?_)
          refine lv_iconst (v := 0) hx hb dX12_cause_46 (by decide) ?_
          refine lv_istore (lv' := [(4, .int 0), (3, .int r4), (0, .ref h), (1, .int a), (2, .int b)]) hx hb dX12_cause_47 hl (by decide) rfl (fun ls hl => ?_)
          have lp1444 : ∀ (nn1444 : Nat) (x1443_4 : Int32) (w1443_i_12_19 : Int32) (w1443_i_12_48 : Int32) (w1443_i_12_20 : Int32) (w1443_i_12_21 : Int32) (w1443_i_12_22 : Int32) (w1443_l_12_17 : Int64) (w1443_l_12_18 : Int64) (w1443_a_12_49 : Nat → Int32), 0 ≤ x1443_4.toInt ∧ x1443_4.toInt ≤ 4 → 0 ≤ w1443_i_12_48.toInt ∧ w1443_i_12_48.toInt ≤ 72 → (∀ j, inb (bA 12 49 j) (w1443_a_12_49 j)) → (w1443_i_12_48 : Int32).toInt ≤ (x1443_4 : Int32).toInt → (w1443_i_12_20 : Int32).toInt = -1 → (w1443_i_12_21 : Int32).toInt = -1 → (w1443_i_12_22 : Int32).toInt = -1 → 4 - x1443_4.toInt < (nn1444 : Int) → ∀ (H : Heap) (locs : List Loc), ∀ (ls : Array Slot), va_P (dC, dI) classes (WM h g ca (u2 (u2 (u2 (u2 (u2 (u2 iv 12 41 n7) 12 19 w1443_i_12_19) 12 48 w1443_i_12_48) 12 20 w1443_i_12_20) 12 21 w1443_i_12_21) 12 22 w1443_i_12_22) (u2 (u2 lv 12 17 w1443_l_12_17) 12 18 w1443_l_12_18) (u2 (u2 (u2 fa 12 39 n5) 12 40 n6) 12 49 w1443_a_12_49) la) H → va_D A (WM h g ca (u2 (u2 (u2 (u2 (u2 (u2 iv 12 41 n7) 12 19 w1443_i_12_19) 12 48 w1443_i_12_48) 12 20 w1443_i_12_20) 12 21 w1443_i_12_21) 12 22 w1443_i_12_22) (u2 (u2 lv 12 17 w1443_l_12_17) 12 18 w1443_l_12_18) (u2 (u2 (u2 fa 12 39 n5) 12 40 n6) 12 49 w1443_a_12_49) la) → va_S A s.heap H locs → lv_has ls 5 [(4, .int x1443_4), (3, .int r4), (0, .ref h), (1, .int a), (2, .int b)] → W p l e ({ frames := 4, cells := 0, slots := 0, locals := 108 } : Room) s m ([.ref h, .int a, .int b] : List Value).toArray below meth c H locs 0 0 (MQ below (va_Qi (fun r (u : SS) => ∃ (na_12_39 : Nat → Int32) (na_12_40 : Nat → Int32) (na_12_49 : Nat → Int32) (ni_12_19 : Int32) (ni_12_20 : Int32) (ni_12_21 : Int32) (ni_12_22 : Int32) (ni_12_41 : Int32) (ni_12_48 : Int32) (nl_12_17 : Int64) (nl_12_18 : Int64), (∀ j, inb (bA 12 39 j) (na_12_39 j)) ∧ (∀ j, inb (bA 12 40 j) (na_12_40 j)) ∧ inb (bI 12 41) ni_12_41 ∧ inb (bI 12 48) ni_12_48 ∧ ((ni_12_20).toInt = -1) ∧ ((ni_12_21).toInt = -1) ∧ ((ni_12_22).toInt = -1) ∧ (True) ∧ u = ((u2 (u2 (u2 (u2 (u2 (u2 iv 12 19 ni_12_19) 12 20 ni_12_20) 12 21 ni_12_21) 12 22 ni_12_22) 12 41 ni_12_41) 12 48 ni_12_48), (u2 (u2 lv 12 17 nl_12_17) 12 18 nl_12_18), (u2 (u2 (u2 fa 12 39 na_12_39) 12 40 na_12_40) 12 49 na_12_49), la)) (bM (dC, dI) h g ca A) A) ([.ref h, .int a, .int b] : List Value).toArray s 0 0 A) (F0 m 49 ls []) := by
            intro nn1444
            induction nn1444 with
            | zero => intro x1443_4 w1443_i_12_19 w1443_i_12_48 w1443_i_12_20 w1443_i_12_21 w1443_i_12_22 w1443_l_12_17 w1443_l_12_18 w1443_a_12_49 hx1443_4 hw1443_i_12_48 hw1443_a_12_49 hq1444_0 hq1444_1 hq1444_2 hq1444_3 hm1444; exfalso; omega
            | succ nn1444 ih1444 =>
              intro x1443_4 w1443_i_12_19 w1443_i_12_48 w1443_i_12_20 w1443_i_12_21 w1443_i_12_22 w1443_l_12_17 w1443_l_12_18 w1443_a_12_49 hx1443_4 hw1443_i_12_48 hw1443_a_12_49 hq1444_0 hq1444_1 hq1444_2 hq1444_3 hm1444 H locs ls hP hD hS hl
              refine lv_iload hx hb dX12_cause_49 (lv_at hl 0 rfl) ?_
              refine lv_iconst (v := 4) hx hb dX12_cause_51 (by decide) ?_
              refine lv_icmp_ge (tgt := 71) hx hb dX12_cause_52 (by decide) (fun c1445 => ?_) (fun c1445 => ?_)
              · have fc1445 := z_le (by decide : (4 : Int32).toInt = 4) (rfl : (x1443_4).toInt = _) c1445
                refine lv_iconst (v := 0) hx hb dX12_cause_71 (by decide) ?_
                refine lv_istore (lv' := [(4, .int 0), (3, .int r4), (0, .ref h), (1, .int a), (2, .int b)]) hx hb dX12_cause_72 hl (by decide) rfl (fun ls hl => ?_)
                have lp2177 : ∀ (nn2177 : Nat) (x2176_4 : Int32) (w2176_i_12_19 : Int32) (w2176_i_12_48 : Int32) (w2176_i_12_20 : Int32) (w2176_i_12_21 : Int32) (w2176_i_12_22 : Int32) (w2176_l_12_17 : Int64) (w2176_l_12_18 : Int64) (w2176_a_12_49 : Nat → Int32), 0 ≤ x2176_4.toInt ∧ x2176_4.toInt ≤ 8 → 0 ≤ w2176_i_12_48.toInt ∧ w2176_i_12_48.toInt ≤ 72 → (∀ j, inb (bA 12 49 j) (w2176_a_12_49 j)) → (w2176_i_12_48 : Int32).toInt ≤ 4 + (x2176_4 : Int32).toInt → (w2176_i_12_20 : Int32).toInt = -1 → (w2176_i_12_21 : Int32).toInt = -1 → (w2176_i_12_22 : Int32).toInt = -1 → 8 - x2176_4.toInt < (nn2177 : Int) → ∀ (H : Heap) (locs : List Loc), ∀ (ls : Array Slot), va_P (dC, dI) classes (WM h g ca (u2 (u2 (u2 (u2 (u2 (u2 iv 12 41 n7) 12 19 w2176_i_12_19) 12 48 w2176_i_12_48) 12 20 w2176_i_12_20) 12 21 w2176_i_12_21) 12 22 w2176_i_12_22) (u2 (u2 lv 12 17 w2176_l_12_17) 12 18 w2176_l_12_18) (u2 (u2 (u2 fa 12 39 n5) 12 40 n6) 12 49 w2176_a_12_49) la) H → va_D A (WM h g ca (u2 (u2 (u2 (u2 (u2 (u2 iv 12 41 n7) 12 19 w2176_i_12_19) 12 48 w2176_i_12_48) 12 20 w2176_i_12_20) 12 21 w2176_i_12_21) 12 22 w2176_i_12_22) (u2 (u2 lv 12 17 w2176_l_12_17) 12 18 w2176_l_12_18) (u2 (u2 (u2 fa 12 39 n5) 12 40 n6) 12 49 w2176_a_12_49) la) → va_S A s.heap H locs → lv_has ls 5 [(4, .int x2176_4), (3, .int r4), (0, .ref h), (1, .int a), (2, .int b)] → W p l e ({ frames := 4, cells := 0, slots := 0, locals := 108 } : Room) s m ([.ref h, .int a, .int b] : List Value).toArray below meth c H locs 0 0 (MQ below (va_Qi (fun r (u : SS) => ∃ (na_12_39 : Nat → Int32) (na_12_40 : Nat → Int32) (na_12_49 : Nat → Int32) (ni_12_19 : Int32) (ni_12_20 : Int32) (ni_12_21 : Int32) (ni_12_22 : Int32) (ni_12_41 : Int32) (ni_12_48 : Int32) (nl_12_17 : Int64) (nl_12_18 : Int64), (∀ j, inb (bA 12 39 j) (na_12_39 j)) ∧ (∀ j, inb (bA 12 40 j) (na_12_40 j)) ∧ inb (bI 12 41) ni_12_41 ∧ inb (bI 12 48) ni_12_48 ∧ ((ni_12_20).toInt = -1) ∧ ((ni_12_21).toInt = -1) ∧ ((ni_12_22).toInt = -1) ∧ (True) ∧ u = ((u2 (u2 (u2 (u2 (u2 (u2 iv 12 19 ni_12_19) 12 20 ni_12_20) 12 21 ni_12_21) 12 22 ni_12_22) 12 41 ni_12_41) 12 48 ni_12_48), (u2 (u2 lv 12 17 nl_12_17) 12 18 nl_12_18), (u2 (u2 (u2 fa 12 39 na_12_39) 12 40 na_12_40) 12 49 na_12_49), la)) (bM (dC, dI) h g ca A) A) ([.ref h, .int a, .int b] : List Value).toArray s 0 0 A) (F0 m 74 ls []) := by
                  intro nn2177
                  induction nn2177 with
                  | zero => intro x2176_4 w2176_i_12_19 w2176_i_12_48 w2176_i_12_20 w2176_i_12_21 w2176_i_12_22 w2176_l_12_17 w2176_l_12_18 w2176_a_12_49 hx2176_4 hw2176_i_12_48 hw2176_a_12_49 hq2177_0 hq2177_1 hq2177_2 hq2177_3 hm2177; exfalso; omega
                  | succ nn2177 ih2177 =>
                    intro x2176_4 w2176_i_12_19 w2176_i_12_48 w2176_i_12_20 w2176_i_12_21 w2176_i_12_22 w2176_l_12_17 w2176_l_12_18 w2176_a_12_49 hx2176_4 hw2176_i_12_48 hw2176_a_12_49 hq2177_0 hq2177_1 hq2177_2 hq2177_3 hm2177 H locs ls hP hD hS hl
                    refine lv_iload hx hb dX12_cause_74 (lv_at hl 0 rfl) ?_
                    refine lv_bipush (v := 8) hx hb dX12_cause_76 (by decide) ?_
                    refine lv_icmp_ge (tgt := 97) hx hb dX12_cause_78 (by decide) (fun c2178 => ?_) (fun c2178 => ?_)
                    · have fc2178 := z_le (by decide : (8 : Int32).toInt = 8) (rfl : (x2176_4).toInt = _) c2178
                      refine lv_iconst (v := 0) hx hb dX12_cause_97 (by decide) ?_
                      refine lv_istore (lv' := [(4, .int 0), (3, .int r4), (0, .ref h), (1, .int a), (2, .int b)]) hx hb dX12_cause_98 hl (by decide) rfl (fun ls hl => ?_)
                      have lp2774 : ∀ (nn2774 : Nat) (x2773_4 : Int32) (w2773_i_12_19 : Int32) (w2773_i_12_48 : Int32) (w2773_i_12_20 : Int32) (w2773_i_12_21 : Int32) (w2773_i_12_22 : Int32) (w2773_l_12_17 : Int64) (w2773_l_12_18 : Int64) (w2773_a_12_49 : Nat → Int32), 0 ≤ x2773_4.toInt ∧ x2773_4.toInt ≤ 60 → 0 ≤ w2773_i_12_48.toInt ∧ w2773_i_12_48.toInt ≤ 72 → (∀ j, inb (bA 12 49 j) (w2773_a_12_49 j)) → (w2773_i_12_48 : Int32).toInt ≤ 12 + (x2773_4 : Int32).toInt → (w2773_i_12_20 : Int32).toInt = -1 → (w2773_i_12_21 : Int32).toInt = -1 → (w2773_i_12_22 : Int32).toInt = -1 → 60 - x2773_4.toInt < (nn2774 : Int) → ∀ (H : Heap) (locs : List Loc), ∀ (ls : Array Slot), va_P (dC, dI) classes (WM h g ca (u2 (u2 (u2 (u2 (u2 (u2 iv 12 41 n7) 12 19 w2773_i_12_19) 12 48 w2773_i_12_48) 12 20 w2773_i_12_20) 12 21 w2773_i_12_21) 12 22 w2773_i_12_22) (u2 (u2 lv 12 17 w2773_l_12_17) 12 18 w2773_l_12_18) (u2 (u2 (u2 fa 12 39 n5) 12 40 n6) 12 49 w2773_a_12_49) la) H → va_D A (WM h g ca (u2 (u2 (u2 (u2 (u2 (u2 iv 12 41 n7) 12 19 w2773_i_12_19) 12 48 w2773_i_12_48) 12 20 w2773_i_12_20) 12 21 w2773_i_12_21) 12 22 w2773_i_12_22) (u2 (u2 lv 12 17 w2773_l_12_17) 12 18 w2773_l_12_18) (u2 (u2 (u2 fa 12 39 n5) 12 40 n6) 12 49 w2773_a_12_49) la) → va_S A s.heap H locs → lv_has ls 5 [(4, .int x2773_4), (3, .int r4), (0, .ref h), (1, .int a), (2, .int b)] → W p l e ({ frames := 4, cells := 0, slots := 0, locals := 108 } : Room) s m ([.ref h, .int a, .int b] : List Value).toArray below meth c H locs 0 0 (MQ below (va_Qi (fun r (u : SS) => ∃ (na_12_39 : Nat → Int32) (na_12_40 : Nat → Int32) (na_12_49 : Nat → Int32) (ni_12_19 : Int32) (ni_12_20 : Int32) (ni_12_21 : Int32) (ni_12_22 : Int32) (ni_12_41 : Int32) (ni_12_48 : Int32) (nl_12_17 : Int64) (nl_12_18 : Int64), (∀ j, inb (bA 12 39 j) (na_12_39 j)) ∧ (∀ j, inb (bA 12 40 j) (na_12_40 j)) ∧ inb (bI 12 41) ni_12_41 ∧ inb (bI 12 48) ni_12_48 ∧ ((ni_12_20).toInt = -1) ∧ ((ni_12_21).toInt = -1) ∧ ((ni_12_22).toInt = -1) ∧ (True) ∧ u = ((u2 (u2 (u2 (u2 (u2 (u2 iv 12 19 ni_12_19) 12 20 ni_12_20) 12 21 ni_12_21) 12 22 ni_12_22) 12 41 ni_12_41) 12 48 ni_12_48), (u2 (u2 lv 12 17 nl_12_17) 12 18 nl_12_18), (u2 (u2 (u2 fa 12 39 na_12_39) 12 40 na_12_40) 12 49 na_12_49), la)) (bM (dC, dI) h g ca A) A) ([.ref h, .int a, .int b] : List Value).toArray s 0 0 A) (F0 m 100 ls []) := by
                        intro nn2774
                        induction nn2774 with
                        | zero => intro x2773_4 w2773_i_12_19 w2773_i_12_48 w2773_i_12_20 w2773_i_12_21 w2773_i_12_22 w2773_l_12_17 w2773_l_12_18 w2773_a_12_49 hx2773_4 hw2773_i_12_48 hw2773_a_12_49 hq2774_0 hq2774_1 hq2774_2 hq2774_3 hm2774; exfalso; omega
                        | succ nn2774 ih2774 =>
                          intro x2773_4 w2773_i_12_19 w2773_i_12_48 w2773_i_12_20 w2773_i_12_21 w2773_i_12_22 w2773_l_12_17 w2773_l_12_18 w2773_a_12_49 hx2773_4 hw2773_i_12_48 hw2773_a_12_49 hq2774_0 hq2774_1 hq2774_2 hq2774_3 hm2774 H locs ls hP hD hS hl
                          refine lv_iload hx hb dX12_cause_100 (lv_at hl 0 rfl) ?_
                          refine lv_aload_n hx hb dX12_cause_102 rfl (lv_at hl 2 rfl) ?_
                          have i_12_3 : 0 ≤ (iv 12 3).toInt ∧ (iv 12 3).toInt ≤ 60 := hI.1 12 3
                          refine gM_12_3 hx hb ht hown hK hP m_1142 (v := (iv 12 3)) rfl dX12_cause_103 ?_
                          refine lv_icmp_ge (tgt := 160) hx hb dX12_cause_106 (by decide) (fun c2775 => ?_) (fun c2775 => ?_)
                          · have fc2775 := z_le (rfl : ((iv 12 3)).toInt = _) (rfl : (x2773_4).toInt = _) c2775
                            refine lv_iload_n hx hb dX12_cause_160 rfl (lv_at hl 4 rfl) ?_
                            refine lv_iconst (v := (-1)) hx hb dX12_cause_161 (by decide) ?_
                            refine lv_icmp_ne (tgt := 172) hx hb dX12_cause_162 (by decide) (fun c2776 => ?_) (fun c2776 => ?_)
                            · have fc2776 := z_ne (rfl : (b).toInt = _) (by decide : ((-1) : Int32).toInt = (-1)) c2776
                              refine lv_iload_n hx hb dX12_cause_172 rfl (lv_at hl 4 rfl) ?_
                              refine lv_i2l (v := (b.toInt64)) hx hb dX12_cause_173 rfl ?_
                              refine lv_lconst (v := 0) hx hb dX12_cause_174 (by decide) ?_
                              refine lv_aload_n hx hb dX12_cause_175 rfl (lv_at hl 2 rfl) ?_
                              refine gM_12_48 hx hb ht hown hK hP m_1187 (v := w2773_i_12_48) rfl dX12_cause_176 ?_
                              refine lv_iconst (v := 1) hx hb dX12_cause_179 (by decide) ?_
                              refine lv_isub hx hb dX12_cause_180 ?_
                              refine lv_topi (fun v2777 ev2777 => ?_)
                              have tv2777 := z_sub ev2777 (rfl : (w2773_i_12_48).toInt = _) (by decide : (1 : Int32).toInt = 1) (by omega) (by omega)
                              refine lv_i2l (v := (v2777.toInt64)) hx hb dX12_cause_181 rfl ?_
                              refine vp_callSi (W.runS (As := [.long (b.toInt64), .long 0, .long (v2777.toInt64)]) (rest := []) ⟨hx, hb, hml, hown, ht⟩ (c_X12_in l dC dI (b.toInt64) 0 (v2777.toInt64) (b.toInt) (0) (v2777.toInt) ((Int32.toInt_toInt64 b).trans rfl) (by decide : (0 : Int64).toInt = 0) ((Int32.toInt_toInt64 v2777).trans rfl)) (kS 3 ht m_1370 m_1371 m_89 m_1372 rfl rfl hd_X12_in_v ⟨Nat.le_of_ble_eq_true rfl, Nat.le_of_ble_eq_true rfl⟩) (sR noP (hK.sub (tys' := []) [] rfl)) rfl rfl hl.1 rfl (lv_room (Nat.le_of_ble_eq_true rfl)) dX12_cause_182 ⟨Nat.le_of_ble_eq_true rfl, Nat.le_of_ble_eq_true rfl⟩) (fun r2778 hr2778 => ?_)
                              rcases hr2778 with ⟨rfl, fr2778⟩ | ⟨rfl, fr2778⟩
                              · skip
                                refine lv_if_eq (tgt := 197) hx hb dX12_cause_185 (by decide) (fun c2779 => ?_) (fun c2779 => ?_)
                                · exact absurd c2779 (by decide)
                                · skip
                                  refine lv_aload_n hx hb dX12_cause_188 rfl (lv_at hl 2 rfl) ?_
                                  refine gM_12_49 hx hb ht hown hK hP m_1188 dX12_cause_189 ?_
                                  refine lv_iload_n hx hb dX12_cause_192 rfl (lv_at hl 4 rfl) ?_
                                  refine lM_12_49 hx hb hK hP (f := w2773_a_12_49) rfl (vp_in_iff.mpr ⟨by omega, by omega⟩) dX12_cause_193 ?_
                                  refine lv_topi (fun v2780 ev2780 => ?_)
                                  refine lv_goto (tgt := 198) hx hb dX12_cause_194 (by decide) ?_
                                  have hP9 : va_P (dC, dI) classes (WM h g ca (u2 (u2 (u2 (u2 (u2 (u2 iv 12 19 w2773_i_12_19) 12 20 w2773_i_12_20) 12 21 w2773_i_12_21) 12 22 w2773_i_12_22) 12 41 n7) 12 48 w2773_i_12_48) (u2 (u2 lv 12 17 w2773_l_12_17) 12 18 w2773_l_12_18) (u2 (u2 (u2 fa 12 39 n5) 12 40 n6) 12 49 w2773_a_12_49) la) H := hP
                                  have hD9 : va_D A (WM h g ca (u2 (u2 (u2 (u2 (u2 (u2 iv 12 19 w2773_i_12_19) 12 20 w2773_i_12_20) 12 21 w2773_i_12_21) 12 22 w2773_i_12_22) 12 41 n7) 12 48 w2773_i_12_48) (u2 (u2 lv 12 17 w2773_l_12_17) 12 18 w2773_l_12_18) (u2 (u2 (u2 fa 12 39 n5) 12 40 n6) 12 49 w2773_a_12_49) la) := hD
                                  exact W.iret (v := v2780) hx hb hr (fun t ht9 hW => ⟨⟨v2780, ((u2 (u2 (u2 (u2 (u2 (u2 iv 12 19 w2773_i_12_19) 12 20 w2773_i_12_20) 12 21 w2773_i_12_21) 12 22 w2773_i_12_22) 12 41 n7) 12 48 w2773_i_12_48), (u2 (u2 lv 12 17 w2773_l_12_17) 12 18 w2773_l_12_18), (u2 (u2 (u2 fa 12 39 n5) 12 40 n6) 12 49 w2773_a_12_49), la), rfl, ⟨n5, n6, w2773_a_12_49, w2773_i_12_19, w2773_i_12_20, w2773_i_12_21, w2773_i_12_22, n7, w2773_i_12_48, w2773_l_12_17, w2773_l_12_18, hn5, hn6, (show inb (0, 8) n7 from ⟨by omega, by omega⟩), (show inb (0, 72) w2773_i_12_48 from ⟨by omega, by omega⟩), (show (w2773_i_12_20 : Int32).toInt = -1 from by omega), (show (w2773_i_12_21 : Int32).toInt = -1 from by omega), (show (w2773_i_12_22 : Int32).toInt = -1 from by omega), trivial, rfl⟩, by rw [ht9]; exact hP9, hD9⟩, hS.F ht9⟩) hS.2.2 dX12_cause_198
                              · skip
                                refine lv_if_eq (tgt := 197) hx hb dX12_cause_185 (by decide) (fun c2781 => ?_) (fun c2781 => ?_)
                                · skip
                                  refine lv_iconst (v := (-1)) hx hb dX12_cause_197 (by decide) ?_
                                  have hP9 : va_P (dC, dI) classes (WM h g ca (u2 (u2 (u2 (u2 (u2 (u2 iv 12 19 w2773_i_12_19) 12 20 w2773_i_12_20) 12 21 w2773_i_12_21) 12 22 w2773_i_12_22) 12 41 n7) 12 48 w2773_i_12_48) (u2 (u2 lv 12 17 w2773_l_12_17) 12 18 w2773_l_12_18) (u2 (u2 (u2 fa 12 39 n5) 12 40 n6) 12 49 w2773_a_12_49) la) H := hP
                                  have hD9 : va_D A (WM h g ca (u2 (u2 (u2 (u2 (u2 (u2 iv 12 19 w2773_i_12_19) 12 20 w2773_i_12_20) 12 21 w2773_i_12_21) 12 22 w2773_i_12_22) 12 41 n7) 12 48 w2773_i_12_48) (u2 (u2 lv 12 17 w2773_l_12_17) 12 18 w2773_l_12_18) (u2 (u2 (u2 fa 12 39 n5) 12 40 n6) 12 49 w2773_a_12_49) la) := hD
                                  exact W.iret (v := (-1)) hx hb hr (fun t ht9 hW => ⟨⟨(-1), ((u2 (u2 (u2 (u2 (u2 (u2 iv 12 19 w2773_i_12_19) 12 20 w2773_i_12_20) 12 21 w2773_i_12_21) 12 22 w2773_i_12_22) 12 41 n7) 12 48 w2773_i_12_48), (u2 (u2 lv 12 17 w2773_l_12_17) 12 18 w2773_l_12_18), (u2 (u2 (u2 fa 12 39 n5) 12 40 n6) 12 49 w2773_a_12_49), la), rfl, ⟨n5, n6, w2773_a_12_49, w2773_i_12_19, w2773_i_12_20, w2773_i_12_21, w2773_i_12_22, n7, w2773_i_12_48, w2773_l_12_17, w2773_l_12_18, hn5, hn6, (show inb (0, 8) n7 from ⟨by omega, by omega⟩), (show inb (0, 72) w2773_i_12_48 from ⟨by omega, by omega⟩), (show (w2773_i_12_20 : Int32).toInt = -1 from by omega), (show (w2773_i_12_21 : Int32).toInt = -1 from by omega), (show (w2773_i_12_22 : Int32).toInt = -1 from by omega), trivial, rfl⟩, by rw [ht9]; exact hP9, hD9⟩, hS.F ht9⟩) hS.2.2 dX12_cause_198
                                · exact absurd rfl c2781
                            · have fc2776 := z_eq (rfl : (b).toInt = _) (by decide : ((-1) : Int32).toInt = (-1)) c2776
                              refine lv_aload_n hx hb dX12_cause_165 rfl (lv_at hl 2 rfl) ?_
                              refine gM_12_48 hx hb ht hown hK hP m_1187 (v := w2773_i_12_48) rfl dX12_cause_166 ?_
                              refine lv_goto (tgt := 198) hx hb dX12_cause_169 (by decide) ?_
                              have hP9 : va_P (dC, dI) classes (WM h g ca (u2 (u2 (u2 (u2 (u2 (u2 iv 12 19 w2773_i_12_19) 12 20 w2773_i_12_20) 12 21 w2773_i_12_21) 12 22 w2773_i_12_22) 12 41 n7) 12 48 w2773_i_12_48) (u2 (u2 lv 12 17 w2773_l_12_17) 12 18 w2773_l_12_18) (u2 (u2 (u2 fa 12 39 n5) 12 40 n6) 12 49 w2773_a_12_49) la) H := hP
                              have hD9 : va_D A (WM h g ca (u2 (u2 (u2 (u2 (u2 (u2 iv 12 19 w2773_i_12_19) 12 20 w2773_i_12_20) 12 21 w2773_i_12_21) 12 22 w2773_i_12_22) 12 41 n7) 12 48 w2773_i_12_48) (u2 (u2 lv 12 17 w2773_l_12_17) 12 18 w2773_l_12_18) (u2 (u2 (u2 fa 12 39 n5) 12 40 n6) 12 49 w2773_a_12_49) la) := hD
                              exact W.iret (v := w2773_i_12_48) hx hb hr (fun t ht9 hW => ⟨⟨w2773_i_12_48, ((u2 (u2 (u2 (u2 (u2 (u2 iv 12 19 w2773_i_12_19) 12 20 w2773_i_12_20) 12 21 w2773_i_12_21) 12 22 w2773_i_12_22) 12 41 n7) 12 48 w2773_i_12_48), (u2 (u2 lv 12 17 w2773_l_12_17) 12 18 w2773_l_12_18), (u2 (u2 (u2 fa 12 39 n5) 12 40 n6) 12 49 w2773_a_12_49), la), rfl, ⟨n5, n6, w2773_a_12_49, w2773_i_12_19, w2773_i_12_20, w2773_i_12_21, w2773_i_12_22, n7, w2773_i_12_48, w2773_l_12_17, w2773_l_12_18, hn5, hn6, (show inb (0, 8) n7 from ⟨by omega, by omega⟩), (show inb (0, 72) w2773_i_12_48 from ⟨by omega, by omega⟩), (show (w2773_i_12_20 : Int32).toInt = -1 from by omega), (show (w2773_i_12_21 : Int32).toInt = -1 from by omega), (show (w2773_i_12_22 : Int32).toInt = -1 from by omega), trivial, rfl⟩, by rw [ht9]; exact hP9, hD9⟩, hS.F ht9⟩) hS.2.2 dX12_cause_198
                          · have fc2775 := z_nle (rfl : ((iv 12 3)).toInt = _) (rfl : (x2773_4).toInt = _) c2775
                            refine lv_aload_n hx hb dX12_cause_109 rfl (lv_at hl 2 rfl) ?_
                            refine gM_12_4 hx hb ht hown hK hP m_1143 dX12_cause_110 ?_
                            refine lv_iload hx hb dX12_cause_113 (lv_at hl 0 rfl) ?_
                            refine lM_12_4 hx hb hK hP (f := (fa 12 4)) rfl (vp_in_iff.mpr ⟨by omega, by omega⟩) dX12_cause_115 ?_
                            refine lv_topi (fun v2782 ev2782 => ?_)
                            refine lv_iload_n hx hb dX12_cause_116 rfl (lv_at hl 3 rfl) ?_
                            refine lv_icmp_ne (tgt := 154) hx hb dX12_cause_117 (by decide) (fun c2783 => ?_) (fun c2783 => ?_)
                            · have fc2783 := z_ne (rfl : (v2782).toInt = _) (rfl : (a).toInt = _) c2783
                              obtain ⟨v2784, ev2784⟩ : ∃ y : Int32, y = x2773_4 + 1 := ⟨_, rfl⟩
                              have tv2784 := z_add ev2784 rfl (by decide : (1 : Int32).toInt = 1) (by omega) (by omega)
                              refine lv_iinc (v := v2784) (lv' := [(4, .int v2784), (3, .int r4), (0, .ref h), (1, .int a), (2, .int b)]) hx hb dX12_cause_154 hl (k := 0) rfl (by rw [ev2784]; rfl) (by decide) rfl (fun ls hl => ?_)
                              refine lv_goto (tgt := 100) hx hb dX12_cause_157 (by decide) ?_
                              exact ih2774 v2784 w2773_i_12_19 w2773_i_12_48 w2773_i_12_20 w2773_i_12_21 w2773_i_12_22 w2773_l_12_17 w2773_l_12_18 w2773_a_12_49 ⟨by omega, by omega⟩ ⟨by omega, by omega⟩ hw2773_a_12_49 (show (w2773_i_12_48 : Int32).toInt ≤ 12 + (v2784 : Int32).toInt from by omega) (show (w2773_i_12_20 : Int32).toInt = -1 from by omega) (show (w2773_i_12_21 : Int32).toInt = -1 from by omega) (show (w2773_i_12_22 : Int32).toInt = -1 from by omega) (by omega) _ _ ls hP hD hS (lv_sub hl [0, 1, 2, 3, 4] rfl)
                            · have fc2783 := z_eq (rfl : (v2782).toInt = _) (rfl : (a).toInt = _) c2783
                              refine lv_aload_n hx hb dX12_cause_120 rfl (lv_at hl 2 rfl) ?_
                              refine gM_12_5 hx hb ht hown hK hP m_1144 dX12_cause_121 ?_
                              refine lv_iload hx hb dX12_cause_124 (lv_at hl 0 rfl) ?_
                              refine lM_12_5 hx hb hK hP (f := (fa 12 5)) rfl (vp_in_iff.mpr ⟨by omega, by omega⟩) dX12_cause_126 ?_
                              refine lv_topi (fun v2785 ev2785 => ?_)
                              refine lv_iconst (v := 2) hx hb dX12_cause_127 (by decide) ?_
                              refine lv_icmp_ge (tgt := 154) hx hb dX12_cause_128 (by decide) (fun c2786 => ?_) (fun c2786 => ?_)
                              · have fc2786 := z_le (by decide : (2 : Int32).toInt = 2) (rfl : (v2785).toInt = _) c2786
                                obtain ⟨v2787, ev2787⟩ : ∃ y : Int32, y = x2773_4 + 1 := ⟨_, rfl⟩
                                have tv2787 := z_add ev2787 rfl (by decide : (1 : Int32).toInt = 1) (by omega) (by omega)
                                refine lv_iinc (v := v2787) (lv' := [(4, .int v2787), (3, .int r4), (0, .ref h), (1, .int a), (2, .int b)]) hx hb dX12_cause_154 hl (k := 0) rfl (by rw [ev2787]; rfl) (by decide) rfl (fun ls hl => ?_)
                                refine lv_goto (tgt := 100) hx hb dX12_cause_157 (by decide) ?_
                                exact ih2774 v2787 w2773_i_12_19 w2773_i_12_48 w2773_i_12_20 w2773_i_12_21 w2773_i_12_22 w2773_l_12_17 w2773_l_12_18 w2773_a_12_49 ⟨by omega, by omega⟩ ⟨by omega, by omega⟩ hw2773_a_12_49 (show (w2773_i_12_48 : Int32).toInt ≤ 12 + (v2787 : Int32).toInt from by omega) (show (w2773_i_12_20 : Int32).toInt = -1 from by omega) (show (w2773_i_12_21 : Int32).toInt = -1 from by omega) (show (w2773_i_12_22 : Int32).toInt = -1 from by omega) (by omega) _ _ ls hP hD hS (lv_sub hl [0, 1, 2, 3, 4] rfl)
                              · have fc2786 := z_nle (by decide : (2 : Int32).toInt = 2) (rfl : (v2785).toInt = _) c2786
                                refine lv_aload_n hx hb dX12_cause_131 rfl (lv_at hl 2 rfl) ?_
                                refine lv_iload hx hb dX12_cause_132 (lv_at hl 0 rfl) ?_
                                refine lv_aload_n hx hb dX12_cause_134 rfl (lv_at hl 2 rfl) ?_
                                refine gM_12_0 hx hb ht hown hK hP m_1139 (v := (iv 12 0)) rfl dX12_cause_135 ?_
                                refine vp_callSi (W.runV (As := [.int x2773_4, .int (iv 12 0)]) (rest := []) ⟨hx, hb, hml, hown, ht⟩ (c_X12_isThere_x l dC dI h g ca (u2 (u2 (u2 (u2 (u2 (u2 iv 12 41 n7) 12 19 w2773_i_12_19) 12 48 w2773_i_12_48) 12 20 w2773_i_12_20) 12 21 w2773_i_12_21) 12 22 w2773_i_12_22) (u2 (u2 lv 12 17 w2773_l_12_17) 12 18 w2773_l_12_18) (u2 (u2 (u2 fa 12 39 n5) 12 40 n6) 12 49 w2773_a_12_49) la (IX_a (c := 12) (k := 49) (IX_a (c := 12) (k := 40) (IX_a (c := 12) (k := 39) (IX_i (c := 12) (k := 22) (IX_i (c := 12) (k := 21) (IX_i (c := 12) (k := 20) (IX_i (c := 12) (k := 48) (IX_i (c := 12) (k := 19) (IX_i (c := 12) (k := 41) hI (show inb (0, 8) n7 from ⟨by omega, by omega⟩)) (full_i _)) (show inb (0, 72) w2773_i_12_48 from ⟨by omega, by omega⟩)) (full_i _)) (full_i _)) (full_i _)) hn5) hn6) hw2773_a_12_49) x2773_4 (iv 12 0) ⟨by omega, by omega⟩) (kV 2 ht m_1438 m_1440 m_46 m_89 m_1441 rfl rfl hd_X12_isThere_v ⟨Nat.le_of_ble_eq_true rfl, Nat.le_of_ble_eq_true rfl⟩) (vR hP hK (rM_12 hK hP)) rfl rfl hl.1 rfl (lv_room (Nat.le_of_ble_eq_true rfl)) dX12_cause_138 ⟨Nat.le_of_ble_eq_true rfl, Nat.le_of_ble_eq_true rfl⟩) (fun r2788 hr2788 => ?_)
                                obtain ⟨hr2788, xr2788_0⟩ := hr2788
                                have xr2788_0 : (((r2788 : Int32).toInt = 1 ∧ ((fa 12 11) (x2773_4 : Int32).toNatClampNeg).toInt ≤ ((iv 12 0) : Int32).toInt ∧ (((fa 12 12) (x2773_4 : Int32).toNatClampNeg).toInt < 0 ∨ ((iv 12 0) : Int32).toInt < ((fa 12 12) (x2773_4 : Int32).toNatClampNeg).toInt)) ∨ ((r2788 : Int32).toInt = 0 ∧ ¬ (((fa 12 11) (x2773_4 : Int32).toNatClampNeg).toInt ≤ ((iv 12 0) : Int32).toInt ∧ (((fa 12 12) (x2773_4 : Int32).toNatClampNeg).toInt < 0 ∨ ((iv 12 0) : Int32).toInt < ((fa 12 12) (x2773_4 : Int32).toNatClampNeg).toInt)))) := xr2788_0
                                refine lv_if_eq (tgt := 154) hx hb dX12_cause_141 (by decide) (fun c2789 => ?_) (fun c2789 => ?_)
                                · have fc2789 := z_eq (rfl : (r2788).toInt = _) (by decide : (0 : Int32).toInt = 0) c2789
                                  obtain ⟨v2790, ev2790⟩ : ∃ y : Int32, y = x2773_4 + 1 := ⟨_, rfl⟩
                                  have tv2790 := z_add ev2790 rfl (by decide : (1 : Int32).toInt = 1) (by omega) (by omega)
                                  refine lv_iinc (v := v2790) (lv' := [(4, .int v2790), (3, .int r4), (0, .ref h), (1, .int a), (2, .int b)]) hx hb dX12_cause_154 hl (k := 0) rfl (by rw [ev2790]; rfl) (by decide) rfl (fun ls hl => ?_)
                                  refine lv_goto (tgt := 100) hx hb dX12_cause_157 (by decide) ?_
                                  exact ih2774 v2790 w2773_i_12_19 w2773_i_12_48 w2773_i_12_20 w2773_i_12_21 w2773_i_12_22 w2773_l_12_17 w2773_l_12_18 w2773_a_12_49 ⟨by omega, by omega⟩ ⟨by omega, by omega⟩ hw2773_a_12_49 (show (w2773_i_12_48 : Int32).toInt ≤ 12 + (v2790 : Int32).toInt from by omega) (show (w2773_i_12_20 : Int32).toInt = -1 from by omega) (show (w2773_i_12_21 : Int32).toInt = -1 from by omega) (show (w2773_i_12_22 : Int32).toInt = -1 from by omega) (by omega) _ _ ls hP hD hS (lv_sub hl [0, 1, 2, 3, 4] rfl)
                                · have fc2789 := z_ne (rfl : (r2788).toInt = _) (by decide : (0 : Int32).toInt = 0) c2789
                                  refine lv_aload_n hx hb dX12_cause_144 rfl (lv_at hl 2 rfl) ?_
                                  refine lv_iload_n hx hb dX12_cause_145 rfl (lv_at hl 3 rfl) ?_
                                  refine lv_iload_n hx hb dX12_cause_146 rfl (lv_at hl 1 rfl) ?_
                                  refine lv_iconst (v := (-1)) hx hb dX12_cause_147 (by decide) ?_
                                  refine lv_iconst (v := (-1)) hx hb dX12_cause_148 (by decide) ?_
                                  refine lv_iload hx hb dX12_cause_149 (lv_at hl 0 rfl) ?_
                                  have : 0 ≤ (w2773_i_12_48 : Int32).toInt ∧ (w2773_i_12_48 : Int32).toInt ≤ 71 := ⟨by omega, by omega⟩
                                  have hFc := free_all hD hS hA
                                  refine va_callv (va_runV (As := [.int a, .int r4, .int (-1), .int (-1), .int x2773_4]) (rest := []) ⟨hx, hb, hml, hown, ht⟩ (c_X12_tryCause l dC dI H.size h g ca (u2 (u2 (u2 (u2 (u2 (u2 iv 12 41 n7) 12 19 w2773_i_12_19) 12 48 w2773_i_12_48) 12 20 w2773_i_12_20) 12 21 w2773_i_12_21) 12 22 w2773_i_12_22) (u2 (u2 lv 12 17 w2773_l_12_17) 12 18 w2773_l_12_18) (u2 (u2 (u2 fa 12 39 n5) 12 40 n6) 12 49 w2773_a_12_49) la (IX_a (c := 12) (k := 49) (IX_a (c := 12) (k := 40) (IX_a (c := 12) (k := 39) (IX_i (c := 12) (k := 22) (IX_i (c := 12) (k := 21) (IX_i (c := 12) (k := 20) (IX_i (c := 12) (k := 48) (IX_i (c := 12) (k := 19) (IX_i (c := 12) (k := 41) hI (show inb (0, 8) n7 from ⟨by omega, by omega⟩)) (full_i _)) (show inb (0, 72) w2773_i_12_48 from ⟨by omega, by omega⟩)) (full_i _)) (full_i _)) (full_i _)) hn5) hn6) hw2773_a_12_49) a r4 (-1) (-1) x2773_4 (show 0 ≤ (w2773_i_12_48 : Int32).toInt ∧ (w2773_i_12_48 : Int32).toInt ≤ 71 from ⟨by omega, by omega⟩) hJR) (kV 5 ht m_1586 m_1588 m_66 m_89 m_1589 rfl rfl hd_X12_tryCause_v ⟨Nat.le_of_ble_eq_true rfl, Nat.le_of_ble_eq_true rfl⟩) (vW hP hK hD (rM_12 hK hP)) rfl rfl hl.1 rfl (lv_room (Nat.le_of_ble_eq_true rfl)) dX12_cause_151 ⟨Nat.le_of_ble_eq_true rfl, Nat.le_of_ble_eq_true rfl⟩) hS (fun q _ h => hFc q h) hFc (fun u t H1 locs ht9 hvm hr2791 hB hz1 hk1 hS => ?_)
                                  obtain ⟨n2792, n2793, n2794, n2795, n2796, n2797, n2798, n2799, hn2797, xr2791_0, xr2791_1, xr2791_2, xr2791_3, rfl⟩ := hr2791
                                  have hn2792 : ∀ j, inb (bA 12 49 j) (n2792 j) := fun j => full_i _
                                  have hn2797 : 0 ≤ n2797.toInt ∧ n2797.toInt ≤ 72 := hn2797
                                  obtain ⟨hP, hD⟩ := hB
                                  rw [ht9] at hP
                                  generalize H1 = H at hP hS ⊢
                                  have hP : va_P (dC, dI) classes (WM h g ca (u2 (u2 (u2 (u2 (u2 (u2 iv 12 41 n7) 12 19 n2793) 12 48 n2797) 12 20 n2794) 12 21 n2795) 12 22 n2796) (u2 (u2 lv 12 17 n2798) 12 18 n2799) (u2 (u2 (u2 fa 12 39 n5) 12 40 n6) 12 49 n2792) la) H := hP
                                  have hD : va_D A (WM h g ca (u2 (u2 (u2 (u2 (u2 (u2 iv 12 41 n7) 12 19 n2793) 12 48 n2797) 12 20 n2794) 12 21 n2795) 12 22 n2796) (u2 (u2 lv 12 17 n2798) 12 18 n2799) (u2 (u2 (u2 fa 12 39 n5) 12 40 n6) 12 49 n2792) la) := (show va_D _ (WM h g ca (u2 (u2 (u2 (u2 (u2 (u2 iv 12 41 n7) 12 19 n2793) 12 48 n2797) 12 20 n2794) 12 21 n2795) 12 22 n2796) (u2 (u2 lv 12 17 n2798) 12 18 n2799) (u2 (u2 (u2 fa 12 39 n5) 12 40 n6) 12 49 n2792) la) from hD).weaken (fun _ _ _ h => hFc _ h)
                                  have xr2791_0 : (n2794 : Int32).toInt = -1 := xr2791_0
                                  have xr2791_1 : (n2795 : Int32).toInt = -1 := xr2791_1
                                  have xr2791_2 : (n2796 : Int32).toInt = -1 := xr2791_2
                                  have xr2791_3 : (n2797 : Int32).toInt ≤ (w2773_i_12_48 : Int32).toInt + 1 := xr2791_3
                                  obtain ⟨v2800, ev2800⟩ : ∃ y : Int32, y = x2773_4 + 1 := ⟨_, rfl⟩
                                  have tv2800 := z_add ev2800 rfl (by decide : (1 : Int32).toInt = 1) (by omega) (by omega)
                                  refine lv_iinc (v := v2800) (lv' := [(4, .int v2800), (3, .int r4), (0, .ref h), (1, .int a), (2, .int b)]) hx hb dX12_cause_154 hl (k := 0) rfl (by rw [ev2800]; rfl) (by decide) rfl (fun ls hl => ?_)
                                  refine lv_goto (tgt := 100) hx hb dX12_cause_157 (by decide) ?_
                                  exact ih2774 v2800 n2793 n2797 n2794 n2795 n2796 n2798 n2799 n2792 ⟨by omega, by omega⟩ ⟨by omega, by omega⟩ hn2792 (show (n2797 : Int32).toInt ≤ 12 + (v2800 : Int32).toInt from by omega) (show (n2794 : Int32).toInt = -1 from by omega) (show (n2795 : Int32).toInt = -1 from by omega) (show (n2796 : Int32).toInt = -1 from by omega) (by omega) _ _ ls hP hD hS (lv_sub hl [0, 1, 2, 3, 4] rfl)
                      have : (0 : Int32).toInt = 0 := (by decide)
                      exact lp2774 61 0 w2176_i_12_19 w2176_i_12_48 w2176_i_12_20 w2176_i_12_21 w2176_i_12_22 w2176_l_12_17 w2176_l_12_18 w2176_a_12_49 ⟨by decide, by decide⟩ ⟨by omega, by omega⟩ hw2176_a_12_49 (show (w2176_i_12_48 : Int32).toInt ≤ 12 + (0 : Int32).toInt from by omega) (show (w2176_i_12_20 : Int32).toInt = -1 from by omega) (show (w2176_i_12_21 : Int32).toInt = -1 from by omega) (show (w2176_i_12_22 : Int32).toInt = -1 from by omega) (by first | decide | omega) _ _ ls hP hD hS (lv_sub hl [0, 1, 2, 3, 4] rfl)
                    · have fc2178 := z_nle (by decide : (8 : Int32).toInt = 8) (rfl : (x2176_4).toInt = _) c2178
                      refine lv_aload_n hx hb dX12_cause_81 rfl (lv_at hl 2 rfl) ?_
                      refine lv_iload_n hx hb dX12_cause_82 rfl (lv_at hl 3 rfl) ?_
                      refine lv_iload_n hx hb dX12_cause_83 rfl (lv_at hl 1 rfl) ?_
                      refine lv_iconst (v := (-1)) hx hb dX12_cause_84 (by decide) ?_
                      refine lv_iload hx hb dX12_cause_85 (lv_at hl 0 rfl) ?_
                      refine lv_iconst (v := (-1)) hx hb dX12_cause_87 (by decide) ?_
                      have : 0 ≤ (w2176_i_12_48 : Int32).toInt ∧ (w2176_i_12_48 : Int32).toInt ≤ 71 := ⟨by omega, by omega⟩
                      have hFc := free_all hD hS hA
                      refine va_callv (va_runV (As := [.int a, .int r4, .int (-1), .int x2176_4, .int (-1)]) (rest := []) ⟨hx, hb, hml, hown, ht⟩ (c_X12_tryCause l dC dI H.size h g ca (u2 (u2 (u2 (u2 (u2 (u2 iv 12 41 n7) 12 19 w2176_i_12_19) 12 48 w2176_i_12_48) 12 20 w2176_i_12_20) 12 21 w2176_i_12_21) 12 22 w2176_i_12_22) (u2 (u2 lv 12 17 w2176_l_12_17) 12 18 w2176_l_12_18) (u2 (u2 (u2 fa 12 39 n5) 12 40 n6) 12 49 w2176_a_12_49) la (IX_a (c := 12) (k := 49) (IX_a (c := 12) (k := 40) (IX_a (c := 12) (k := 39) (IX_i (c := 12) (k := 22) (IX_i (c := 12) (k := 21) (IX_i (c := 12) (k := 20) (IX_i (c := 12) (k := 48) (IX_i (c := 12) (k := 19) (IX_i (c := 12) (k := 41) hI (show inb (0, 8) n7 from ⟨by omega, by omega⟩)) (full_i _)) (show inb (0, 72) w2176_i_12_48 from ⟨by omega, by omega⟩)) (full_i _)) (full_i _)) (full_i _)) hn5) hn6) hw2176_a_12_49) a r4 (-1) x2176_4 (-1) (show 0 ≤ (w2176_i_12_48 : Int32).toInt ∧ (w2176_i_12_48 : Int32).toInt ≤ 71 from ⟨by omega, by omega⟩) hJR) (kV 5 ht m_1586 m_1588 m_66 m_89 m_1589 rfl rfl hd_X12_tryCause_v ⟨Nat.le_of_ble_eq_true rfl, Nat.le_of_ble_eq_true rfl⟩) (vW hP hK hD (rM_12 hK hP)) rfl rfl hl.1 rfl (lv_room (Nat.le_of_ble_eq_true rfl)) dX12_cause_88 ⟨Nat.le_of_ble_eq_true rfl, Nat.le_of_ble_eq_true rfl⟩) hS (fun q _ h => hFc q h) hFc (fun u t H1 locs ht9 hvm hr2801 hB hz1 hk1 hS => ?_)
                      obtain ⟨n2802, n2803, n2804, n2805, n2806, n2807, n2808, n2809, hn2807, xr2801_0, xr2801_1, xr2801_2, xr2801_3, rfl⟩ := hr2801
                      have hn2802 : ∀ j, inb (bA 12 49 j) (n2802 j) := fun j => full_i _
                      have hn2807 : 0 ≤ n2807.toInt ∧ n2807.toInt ≤ 72 := hn2807
                      obtain ⟨hP, hD⟩ := hB
                      rw [ht9] at hP
                      generalize H1 = H at hP hS ⊢
                      have hP : va_P (dC, dI) classes (WM h g ca (u2 (u2 (u2 (u2 (u2 (u2 iv 12 41 n7) 12 19 n2803) 12 48 n2807) 12 20 n2804) 12 21 n2805) 12 22 n2806) (u2 (u2 lv 12 17 n2808) 12 18 n2809) (u2 (u2 (u2 fa 12 39 n5) 12 40 n6) 12 49 n2802) la) H := hP
                      have hD : va_D A (WM h g ca (u2 (u2 (u2 (u2 (u2 (u2 iv 12 41 n7) 12 19 n2803) 12 48 n2807) 12 20 n2804) 12 21 n2805) 12 22 n2806) (u2 (u2 lv 12 17 n2808) 12 18 n2809) (u2 (u2 (u2 fa 12 39 n5) 12 40 n6) 12 49 n2802) la) := (show va_D _ (WM h g ca (u2 (u2 (u2 (u2 (u2 (u2 iv 12 41 n7) 12 19 n2803) 12 48 n2807) 12 20 n2804) 12 21 n2805) 12 22 n2806) (u2 (u2 lv 12 17 n2808) 12 18 n2809) (u2 (u2 (u2 fa 12 39 n5) 12 40 n6) 12 49 n2802) la) from hD).weaken (fun _ _ _ h => hFc _ h)
                      have xr2801_0 : (n2804 : Int32).toInt = -1 := xr2801_0
                      have xr2801_1 : (n2805 : Int32).toInt = -1 := xr2801_1
                      have xr2801_2 : (n2806 : Int32).toInt = -1 := xr2801_2
                      have xr2801_3 : (n2807 : Int32).toInt ≤ (w2176_i_12_48 : Int32).toInt + 1 := xr2801_3
                      obtain ⟨v2810, ev2810⟩ : ∃ y : Int32, y = x2176_4 + 1 := ⟨_, rfl⟩
                      have tv2810 := z_add ev2810 rfl (by decide : (1 : Int32).toInt = 1) (by omega) (by omega)
                      refine lv_iinc (v := v2810) (lv' := [(4, .int v2810), (3, .int r4), (0, .ref h), (1, .int a), (2, .int b)]) hx hb dX12_cause_91 hl (k := 0) rfl (by rw [ev2810]; rfl) (by decide) rfl (fun ls hl => ?_)
                      refine lv_goto (tgt := 74) hx hb dX12_cause_94 (by decide) ?_
                      exact ih2177 v2810 n2803 n2807 n2804 n2805 n2806 n2808 n2809 n2802 ⟨by omega, by omega⟩ ⟨by omega, by omega⟩ hn2802 (show (n2807 : Int32).toInt ≤ 4 + (v2810 : Int32).toInt from by omega) (show (n2804 : Int32).toInt = -1 from by omega) (show (n2805 : Int32).toInt = -1 from by omega) (show (n2806 : Int32).toInt = -1 from by omega) (by omega) _ _ ls hP hD hS (lv_sub hl [0, 1, 2, 3, 4] rfl)
                have : (0 : Int32).toInt = 0 := (by decide)
                exact lp2177 9 0 w1443_i_12_19 w1443_i_12_48 w1443_i_12_20 w1443_i_12_21 w1443_i_12_22 w1443_l_12_17 w1443_l_12_18 w1443_a_12_49 ⟨by decide, by decide⟩ ⟨by omega, by omega⟩ hw1443_a_12_49 (show (w1443_i_12_48 : Int32).toInt ≤ 4 + (0 : Int32).toInt from by omega) (show (w1443_i_12_20 : Int32).toInt = -1 from by omega) (show (w1443_i_12_21 : Int32).toInt = -1 from by omega) (show (w1443_i_12_22 : Int32).toInt = -1 from by omega) (by first | decide | omega) _ _ ls hP hD hS (lv_sub hl [0, 1, 2, 3, 4] rfl)
              · have fc1445 := z_nle (by decide : (4 : Int32).toInt = 4) (rfl : (x1443_4).toInt = _) c1445
                refine lv_aload_n hx hb dX12_cause_55 rfl (lv_at hl 2 rfl) ?_
                refine lv_iload_n hx hb dX12_cause_56 rfl (lv_at hl 3 rfl) ?_
                refine lv_iload_n hx hb dX12_cause_57 rfl (lv_at hl 1 rfl) ?_
                refine lv_iload hx hb dX12_cause_58 (lv_at hl 0 rfl) ?_
                refine lv_iconst (v := (-1)) hx hb dX12_cause_60 (by decide) ?_
                refine lv_iconst (v := (-1)) hx hb dX12_cause_61 (by decide) ?_
                have : 0 ≤ (w1443_i_12_48 : Int32).toInt ∧ (w1443_i_12_48 : Int32).toInt ≤ 71 := ⟨by omega, by omega⟩
                have hFc := free_all hD hS hA
                refine va_callv (va_runV (As := [.int a, .int r4, .int x1443_4, .int (-1), .int (-1)]) (rest := []) ⟨hx, hb, hml, hown, ht⟩ (c_X12_tryCause l dC dI H.size h g ca (u2 (u2 (u2 (u2 (u2 (u2 iv 12 41 n7) 12 19 w1443_i_12_19) 12 48 w1443_i_12_48) 12 20 w1443_i_12_20) 12 21 w1443_i_12_21) 12 22 w1443_i_12_22) (u2 (u2 lv 12 17 w1443_l_12_17) 12 18 w1443_l_12_18) (u2 (u2 (u2 fa 12 39 n5) 12 40 n6) 12 49 w1443_a_12_49) la (IX_a (c := 12) (k := 49) (IX_a (c := 12) (k := 40) (IX_a (c := 12) (k := 39) (IX_i (c := 12) (k := 22) (IX_i (c := 12) (k := 21) (IX_i (c := 12) (k := 20) (IX_i (c := 12) (k := 48) (IX_i (c := 12) (k := 19) (IX_i (c := 12) (k := 41) hI (show inb (0, 8) n7 from ⟨by omega, by omega⟩)) (full_i _)) (show inb (0, 72) w1443_i_12_48 from ⟨by omega, by omega⟩)) (full_i _)) (full_i _)) (full_i _)) hn5) hn6) hw1443_a_12_49) a r4 x1443_4 (-1) (-1) (show 0 ≤ (w1443_i_12_48 : Int32).toInt ∧ (w1443_i_12_48 : Int32).toInt ≤ 71 from ⟨by omega, by omega⟩) hJR) (kV 5 ht m_1586 m_1588 m_66 m_89 m_1589 rfl rfl hd_X12_tryCause_v ⟨Nat.le_of_ble_eq_true rfl, Nat.le_of_ble_eq_true rfl⟩) (vW hP hK hD (rM_12 hK hP)) rfl rfl hl.1 rfl (lv_room (Nat.le_of_ble_eq_true rfl)) dX12_cause_62 ⟨Nat.le_of_ble_eq_true rfl, Nat.le_of_ble_eq_true rfl⟩) hS (fun q _ h => hFc q h) hFc (fun u t H1 locs ht9 hvm hr2811 hB hz1 hk1 hS => ?_)
                obtain ⟨n2812, n2813, n2814, n2815, n2816, n2817, n2818, n2819, hn2817, xr2811_0, xr2811_1, xr2811_2, xr2811_3, rfl⟩ := hr2811
                have hn2812 : ∀ j, inb (bA 12 49 j) (n2812 j) := fun j => full_i _
                have hn2817 : 0 ≤ n2817.toInt ∧ n2817.toInt ≤ 72 := hn2817
                obtain ⟨hP, hD⟩ := hB
                rw [ht9] at hP
                generalize H1 = H at hP hS ⊢
                have hP : va_P (dC, dI) classes (WM h g ca (u2 (u2 (u2 (u2 (u2 (u2 iv 12 41 n7) 12 19 n2813) 12 48 n2817) 12 20 n2814) 12 21 n2815) 12 22 n2816) (u2 (u2 lv 12 17 n2818) 12 18 n2819) (u2 (u2 (u2 fa 12 39 n5) 12 40 n6) 12 49 n2812) la) H := hP
                have hD : va_D A (WM h g ca (u2 (u2 (u2 (u2 (u2 (u2 iv 12 41 n7) 12 19 n2813) 12 48 n2817) 12 20 n2814) 12 21 n2815) 12 22 n2816) (u2 (u2 lv 12 17 n2818) 12 18 n2819) (u2 (u2 (u2 fa 12 39 n5) 12 40 n6) 12 49 n2812) la) := (show va_D _ (WM h g ca (u2 (u2 (u2 (u2 (u2 (u2 iv 12 41 n7) 12 19 n2813) 12 48 n2817) 12 20 n2814) 12 21 n2815) 12 22 n2816) (u2 (u2 lv 12 17 n2818) 12 18 n2819) (u2 (u2 (u2 fa 12 39 n5) 12 40 n6) 12 49 n2812) la) from hD).weaken (fun _ _ _ h => hFc _ h)
                have xr2811_0 : (n2814 : Int32).toInt = -1 := xr2811_0
                have xr2811_1 : (n2815 : Int32).toInt = -1 := xr2811_1
                have xr2811_2 : (n2816 : Int32).toInt = -1 := xr2811_2
                have xr2811_3 : (n2817 : Int32).toInt ≤ (w1443_i_12_48 : Int32).toInt + 1 := xr2811_3
                obtain ⟨v2820, ev2820⟩ : ∃ y : Int32, y = x1443_4 + 1 := ⟨_, rfl⟩
                have tv2820 := z_add ev2820 rfl (by decide : (1 : Int32).toInt = 1) (by omega) (by omega)
                refine lv_iinc (v := v2820) (lv' := [(4, .int v2820), (3, .int r4), (0, .ref h), (1, .int a), (2, .int b)]) hx hb dX12_cause_65 hl (k := 0) rfl (by rw [ev2820]; rfl) (by decide) rfl (fun ls hl => ?_)
                refine lv_goto (tgt := 49) hx hb dX12_cause_68 (by decide) ?_
                exact ih1444 v2820 n2813 n2817 n2814 n2815 n2816 n2818 n2819 n2812 ⟨by omega, by omega⟩ ⟨by omega, by omega⟩ hn2812 (show (n2817 : Int32).toInt ≤ (v2820 : Int32).toInt from by omega) (show (n2814 : Int32).toInt = -1 from by omega) (show (n2815 : Int32).toInt = -1 from by omega) (show (n2816 : Int32).toInt = -1 from by omega) (by omega) _ _ ls hP hD hS (lv_sub hl [0, 1, 2, 3, 4] rfl)
          have : (0 : Int32).toInt = 0 := (by decide)
          exact lp1444 5 0 n14 0 (iv 12 20) (iv 12 21) (iv 12 22) n15 n16 (fa 12 49) ⟨by decide, by decide⟩ ⟨by decide, by decide⟩ (hI.2 12 49) (show (0 : Int32).toInt ≤ (0 : Int32).toInt from by omega) (show ((iv 12 20) : Int32).toInt = -1 from by omega) (show ((iv 12 21) : Int32).toInt = -1 from by omega) (show ((iv 12 22) : Int32).toInt = -1 from by omega) (by first | decide | omega) _ _ ls hP hD hS (lv_sub hl [0, 1, 2, 3, 4] rfl)
        · have fc17 := z_eq (rfl : (r13).toInt = _) (by decide : (0 : Int32).toInt = 0) c17
          refine lv_ldc hx hb hown (ht _ m_1374) dX12_cause_38 ?_
          have hP9 : va_P (dC, dI) classes (WM h g ca (u2 (u2 (u2 (u2 (u2 (u2 iv 12 19 n14) 12 20 (iv 12 20)) 12 21 (iv 12 21)) 12 22 (iv 12 22)) 12 41 n7) 12 48 (iv 12 48)) (u2 (u2 lv 12 17 n15) 12 18 n16) (u2 (u2 (u2 fa 12 39 n5) 12 40 n6) 12 49 (fa 12 49)) la) H := hP
          have hD9 : va_D A (WM h g ca (u2 (u2 (u2 (u2 (u2 (u2 iv 12 19 n14) 12 20 (iv 12 20)) 12 21 (iv 12 21)) 12 22 (iv 12 22)) 12 41 n7) 12 48 (iv 12 48)) (u2 (u2 lv 12 17 n15) 12 18 n16) (u2 (u2 (u2 fa 12 39 n5) 12 40 n6) 12 49 (fa 12 49)) la) := hD
          exact W.iret (v := (-100003)) hx hb hr (fun t ht9 hW => ⟨⟨(-100003), ((u2 (u2 (u2 (u2 (u2 (u2 iv 12 19 n14) 12 20 (iv 12 20)) 12 21 (iv 12 21)) 12 22 (iv 12 22)) 12 41 n7) 12 48 (iv 12 48)), (u2 (u2 lv 12 17 n15) 12 18 n16), (u2 (u2 (u2 fa 12 39 n5) 12 40 n6) 12 49 (fa 12 49)), la), rfl, ⟨n5, n6, (fa 12 49), n14, (iv 12 20), (iv 12 21), (iv 12 22), n7, (iv 12 48), n15, n16, hn5, hn6, (show inb (0, 8) n7 from ⟨by omega, by omega⟩), (hI.1 12 48), (show ((iv 12 20) : Int32).toInt = -1 from by omega), (show ((iv 12 21) : Int32).toInt = -1 from by omega), (show ((iv 12 22) : Int32).toInt = -1 from by omega), trivial, rfl⟩, by rw [ht9]; exact hP9, hD9⟩, hS.F ht9⟩) hS.2.2 dX12_cause_40
    · exact absurd rfl c3
set_option maxHeartbeats 4000000 in
set_option maxRecDepth 100000 in
/-- X12_odd -/
theorem c_X12_odd (l : Launch) (dC : Nat → ClassId) (dI : Nat → Nat → Nat) (sz : Nat) (h : Nat) (g : Nat → Nat → Nat) (ca : Nat → Nat → ClassId) (iv : Nat → Nat → Int32) (lv : Nat → Nat → Int64) (fa : Nat → Nat → Nat → Int32) (la : Nat → Nat → Nat → Int64) (hI : IX iv fa) (a : Int32) (b : Int32) (hJC : JCf (iv 12 23).toInt (fa 12 25) (fa 12 26) (fa 12 27) (fa 12 28)) : Met l yX12_odd (wc yX12_odd cX12_odd 8 (some .int)) ({ frames := 2, cells := 0, slots := 0, locals := 49 } : Room) (pW (dC, dI) classes (WM h g ca iv lv fa la) (TM ca) sz [.ref h, .int a, .int b]) (va_Qi (fun r (u : SS) => ∃ (na_12_39 : Nat → Int32) (na_12_40 : Nat → Int32) (ni_12_41 : Int32), (∀ j, inb (bA 12 39 j) (na_12_39 j)) ∧ (∀ j, inb (bA 12 40 j) (na_12_40 j)) ∧ inb (bI 12 41) ni_12_41 ∧ (True) ∧ u = ((u2 iv 12 41 ni_12_41), lv, (u2 (u2 fa 12 39 na_12_39) 12 40 na_12_40), la)) (bM (dC, dI) h g ca (va_A (WM h g ca iv lv fa la) sz)) (va_A (WM h g ca iv lv fa la) sz)) 0 0 (va_A (WM h g ca iv lv fa la) sz) := by
  refine Met.ofW (cc := cX12_odd) (maxL := 8) (ret := (some .int)) (by decide) rfl ?_
  intro p e s m args below meth c s₁ B hml hv
  obtain ⟨rfl, hsz, hP, hK, hD0⟩ := hv
  have hx := B.exec
  have hb := B.bytes
  have hr := B.returns
  have ht := tb_tl (atoms_spec (ws := wc yX12_odd cX12_odd 8 (some .int)) B.pre)
  have hown : s.vm.findClass RX12 = some m.cls := findClass_of_methodNamed B.named
  have hlocks := B.notSynchronized
  subst hsz
  have hD := hD0.self (sz := s.heap.size)
  generalize hAe : va_A (WM h g ca iv lv fa la) s.heap.size = A at hD ⊢
  have hA : ∀ q : Nat, s.heap.size ≤ q → A q := fun q h => by rw [← hAe]; exact Or.inr h
  have hS : va_S A s.heap s.heap [] := va_S.rf
  have hl := lv_entry [.ref h, .int a, .int b] (n := 8) (Nat.le_of_ble_eq_true rfl)
  rw [lg_entry_eq]
  generalize (lg_sl [.ref h, .int a, .int b] ++ List.replicate (8 - (lg_sl [.ref h, .int a, .int b]).length) Slot.unset).toArray = ls at hl ⊢
  have hl : lv_has ls 8 [(0, .ref h), (1, .int a), (2, .int b)] := hl
  refine lv_aload_n hx hb dX12_odd_0 rfl (lv_at hl 0 rfl) ?_
  refine lv_iload_n hx hb dX12_odd_1 rfl (lv_at hl 1 rfl) ?_
  refine vp_callSi (W.runV (As := [.int a]) (rest := []) ⟨hx, hb, hml, hown, ht⟩ (c_X12_noBale l dC dI h g ca iv lv fa la hI a) (kV 1 ht m_1385 m_1387 m_42 m_89 m_1388 rfl rfl hd_X12_noBale_v ⟨Nat.le_of_ble_eq_true rfl, Nat.le_of_ble_eq_true rfl⟩) (vR hP hK (rM_12 hK hP)) rfl rfl hl.1 rfl (lv_room (Nat.le_of_ble_eq_true rfl)) dX12_odd_2 ⟨Nat.le_of_ble_eq_true rfl, Nat.le_of_ble_eq_true rfl⟩) (fun r1 hr1 => ?_)
  rcases hr1 with ⟨rfl, fr1⟩ | ⟨rfl, fr1⟩
  · skip
    have i_12_1 : 0 ≤ (iv 12 1).toInt ∧ (iv 12 1).toInt ≤ 10 := hI.1 12 1
    have fr1 : ¬ (0 ≤ (a : Int32).toInt ∧ (a : Int32).toInt < ((iv 12 1) : Int32).toInt) := fr1
    refine lv_if_eq (tgt := 11) hx hb dX12_odd_5 (by decide) (fun c2 => ?_) (fun c2 => ?_)
    · exact absurd c2 (by decide)
    · skip
      refine lv_ldc hx hb hown (ht _ m_1389) dX12_odd_8 ?_
      have hP9 : va_P (dC, dI) classes (WM h g ca (u2 iv 12 41 (iv 12 41)) lv (u2 (u2 fa 12 39 (fa 12 39)) 12 40 (fa 12 40)) la) s.heap := hP
      have hD9 : va_D A (WM h g ca (u2 iv 12 41 (iv 12 41)) lv (u2 (u2 fa 12 39 (fa 12 39)) 12 40 (fa 12 40)) la) := hD
      exact W.iret (v := (-100001)) hx hb hr (fun t ht9 hW => ⟨⟨(-100001), ((u2 iv 12 41 (iv 12 41)), lv, (u2 (u2 fa 12 39 (fa 12 39)) 12 40 (fa 12 40)), la), rfl, ⟨(fa 12 39), (fa 12 40), (iv 12 41), (hI.2 12 39), (hI.2 12 40), (hI.1 12 41), trivial, rfl⟩, by rw [ht9]; exact hP9, hD9⟩, hS.F ht9⟩) hS.2.2 dX12_odd_10
  · skip
    have i_12_1 : 0 ≤ (iv 12 1).toInt ∧ (iv 12 1).toInt ≤ 10 := hI.1 12 1
    have fr1 : (0 ≤ (a : Int32).toInt ∧ (a : Int32).toInt < ((iv 12 1) : Int32).toInt) := Decidable.not_not.mp fr1
    refine lv_if_eq (tgt := 11) hx hb dX12_odd_5 (by decide) (fun c3 => ?_) (fun c3 => ?_)
    · skip
      refine lv_iload_n hx hb dX12_odd_11 rfl (lv_at hl 2 rfl) ?_
      refine lv_i2l (v := (b.toInt64)) hx hb dX12_odd_12 rfl ?_
      refine lv_lconst (v := 0) hx hb dX12_odd_13 (by decide) ?_
      refine lv_ldc2 hx hb hown (ht _ m_1390) dX12_odd_14 ?_
      refine vp_callSi (W.runS (As := [.long (b.toInt64), .long 0, .long 2]) (rest := []) ⟨hx, hb, hml, hown, ht⟩ (c_X12_in l dC dI (b.toInt64) 0 2 (b.toInt) (0) (2) ((Int32.toInt_toInt64 b).trans rfl) (by decide : (0 : Int64).toInt = 0) (by decide : (2 : Int64).toInt = 2)) (kS 3 ht m_1370 m_1371 m_89 m_1372 rfl rfl hd_X12_in_v ⟨Nat.le_of_ble_eq_true rfl, Nat.le_of_ble_eq_true rfl⟩) (sR noP (hK.sub (tys' := []) [] rfl)) rfl rfl hl.1 rfl (lv_room (Nat.le_of_ble_eq_true rfl)) dX12_odd_17 ⟨Nat.le_of_ble_eq_true rfl, Nat.le_of_ble_eq_true rfl⟩) (fun r4 hr4 => ?_)
      rcases hr4 with ⟨rfl, fr4⟩ | ⟨rfl, fr4⟩
      · skip
        refine lv_if_ne (tgt := 26) hx hb dX12_odd_20 (by decide) (fun c5 => ?_) (fun c5 => ?_)
        · skip
          refine lv_aload_n hx hb dX12_odd_26 rfl (lv_at hl 0 rfl) ?_
          refine lv_iconst (v := 2) hx hb dX12_odd_27 (by decide) ?_
          refine lv_aload_n hx hb dX12_odd_28 rfl (lv_at hl 0 rfl) ?_
          have i_12_0 : 0 ≤ (iv 12 0).toInt ∧ (iv 12 0).toInt ≤ 3000 := hI.1 12 0
          refine gM_12_0 hx hb ht hown hK hP m_1139 (v := (iv 12 0)) rfl dX12_odd_29 ?_
          have hFc := free_all hD hS hA
          refine va_calli (va_runV (As := [.int 2, .int (iv 12 0)]) (rest := []) ⟨hx, hb, hml, hown, ht⟩ (c_X12_forceOf l dC dI s.heap.size h g ca iv lv fa la hI 2 (iv 12 0) ⟨by decide, by decide⟩ hJC) (kV 2 ht m_1509 m_1511 m_55 m_89 m_1512 rfl rfl hd_X12_forceOf_v ⟨Nat.le_of_ble_eq_true rfl, Nat.le_of_ble_eq_true rfl⟩) (vW hP hK hD (rM_12 hK hP)) rfl rfl hl.1 rfl (lv_room (Nat.le_of_ble_eq_true rfl)) dX12_odd_32 ⟨Nat.le_of_ble_eq_true rfl, Nat.le_of_ble_eq_true rfl⟩) hS (fun q _ h => hFc q h) hFc (fun r6 u t H1 locs ht9 hvm hr6 hB hz1 hk1 hS => ?_)
          obtain ⟨n7, n8, n9, hn7, hn8, hn9, hr6, rfl⟩ := hr6
          have hn9 : 0 ≤ n9.toInt ∧ n9.toInt ≤ 8 := hn9
          obtain ⟨hP, hD⟩ := hB
          rw [ht9] at hP
          generalize H1 = H at hP hS ⊢
          have hP : va_P (dC, dI) classes (WM h g ca (u2 iv 12 41 n9) lv (u2 (u2 fa 12 39 n7) 12 40 n8) la) H := hP
          have hD : va_D A (WM h g ca (u2 iv 12 41 n9) lv (u2 (u2 fa 12 39 n7) 12 40 n8) la) := (show va_D _ (WM h g ca (u2 iv 12 41 n9) lv (u2 (u2 fa 12 39 n7) 12 40 n8) la) from hD).weaken (fun _ _ _ h => hFc _ h)
          refine lv_istore_n (lv' := [(3, .int r6), (0, .ref h), (1, .int a), (2, .int b)]) hx hb dX12_odd_35 rfl hl (by decide) rfl (fun ls hl => ?_)
          refine lv_iconst (v := 0) hx hb dX12_odd_36 (by decide) ?_
          refine lv_istore (lv' := [(4, .int 0), (3, .int r6), (0, .ref h), (1, .int a), (2, .int b)]) hx hb dX12_odd_37 hl (by decide) rfl (fun ls hl => ?_)
          refine lv_iconst (v := 0) hx hb dX12_odd_39 (by decide) ?_
          refine lv_istore (lv' := [(5, .int 0), (4, .int 0), (3, .int r6), (0, .ref h), (1, .int a), (2, .int b)]) hx hb dX12_odd_40 hl (by decide) rfl (fun ls hl => ?_)
          have lp16827 : ∀ (nn16827 : Nat) (x16826_5 : Int32) (x16826_4 : Int32), 0 ≤ x16826_5.toInt ∧ x16826_5.toInt ≤ 60 → 60 - x16826_5.toInt < (nn16827 : Int) → ∀ (H : Heap) (locs : List Loc), ∀ (ls : Array Slot), va_P (dC, dI) classes (WM h g ca (u2 iv 12 41 n9) lv (u2 (u2 fa 12 39 n7) 12 40 n8) la) H → va_D A (WM h g ca (u2 iv 12 41 n9) lv (u2 (u2 fa 12 39 n7) 12 40 n8) la) → va_S A s.heap H locs → lv_has ls 8 [(5, .int x16826_5), (4, .int x16826_4), (3, .int r6), (0, .ref h), (1, .int a), (2, .int b)] → W p l e ({ frames := 2, cells := 0, slots := 0, locals := 49 } : Room) s m ([.ref h, .int a, .int b] : List Value).toArray below meth c H locs 0 0 (MQ below (va_Qi (fun r (u : SS) => ∃ (na_12_39 : Nat → Int32) (na_12_40 : Nat → Int32) (ni_12_41 : Int32), (∀ j, inb (bA 12 39 j) (na_12_39 j)) ∧ (∀ j, inb (bA 12 40 j) (na_12_40 j)) ∧ inb (bI 12 41) ni_12_41 ∧ (True) ∧ u = ((u2 iv 12 41 ni_12_41), lv, (u2 (u2 fa 12 39 na_12_39) 12 40 na_12_40), la)) (bM (dC, dI) h g ca A) A) ([.ref h, .int a, .int b] : List Value).toArray s 0 0 A) (F0 m 42 ls []) := by
            intro nn16827
            induction nn16827 with
            | zero => intro x16826_5 x16826_4 hx16826_5 hm16827; exfalso; omega
            | succ nn16827 ih16827 =>
              intro x16826_5 x16826_4 hx16826_5 hm16827 H locs ls hP hD hS hl
              refine lv_iload hx hb dX12_odd_42 (lv_at hl 0 rfl) ?_
              refine lv_aload_n hx hb dX12_odd_44 rfl (lv_at hl 3 rfl) ?_
              have i_12_3 : 0 ≤ (iv 12 3).toInt ∧ (iv 12 3).toInt ≤ 60 := hI.1 12 3
              refine gM_12_3 hx hb ht hown hK hP m_1142 (v := (iv 12 3)) rfl dX12_odd_45 ?_
              refine lv_icmp_ge (tgt := 207) hx hb dX12_odd_48 (by decide) (fun c16828 => ?_) (fun c16828 => ?_)
              · have fc16828 := z_le (rfl : ((iv 12 3)).toInt = _) (rfl : (x16826_5).toInt = _) c16828
                refine lv_iload hx hb dX12_odd_207 (lv_at hl 1 rfl) ?_
                have hP9 : va_P (dC, dI) classes (WM h g ca (u2 iv 12 41 n9) lv (u2 (u2 fa 12 39 n7) 12 40 n8) la) H := hP
                have hD9 : va_D A (WM h g ca (u2 iv 12 41 n9) lv (u2 (u2 fa 12 39 n7) 12 40 n8) la) := hD
                exact W.iret (v := x16826_4) hx hb hr (fun t ht9 hW => ⟨⟨x16826_4, ((u2 iv 12 41 n9), lv, (u2 (u2 fa 12 39 n7) 12 40 n8), la), rfl, ⟨n7, n8, n9, hn7, hn8, (show inb (0, 8) n9 from ⟨by omega, by omega⟩), trivial, rfl⟩, by rw [ht9]; exact hP9, hD9⟩, hS.F ht9⟩) hS.2.2 dX12_odd_209
              · have fc16828 := z_nle (rfl : ((iv 12 3)).toInt = _) (rfl : (x16826_5).toInt = _) c16828
                refine lv_iconst (v := 0) hx hb dX12_odd_51 (by decide) ?_
                refine lv_istore (lv' := [(6, .int 0), (5, .int x16826_5), (4, .int x16826_4), (3, .int r6), (0, .ref h), (1, .int a), (2, .int b)]) hx hb dX12_odd_52 hl (by decide) rfl (fun ls hl => ?_)
                have lp17922 : ∀ (nn17922 : Nat) (x17921_6 : Int32) (x17921_4 : Int32), 0 ≤ x17921_6.toInt ∧ x17921_6.toInt ≤ 59 → 59 - x17921_6.toInt < (nn17922 : Int) → ∀ (H : Heap) (locs : List Loc), ∀ (ls : Array Slot), va_P (dC, dI) classes (WM h g ca (u2 iv 12 41 n9) lv (u2 (u2 fa 12 39 n7) 12 40 n8) la) H → va_D A (WM h g ca (u2 iv 12 41 n9) lv (u2 (u2 fa 12 39 n7) 12 40 n8) la) → va_S A s.heap H locs → lv_has ls 8 [(6, .int x17921_6), (5, .int x16826_5), (4, .int x17921_4), (3, .int r6), (0, .ref h), (1, .int a), (2, .int b)] → W p l e ({ frames := 2, cells := 0, slots := 0, locals := 49 } : Room) s m ([.ref h, .int a, .int b] : List Value).toArray below meth c H locs 0 0 (MQ below (va_Qi (fun r (u : SS) => ∃ (na_12_39 : Nat → Int32) (na_12_40 : Nat → Int32) (ni_12_41 : Int32), (∀ j, inb (bA 12 39 j) (na_12_39 j)) ∧ (∀ j, inb (bA 12 40 j) (na_12_40 j)) ∧ inb (bI 12 41) ni_12_41 ∧ (True) ∧ u = ((u2 iv 12 41 ni_12_41), lv, (u2 (u2 fa 12 39 na_12_39) 12 40 na_12_40), la)) (bM (dC, dI) h g ca A) A) ([.ref h, .int a, .int b] : List Value).toArray s 0 0 A) (F0 m 54 ls []) := by
                  intro nn17922
                  induction nn17922 with
                  | zero => intro x17921_6 x17921_4 hx17921_6 hm17922; exfalso; omega
                  | succ nn17922 ih17922 =>
                    intro x17921_6 x17921_4 hx17921_6 hm17922 H locs ls hP hD hS hl
                    refine lv_iload hx hb dX12_odd_54 (lv_at hl 0 rfl) ?_
                    refine lv_iload hx hb dX12_odd_56 (lv_at hl 1 rfl) ?_
                    refine lv_icmp_ge (tgt := 201) hx hb dX12_odd_58 (by decide) (fun c17923 => ?_) (fun c17923 => ?_)
                    · have fc17923 := z_le (rfl : (x16826_5).toInt = _) (rfl : (x17921_6).toInt = _) c17923
                      obtain ⟨v17924, ev17924⟩ : ∃ y : Int32, y = x16826_5 + 1 := ⟨_, rfl⟩
                      have tv17924 := z_add ev17924 rfl (by decide : (1 : Int32).toInt = 1) (by omega) (by omega)
                      refine lv_iinc (v := v17924) (lv' := [(5, .int v17924), (6, .int x17921_6), (4, .int x17921_4), (3, .int r6), (0, .ref h), (1, .int a), (2, .int b)]) hx hb dX12_odd_201 hl (k := 1) rfl (by rw [ev17924]; rfl) (by decide) rfl (fun ls hl => ?_)
                      refine lv_goto (tgt := 42) hx hb dX12_odd_204 (by decide) ?_
                      exact ih16827 v17924 x17921_4 ⟨by omega, by omega⟩ (by omega) _ _ ls hP hD hS (lv_sub hl [0, 2, 3, 4, 5, 6] rfl)
                    · have fc17923 := z_nle (rfl : (x16826_5).toInt = _) (rfl : (x17921_6).toInt = _) c17923
                      refine lv_aload_n hx hb dX12_odd_61 rfl (lv_at hl 4 rfl) ?_
                      refine gM_12_4 hx hb ht hown hK hP m_1143 dX12_odd_62 ?_
                      refine lv_iload hx hb dX12_odd_65 (lv_at hl 1 rfl) ?_
                      refine lM_12_4 hx hb hK hP (f := (fa 12 4)) rfl (vp_in_iff.mpr ⟨by omega, by omega⟩) dX12_odd_67 ?_
                      refine lv_topi (fun v17925 ev17925 => ?_)
                      refine lv_iload_n hx hb dX12_odd_68 rfl (lv_at hl 5 rfl) ?_
                      refine lv_icmp_ne (tgt := 135) hx hb dX12_odd_69 (by decide) (fun c17926 => ?_) (fun c17926 => ?_)
                      · have fc17926 := z_ne (rfl : (v17925).toInt = _) (rfl : (a).toInt = _) c17926
                        refine lv_iconst (v := 0) hx hb dX12_odd_135 (by decide) ?_
                        refine lv_istore (lv' := [(7, .int 0), (6, .int x17921_6), (5, .int x16826_5), (4, .int x17921_4), (3, .int r6), (0, .ref h), (1, .int a), (2, .int b)]) hx hb dX12_odd_136 hl (by decide) rfl (fun ls hl => ?_)
                        refine lv_iload hx hb dX12_odd_138 (lv_at hl 3 rfl) ?_
                        refine lv_iload hx hb dX12_odd_140 (lv_at hl 0 rfl) ?_
                        refine lv_if_eq (tgt := 188) hx hb dX12_odd_142 (by decide) (fun c17927 => ?_) (fun c17927 => ?_)
                        · skip
                          refine lv_iconst (v := 0) hx hb dX12_odd_188 (by decide) ?_
                          refine vp_callSi (W.runS (As := [.int 0]) (rest := [.int x17921_4]) ⟨hx, hb, hml, hown, ht⟩ (c_X12_bit_0 l dC dI) (kS 1 ht m_1396 m_1397 m_89 m_1398 rfl rfl hd_X12_bit_v ⟨Nat.le_of_ble_eq_true rfl, Nat.le_of_ble_eq_true rfl⟩) (sR noP (hK.sub (tys' := []) [] rfl)) rfl rfl hl.1 rfl (lv_room (Nat.le_of_ble_eq_true rfl)) dX12_odd_189 ⟨Nat.le_of_ble_eq_true rfl, Nat.le_of_ble_eq_true rfl⟩) (fun r17928 hr17928 => ?_)
                          obtain rfl : 0 = r17928 := hr17928.symm
                          refine lv_iadd hx hb dX12_odd_192 ?_
                          refine lv_topi (fun v17929 ev17929 => ?_)
                          refine lv_istore (lv' := [(4, .int v17929), (7, .int 0), (6, .int x17921_6), (5, .int x16826_5), (3, .int r6), (0, .ref h), (1, .int a), (2, .int b)]) hx hb dX12_odd_193 hl (by decide) rfl (fun ls hl => ?_)
                          obtain ⟨v17930, ev17930⟩ : ∃ y : Int32, y = x17921_6 + 1 := ⟨_, rfl⟩
                          have tv17930 := z_add ev17930 rfl (by decide : (1 : Int32).toInt = 1) (by omega) (by omega)
                          refine lv_iinc (v := v17930) (lv' := [(6, .int v17930), (4, .int v17929), (7, .int 0), (5, .int x16826_5), (3, .int r6), (0, .ref h), (1, .int a), (2, .int b)]) hx hb dX12_odd_195 hl (k := 2) rfl (by rw [ev17930]; rfl) (by decide) rfl (fun ls hl => ?_)
                          refine lv_goto (tgt := 54) hx hb dX12_odd_198 (by decide) ?_
                          exact ih17922 v17930 v17929 ⟨by omega, by omega⟩ (by omega) _ _ ls hP hD hS (lv_sub hl [0, 3, 1, 4, 5, 6, 7] rfl)
                        · exact absurd rfl c17927
                      · have fc17926 := z_eq (rfl : (v17925).toInt = _) (rfl : (a).toInt = _) c17926
                        refine lv_aload_n hx hb dX12_odd_72 rfl (lv_at hl 4 rfl) ?_
                        refine gM_12_4 hx hb ht hown hK hP m_1143 dX12_odd_73 ?_
                        refine lv_iload hx hb dX12_odd_76 (lv_at hl 0 rfl) ?_
                        refine lM_12_4 hx hb hK hP (f := (fa 12 4)) rfl (vp_in_iff.mpr ⟨by omega, by omega⟩) dX12_odd_78 ?_
                        refine lv_topi (fun v17931 ev17931 => ?_)
                        refine lv_iload_n hx hb dX12_odd_79 rfl (lv_at hl 5 rfl) ?_
                        refine lv_icmp_ne (tgt := 135) hx hb dX12_odd_80 (by decide) (fun c17932 => ?_) (fun c17932 => ?_)
                        · have fc17932 := z_ne (rfl : (v17931).toInt = _) (rfl : (a).toInt = _) c17932
                          refine lv_iconst (v := 0) hx hb dX12_odd_135 (by decide) ?_
                          refine lv_istore (lv' := [(7, .int 0), (6, .int x17921_6), (5, .int x16826_5), (4, .int x17921_4), (3, .int r6), (0, .ref h), (1, .int a), (2, .int b)]) hx hb dX12_odd_136 hl (by decide) rfl (fun ls hl => ?_)
                          refine lv_iload hx hb dX12_odd_138 (lv_at hl 3 rfl) ?_
                          refine lv_iload hx hb dX12_odd_140 (lv_at hl 0 rfl) ?_
                          refine lv_if_eq (tgt := 188) hx hb dX12_odd_142 (by decide) (fun c17933 => ?_) (fun c17933 => ?_)
                          · skip
                            refine lv_iconst (v := 0) hx hb dX12_odd_188 (by decide) ?_
                            refine vp_callSi (W.runS (As := [.int 0]) (rest := [.int x17921_4]) ⟨hx, hb, hml, hown, ht⟩ (c_X12_bit_0 l dC dI) (kS 1 ht m_1396 m_1397 m_89 m_1398 rfl rfl hd_X12_bit_v ⟨Nat.le_of_ble_eq_true rfl, Nat.le_of_ble_eq_true rfl⟩) (sR noP (hK.sub (tys' := []) [] rfl)) rfl rfl hl.1 rfl (lv_room (Nat.le_of_ble_eq_true rfl)) dX12_odd_189 ⟨Nat.le_of_ble_eq_true rfl, Nat.le_of_ble_eq_true rfl⟩) (fun r17934 hr17934 => ?_)
                            obtain rfl : 0 = r17934 := hr17934.symm
                            refine lv_iadd hx hb dX12_odd_192 ?_
                            refine lv_topi (fun v17935 ev17935 => ?_)
                            refine lv_istore (lv' := [(4, .int v17935), (7, .int 0), (6, .int x17921_6), (5, .int x16826_5), (3, .int r6), (0, .ref h), (1, .int a), (2, .int b)]) hx hb dX12_odd_193 hl (by decide) rfl (fun ls hl => ?_)
                            obtain ⟨v17936, ev17936⟩ : ∃ y : Int32, y = x17921_6 + 1 := ⟨_, rfl⟩
                            have tv17936 := z_add ev17936 rfl (by decide : (1 : Int32).toInt = 1) (by omega) (by omega)
                            refine lv_iinc (v := v17936) (lv' := [(6, .int v17936), (4, .int v17935), (7, .int 0), (5, .int x16826_5), (3, .int r6), (0, .ref h), (1, .int a), (2, .int b)]) hx hb dX12_odd_195 hl (k := 2) rfl (by rw [ev17936]; rfl) (by decide) rfl (fun ls hl => ?_)
                            refine lv_goto (tgt := 54) hx hb dX12_odd_198 (by decide) ?_
                            exact ih17922 v17936 v17935 ⟨by omega, by omega⟩ (by omega) _ _ ls hP hD hS (lv_sub hl [0, 3, 1, 4, 5, 6, 7] rfl)
                          · exact absurd rfl c17933
                        · have fc17932 := z_eq (rfl : (v17931).toInt = _) (rfl : (a).toInt = _) c17932
                          refine lv_aload_n hx hb dX12_odd_83 rfl (lv_at hl 4 rfl) ?_
                          refine gM_12_5 hx hb ht hown hK hP m_1144 dX12_odd_84 ?_
                          refine lv_iload hx hb dX12_odd_87 (lv_at hl 1 rfl) ?_
                          refine lM_12_5 hx hb hK hP (f := (fa 12 5)) rfl (vp_in_iff.mpr ⟨by omega, by omega⟩) dX12_odd_89 ?_
                          refine lv_topi (fun v17937 ev17937 => ?_)
                          refine lv_iload_n hx hb dX12_odd_90 rfl (lv_at hl 6 rfl) ?_
                          refine lv_icmp_ne (tgt := 135) hx hb dX12_odd_91 (by decide) (fun c17938 => ?_) (fun c17938 => ?_)
                          · have fc17938 := z_ne (rfl : (v17937).toInt = _) (rfl : (b).toInt = _) c17938
                            refine lv_iconst (v := 0) hx hb dX12_odd_135 (by decide) ?_
                            refine lv_istore (lv' := [(7, .int 0), (6, .int x17921_6), (5, .int x16826_5), (4, .int x17921_4), (3, .int r6), (0, .ref h), (1, .int a), (2, .int b)]) hx hb dX12_odd_136 hl (by decide) rfl (fun ls hl => ?_)
                            refine lv_iload hx hb dX12_odd_138 (lv_at hl 3 rfl) ?_
                            refine lv_iload hx hb dX12_odd_140 (lv_at hl 0 rfl) ?_
                            refine lv_if_eq (tgt := 188) hx hb dX12_odd_142 (by decide) (fun c17939 => ?_) (fun c17939 => ?_)
                            · skip
                              refine lv_iconst (v := 0) hx hb dX12_odd_188 (by decide) ?_
                              refine vp_callSi (W.runS (As := [.int 0]) (rest := [.int x17921_4]) ⟨hx, hb, hml, hown, ht⟩ (c_X12_bit_0 l dC dI) (kS 1 ht m_1396 m_1397 m_89 m_1398 rfl rfl hd_X12_bit_v ⟨Nat.le_of_ble_eq_true rfl, Nat.le_of_ble_eq_true rfl⟩) (sR noP (hK.sub (tys' := []) [] rfl)) rfl rfl hl.1 rfl (lv_room (Nat.le_of_ble_eq_true rfl)) dX12_odd_189 ⟨Nat.le_of_ble_eq_true rfl, Nat.le_of_ble_eq_true rfl⟩) (fun r17940 hr17940 => ?_)
                              obtain rfl : 0 = r17940 := hr17940.symm
                              refine lv_iadd hx hb dX12_odd_192 ?_
                              refine lv_topi (fun v17941 ev17941 => ?_)
                              refine lv_istore (lv' := [(4, .int v17941), (7, .int 0), (6, .int x17921_6), (5, .int x16826_5), (3, .int r6), (0, .ref h), (1, .int a), (2, .int b)]) hx hb dX12_odd_193 hl (by decide) rfl (fun ls hl => ?_)
                              obtain ⟨v17942, ev17942⟩ : ∃ y : Int32, y = x17921_6 + 1 := ⟨_, rfl⟩
                              have tv17942 := z_add ev17942 rfl (by decide : (1 : Int32).toInt = 1) (by omega) (by omega)
                              refine lv_iinc (v := v17942) (lv' := [(6, .int v17942), (4, .int v17941), (7, .int 0), (5, .int x16826_5), (3, .int r6), (0, .ref h), (1, .int a), (2, .int b)]) hx hb dX12_odd_195 hl (k := 2) rfl (by rw [ev17942]; rfl) (by decide) rfl (fun ls hl => ?_)
                              refine lv_goto (tgt := 54) hx hb dX12_odd_198 (by decide) ?_
                              exact ih17922 v17942 v17941 ⟨by omega, by omega⟩ (by omega) _ _ ls hP hD hS (lv_sub hl [0, 3, 1, 4, 5, 6, 7] rfl)
                            · exact absurd rfl c17939
                          · have fc17938 := z_eq (rfl : (v17937).toInt = _) (rfl : (b).toInt = _) c17938
                            refine lv_aload_n hx hb dX12_odd_94 rfl (lv_at hl 4 rfl) ?_
                            refine gM_12_5 hx hb ht hown hK hP m_1144 dX12_odd_95 ?_
                            refine lv_iload hx hb dX12_odd_98 (lv_at hl 0 rfl) ?_
                            refine lM_12_5 hx hb hK hP (f := (fa 12 5)) rfl (vp_in_iff.mpr ⟨by omega, by omega⟩) dX12_odd_100 ?_
                            refine lv_topi (fun v17943 ev17943 => ?_)
                            refine lv_iload_n hx hb dX12_odd_101 rfl (lv_at hl 6 rfl) ?_
                            refine lv_icmp_ne (tgt := 135) hx hb dX12_odd_102 (by decide) (fun c17944 => ?_) (fun c17944 => ?_)
                            · have fc17944 := z_ne (rfl : (v17943).toInt = _) (rfl : (b).toInt = _) c17944
                              refine lv_iconst (v := 0) hx hb dX12_odd_135 (by decide) ?_
                              refine lv_istore (lv' := [(7, .int 0), (6, .int x17921_6), (5, .int x16826_5), (4, .int x17921_4), (3, .int r6), (0, .ref h), (1, .int a), (2, .int b)]) hx hb dX12_odd_136 hl (by decide) rfl (fun ls hl => ?_)
                              refine lv_iload hx hb dX12_odd_138 (lv_at hl 3 rfl) ?_
                              refine lv_iload hx hb dX12_odd_140 (lv_at hl 0 rfl) ?_
                              refine lv_if_eq (tgt := 188) hx hb dX12_odd_142 (by decide) (fun c17945 => ?_) (fun c17945 => ?_)
                              · skip
                                refine lv_iconst (v := 0) hx hb dX12_odd_188 (by decide) ?_
                                refine vp_callSi (W.runS (As := [.int 0]) (rest := [.int x17921_4]) ⟨hx, hb, hml, hown, ht⟩ (c_X12_bit_0 l dC dI) (kS 1 ht m_1396 m_1397 m_89 m_1398 rfl rfl hd_X12_bit_v ⟨Nat.le_of_ble_eq_true rfl, Nat.le_of_ble_eq_true rfl⟩) (sR noP (hK.sub (tys' := []) [] rfl)) rfl rfl hl.1 rfl (lv_room (Nat.le_of_ble_eq_true rfl)) dX12_odd_189 ⟨Nat.le_of_ble_eq_true rfl, Nat.le_of_ble_eq_true rfl⟩) (fun r17946 hr17946 => ?_)
                                obtain rfl : 0 = r17946 := hr17946.symm
                                refine lv_iadd hx hb dX12_odd_192 ?_
                                refine lv_topi (fun v17947 ev17947 => ?_)
                                refine lv_istore (lv' := [(4, .int v17947), (7, .int 0), (6, .int x17921_6), (5, .int x16826_5), (3, .int r6), (0, .ref h), (1, .int a), (2, .int b)]) hx hb dX12_odd_193 hl (by decide) rfl (fun ls hl => ?_)
                                obtain ⟨v17948, ev17948⟩ : ∃ y : Int32, y = x17921_6 + 1 := ⟨_, rfl⟩
                                have tv17948 := z_add ev17948 rfl (by decide : (1 : Int32).toInt = 1) (by omega) (by omega)
                                refine lv_iinc (v := v17948) (lv' := [(6, .int v17948), (4, .int v17947), (7, .int 0), (5, .int x16826_5), (3, .int r6), (0, .ref h), (1, .int a), (2, .int b)]) hx hb dX12_odd_195 hl (k := 2) rfl (by rw [ev17948]; rfl) (by decide) rfl (fun ls hl => ?_)
                                refine lv_goto (tgt := 54) hx hb dX12_odd_198 (by decide) ?_
                                exact ih17922 v17948 v17947 ⟨by omega, by omega⟩ (by omega) _ _ ls hP hD hS (lv_sub hl [0, 3, 1, 4, 5, 6, 7] rfl)
                              · exact absurd rfl c17945
                            · have fc17944 := z_eq (rfl : (v17943).toInt = _) (rfl : (b).toInt = _) c17944
                              refine lv_aload_n hx hb dX12_odd_105 rfl (lv_at hl 4 rfl) ?_
                              refine lv_iload hx hb dX12_odd_106 (lv_at hl 1 rfl) ?_
                              refine lv_aload_n hx hb dX12_odd_108 rfl (lv_at hl 4 rfl) ?_
                              refine gM_12_0 hx hb ht hown hK hP m_1139 (v := (iv 12 0)) rfl dX12_odd_109 ?_
                              refine vp_callSi (W.runV (As := [.int x16826_5, .int (iv 12 0)]) (rest := []) ⟨hx, hb, hml, hown, ht⟩ (c_X12_isThere_x l dC dI h g ca (u2 iv 12 41 n9) lv (u2 (u2 fa 12 39 n7) 12 40 n8) la (IX_a (c := 12) (k := 40) (IX_a (c := 12) (k := 39) (IX_i (c := 12) (k := 41) hI (show inb (0, 8) n9 from ⟨by omega, by omega⟩)) hn7) hn8) x16826_5 (iv 12 0) ⟨by omega, by omega⟩) (kV 2 ht m_1438 m_1440 m_46 m_89 m_1441 rfl rfl hd_X12_isThere_v ⟨Nat.le_of_ble_eq_true rfl, Nat.le_of_ble_eq_true rfl⟩) (vR hP hK (rM_12 hK hP)) rfl rfl hl.1 rfl (lv_room (Nat.le_of_ble_eq_true rfl)) dX12_odd_112 ⟨Nat.le_of_ble_eq_true rfl, Nat.le_of_ble_eq_true rfl⟩) (fun r17949 hr17949 => ?_)
                              obtain ⟨hr17949, xr17949_0⟩ := hr17949
                              have xr17949_0 : (((r17949 : Int32).toInt = 1 ∧ ((fa 12 11) (x16826_5 : Int32).toNatClampNeg).toInt ≤ ((iv 12 0) : Int32).toInt ∧ (((fa 12 12) (x16826_5 : Int32).toNatClampNeg).toInt < 0 ∨ ((iv 12 0) : Int32).toInt < ((fa 12 12) (x16826_5 : Int32).toNatClampNeg).toInt)) ∨ ((r17949 : Int32).toInt = 0 ∧ ¬ (((fa 12 11) (x16826_5 : Int32).toNatClampNeg).toInt ≤ ((iv 12 0) : Int32).toInt ∧ (((fa 12 12) (x16826_5 : Int32).toNatClampNeg).toInt < 0 ∨ ((iv 12 0) : Int32).toInt < ((fa 12 12) (x16826_5 : Int32).toNatClampNeg).toInt)))) := xr17949_0
                              refine lv_if_eq (tgt := 135) hx hb dX12_odd_115 (by decide) (fun c17950 => ?_) (fun c17950 => ?_)
                              · have fc17950 := z_eq (rfl : (r17949).toInt = _) (by decide : (0 : Int32).toInt = 0) c17950
                                refine lv_iconst (v := 0) hx hb dX12_odd_135 (by decide) ?_
                                refine lv_istore (lv' := [(7, .int 0), (6, .int x17921_6), (5, .int x16826_5), (4, .int x17921_4), (3, .int r6), (0, .ref h), (1, .int a), (2, .int b)]) hx hb dX12_odd_136 hl (by decide) rfl (fun ls hl => ?_)
                                refine lv_iload hx hb dX12_odd_138 (lv_at hl 3 rfl) ?_
                                refine lv_iload hx hb dX12_odd_140 (lv_at hl 0 rfl) ?_
                                refine lv_if_eq (tgt := 188) hx hb dX12_odd_142 (by decide) (fun c17951 => ?_) (fun c17951 => ?_)
                                · skip
                                  refine lv_iconst (v := 0) hx hb dX12_odd_188 (by decide) ?_
                                  refine vp_callSi (W.runS (As := [.int 0]) (rest := [.int x17921_4]) ⟨hx, hb, hml, hown, ht⟩ (c_X12_bit_0 l dC dI) (kS 1 ht m_1396 m_1397 m_89 m_1398 rfl rfl hd_X12_bit_v ⟨Nat.le_of_ble_eq_true rfl, Nat.le_of_ble_eq_true rfl⟩) (sR noP (hK.sub (tys' := []) [] rfl)) rfl rfl hl.1 rfl (lv_room (Nat.le_of_ble_eq_true rfl)) dX12_odd_189 ⟨Nat.le_of_ble_eq_true rfl, Nat.le_of_ble_eq_true rfl⟩) (fun r17952 hr17952 => ?_)
                                  obtain rfl : 0 = r17952 := hr17952.symm
                                  refine lv_iadd hx hb dX12_odd_192 ?_
                                  refine lv_topi (fun v17953 ev17953 => ?_)
                                  refine lv_istore (lv' := [(4, .int v17953), (7, .int 0), (6, .int x17921_6), (5, .int x16826_5), (3, .int r6), (0, .ref h), (1, .int a), (2, .int b)]) hx hb dX12_odd_193 hl (by decide) rfl (fun ls hl => ?_)
                                  obtain ⟨v17954, ev17954⟩ : ∃ y : Int32, y = x17921_6 + 1 := ⟨_, rfl⟩
                                  have tv17954 := z_add ev17954 rfl (by decide : (1 : Int32).toInt = 1) (by omega) (by omega)
                                  refine lv_iinc (v := v17954) (lv' := [(6, .int v17954), (4, .int v17953), (7, .int 0), (5, .int x16826_5), (3, .int r6), (0, .ref h), (1, .int a), (2, .int b)]) hx hb dX12_odd_195 hl (k := 2) rfl (by rw [ev17954]; rfl) (by decide) rfl (fun ls hl => ?_)
                                  refine lv_goto (tgt := 54) hx hb dX12_odd_198 (by decide) ?_
                                  exact ih17922 v17954 v17953 ⟨by omega, by omega⟩ (by omega) _ _ ls hP hD hS (lv_sub hl [0, 3, 1, 4, 5, 6, 7] rfl)
                                · exact absurd rfl c17951
                              · have fc17950 := z_ne (rfl : (r17949).toInt = _) (by decide : (0 : Int32).toInt = 0) c17950
                                refine lv_aload_n hx hb dX12_odd_118 rfl (lv_at hl 4 rfl) ?_
                                refine lv_iload hx hb dX12_odd_119 (lv_at hl 0 rfl) ?_
                                refine lv_aload_n hx hb dX12_odd_121 rfl (lv_at hl 4 rfl) ?_
                                refine gM_12_0 hx hb ht hown hK hP m_1139 (v := (iv 12 0)) rfl dX12_odd_122 ?_
                                refine vp_callSi (W.runV (As := [.int x17921_6, .int (iv 12 0)]) (rest := []) ⟨hx, hb, hml, hown, ht⟩ (c_X12_isThere_x l dC dI h g ca (u2 iv 12 41 n9) lv (u2 (u2 fa 12 39 n7) 12 40 n8) la (IX_a (c := 12) (k := 40) (IX_a (c := 12) (k := 39) (IX_i (c := 12) (k := 41) hI (show inb (0, 8) n9 from ⟨by omega, by omega⟩)) hn7) hn8) x17921_6 (iv 12 0) ⟨by omega, by omega⟩) (kV 2 ht m_1438 m_1440 m_46 m_89 m_1441 rfl rfl hd_X12_isThere_v ⟨Nat.le_of_ble_eq_true rfl, Nat.le_of_ble_eq_true rfl⟩) (vR hP hK (rM_12 hK hP)) rfl rfl hl.1 rfl (lv_room (Nat.le_of_ble_eq_true rfl)) dX12_odd_125 ⟨Nat.le_of_ble_eq_true rfl, Nat.le_of_ble_eq_true rfl⟩) (fun r17955 hr17955 => ?_)
                                obtain ⟨hr17955, xr17955_0⟩ := hr17955
                                have xr17955_0 : (((r17955 : Int32).toInt = 1 ∧ ((fa 12 11) (x17921_6 : Int32).toNatClampNeg).toInt ≤ ((iv 12 0) : Int32).toInt ∧ (((fa 12 12) (x17921_6 : Int32).toNatClampNeg).toInt < 0 ∨ ((iv 12 0) : Int32).toInt < ((fa 12 12) (x17921_6 : Int32).toNatClampNeg).toInt)) ∨ ((r17955 : Int32).toInt = 0 ∧ ¬ (((fa 12 11) (x17921_6 : Int32).toNatClampNeg).toInt ≤ ((iv 12 0) : Int32).toInt ∧ (((fa 12 12) (x17921_6 : Int32).toNatClampNeg).toInt < 0 ∨ ((iv 12 0) : Int32).toInt < ((fa 12 12) (x17921_6 : Int32).toNatClampNeg).toInt)))) := xr17955_0
                                refine lv_if_eq (tgt := 135) hx hb dX12_odd_128 (by decide) (fun c17956 => ?_) (fun c17956 => ?_)
                                · have fc17956 := z_eq (rfl : (r17955).toInt = _) (by decide : (0 : Int32).toInt = 0) c17956
                                  refine lv_iconst (v := 0) hx hb dX12_odd_135 (by decide) ?_
                                  refine lv_istore (lv' := [(7, .int 0), (6, .int x17921_6), (5, .int x16826_5), (4, .int x17921_4), (3, .int r6), (0, .ref h), (1, .int a), (2, .int b)]) hx hb dX12_odd_136 hl (by decide) rfl (fun ls hl => ?_)
                                  refine lv_iload hx hb dX12_odd_138 (lv_at hl 3 rfl) ?_
                                  refine lv_iload hx hb dX12_odd_140 (lv_at hl 0 rfl) ?_
                                  refine lv_if_eq (tgt := 188) hx hb dX12_odd_142 (by decide) (fun c17957 => ?_) (fun c17957 => ?_)
                                  · skip
                                    refine lv_iconst (v := 0) hx hb dX12_odd_188 (by decide) ?_
                                    refine vp_callSi (W.runS (As := [.int 0]) (rest := [.int x17921_4]) ⟨hx, hb, hml, hown, ht⟩ (c_X12_bit_0 l dC dI) (kS 1 ht m_1396 m_1397 m_89 m_1398 rfl rfl hd_X12_bit_v ⟨Nat.le_of_ble_eq_true rfl, Nat.le_of_ble_eq_true rfl⟩) (sR noP (hK.sub (tys' := []) [] rfl)) rfl rfl hl.1 rfl (lv_room (Nat.le_of_ble_eq_true rfl)) dX12_odd_189 ⟨Nat.le_of_ble_eq_true rfl, Nat.le_of_ble_eq_true rfl⟩) (fun r17958 hr17958 => ?_)
                                    obtain rfl : 0 = r17958 := hr17958.symm
                                    refine lv_iadd hx hb dX12_odd_192 ?_
                                    refine lv_topi (fun v17959 ev17959 => ?_)
                                    refine lv_istore (lv' := [(4, .int v17959), (7, .int 0), (6, .int x17921_6), (5, .int x16826_5), (3, .int r6), (0, .ref h), (1, .int a), (2, .int b)]) hx hb dX12_odd_193 hl (by decide) rfl (fun ls hl => ?_)
                                    obtain ⟨v17960, ev17960⟩ : ∃ y : Int32, y = x17921_6 + 1 := ⟨_, rfl⟩
                                    have tv17960 := z_add ev17960 rfl (by decide : (1 : Int32).toInt = 1) (by omega) (by omega)
                                    refine lv_iinc (v := v17960) (lv' := [(6, .int v17960), (4, .int v17959), (7, .int 0), (5, .int x16826_5), (3, .int r6), (0, .ref h), (1, .int a), (2, .int b)]) hx hb dX12_odd_195 hl (k := 2) rfl (by rw [ev17960]; rfl) (by decide) rfl (fun ls hl => ?_)
                                    refine lv_goto (tgt := 54) hx hb dX12_odd_198 (by decide) ?_
                                    exact ih17922 v17960 v17959 ⟨by omega, by omega⟩ (by omega) _ _ ls hP hD hS (lv_sub hl [0, 3, 1, 4, 5, 6, 7] rfl)
                                  · exact absurd rfl c17957
                                · have fc17956 := z_ne (rfl : (r17955).toInt = _) (by decide : (0 : Int32).toInt = 0) c17956
                                  refine lv_iconst (v := 1) hx hb dX12_odd_131 (by decide) ?_
                                  refine lv_goto (tgt := 136) hx hb dX12_odd_132 (by decide) ?_
                                  refine lv_istore (lv' := [(7, .int 1), (6, .int x17921_6), (5, .int x16826_5), (4, .int x17921_4), (3, .int r6), (0, .ref h), (1, .int a), (2, .int b)]) hx hb dX12_odd_136 hl (by decide) rfl (fun ls hl => ?_)
                                  refine lv_iload hx hb dX12_odd_138 (lv_at hl 3 rfl) ?_
                                  refine lv_iload hx hb dX12_odd_140 (lv_at hl 0 rfl) ?_
                                  refine lv_if_eq (tgt := 188) hx hb dX12_odd_142 (by decide) (fun c17961 => ?_) (fun c17961 => ?_)
                                  · exact absurd c17961 (by decide)
                                  · skip
                                    refine lv_aload_n hx hb dX12_odd_145 rfl (lv_at hl 5 rfl) ?_
                                    refine gM_12_8 hx hb ht hown hK hP m_1147 dX12_odd_146 ?_
                                    refine lv_iload hx hb dX12_odd_149 (lv_at hl 2 rfl) ?_
                                    refine lM_12_8 hx hb hK hP (f := (fa 12 8)) rfl (vp_in_iff.mpr ⟨by omega, by omega⟩) dX12_odd_151 ?_
                                    refine lv_topi (fun v17962 ev17962 => ?_)
                                    refine lv_i2l (v := (v17962.toInt64)) hx hb dX12_odd_152 rfl ?_
                                    refine lv_aload_n hx hb dX12_odd_153 rfl (lv_at hl 5 rfl) ?_
                                    refine gM_12_7 hx hb ht hown hK hP m_1146 dX12_odd_154 ?_
                                    refine lv_iload hx hb dX12_odd_157 (lv_at hl 2 rfl) ?_
                                    refine lM_12_7 hx hb hK hP (f := (fa 12 7)) rfl (vp_in_iff.mpr ⟨by omega, by omega⟩) dX12_odd_159 ?_
                                    refine lv_topi (fun v17963 ev17963 => ?_)
                                    have tv17963 : 0 ≤ v17963.toInt ∧ v17963.toInt ≤ 9999 := by rw [ev17963]; exact hI.2 12 7 _
                                    refine lv_i2l (v := (v17963.toInt64)) hx hb dX12_odd_160 rfl ?_
                                    refine lv_aload_n hx hb dX12_odd_161 rfl (lv_at hl 5 rfl) ?_
                                    refine gM_12_8 hx hb ht hown hK hP m_1147 dX12_odd_162 ?_
                                    refine lv_iload hx hb dX12_odd_165 (lv_at hl 1 rfl) ?_
                                    refine lM_12_8 hx hb hK hP (f := (fa 12 8)) rfl (vp_in_iff.mpr ⟨by omega, by omega⟩) dX12_odd_167 ?_
                                    refine lv_topi (fun v17964 ev17964 => ?_)
                                    refine lv_i2l (v := (v17964.toInt64)) hx hb dX12_odd_168 rfl ?_
                                    refine lv_aload_n hx hb dX12_odd_169 rfl (lv_at hl 5 rfl) ?_
                                    refine gM_12_7 hx hb ht hown hK hP m_1146 dX12_odd_170 ?_
                                    refine lv_iload hx hb dX12_odd_173 (lv_at hl 1 rfl) ?_
                                    refine lM_12_7 hx hb hK hP (f := (fa 12 7)) rfl (vp_in_iff.mpr ⟨by omega, by omega⟩) dX12_odd_175 ?_
                                    refine lv_topi (fun v17965 ev17965 => ?_)
                                    have tv17965 : 0 ≤ v17965.toInt ∧ v17965.toInt ≤ 9999 := by rw [ev17965]; exact hI.2 12 7 _
                                    refine lv_i2l (v := (v17965.toInt64)) hx hb dX12_odd_176 rfl ?_
                                    refine lv_iload_n hx hb dX12_odd_177 rfl (lv_at hl 4 rfl) ?_
                                    refine vp_callSi (W.runS (As := [.long (v17962.toInt64), .long (v17963.toInt64), .long (v17964.toInt64), .long (v17965.toInt64), .int r6]) (rest := [.int x17921_4]) ⟨hx, hb, hml, hown, ht⟩ (c_X12_doPart l dC dI (v17962.toInt64) (v17963.toInt64) (v17964.toInt64) (v17965.toInt64) r6) (kS 5 ht m_1540 m_1541 m_89 m_1542 rfl rfl hd_X12_doPart_v ⟨Nat.le_of_ble_eq_true rfl, Nat.le_of_ble_eq_true rfl⟩) (sR noP (hK.sub (tys' := []) [] rfl)) rfl rfl hl.1 rfl (lv_room (Nat.le_of_ble_eq_true rfl)) dX12_odd_178 ⟨Nat.le_of_ble_eq_true rfl, Nat.le_of_ble_eq_true rfl⟩) (fun r17966 hr17966 => ?_)
                                    refine lv_if_eq (tgt := 188) hx hb dX12_odd_181 (by decide) (fun c17967 => ?_) (fun c17967 => ?_)
                                    · have fc17967 := z_eq (rfl : (r17966).toInt = _) (by decide : (0 : Int32).toInt = 0) c17967
                                      refine lv_iconst (v := 0) hx hb dX12_odd_188 (by decide) ?_
                                      refine vp_callSi (W.runS (As := [.int 0]) (rest := [.int x17921_4]) ⟨hx, hb, hml, hown, ht⟩ (c_X12_bit_0 l dC dI) (kS 1 ht m_1396 m_1397 m_89 m_1398 rfl rfl hd_X12_bit_v ⟨Nat.le_of_ble_eq_true rfl, Nat.le_of_ble_eq_true rfl⟩) (sR noP (hK.sub (tys' := []) [] rfl)) rfl rfl hl.1 rfl (lv_room (Nat.le_of_ble_eq_true rfl)) dX12_odd_189 ⟨Nat.le_of_ble_eq_true rfl, Nat.le_of_ble_eq_true rfl⟩) (fun r17968 hr17968 => ?_)
                                      obtain rfl : 0 = r17968 := hr17968.symm
                                      refine lv_iadd hx hb dX12_odd_192 ?_
                                      refine lv_topi (fun v17969 ev17969 => ?_)
                                      refine lv_istore (lv' := [(4, .int v17969), (7, .int 1), (6, .int x17921_6), (5, .int x16826_5), (3, .int r6), (0, .ref h), (1, .int a), (2, .int b)]) hx hb dX12_odd_193 hl (by decide) rfl (fun ls hl => ?_)
                                      obtain ⟨v17970, ev17970⟩ : ∃ y : Int32, y = x17921_6 + 1 := ⟨_, rfl⟩
                                      have tv17970 := z_add ev17970 rfl (by decide : (1 : Int32).toInt = 1) (by omega) (by omega)
                                      refine lv_iinc (v := v17970) (lv' := [(6, .int v17970), (4, .int v17969), (7, .int 1), (5, .int x16826_5), (3, .int r6), (0, .ref h), (1, .int a), (2, .int b)]) hx hb dX12_odd_195 hl (k := 2) rfl (by rw [ev17970]; rfl) (by decide) rfl (fun ls hl => ?_)
                                      refine lv_goto (tgt := 54) hx hb dX12_odd_198 (by decide) ?_
                                      exact ih17922 v17970 v17969 ⟨by omega, by omega⟩ (by omega) _ _ ls hP hD hS (lv_sub hl [0, 3, 1, 4, 5, 6, 7] rfl)
                                    · have fc17967 := z_ne (rfl : (r17966).toInt = _) (by decide : (0 : Int32).toInt = 0) c17967
                                      refine lv_iconst (v := 1) hx hb dX12_odd_184 (by decide) ?_
                                      refine lv_goto (tgt := 189) hx hb dX12_odd_185 (by decide) ?_
                                      refine vp_callSi (W.runS (As := [.int 1]) (rest := [.int x17921_4]) ⟨hx, hb, hml, hown, ht⟩ (c_X12_bit_1 l dC dI) (kS 1 ht m_1396 m_1397 m_89 m_1398 rfl rfl hd_X12_bit_v ⟨Nat.le_of_ble_eq_true rfl, Nat.le_of_ble_eq_true rfl⟩) (sR noP (hK.sub (tys' := []) [] rfl)) rfl rfl hl.1 rfl (lv_room (Nat.le_of_ble_eq_true rfl)) dX12_odd_189 ⟨Nat.le_of_ble_eq_true rfl, Nat.le_of_ble_eq_true rfl⟩) (fun r17971 hr17971 => ?_)
                                      obtain rfl : 1 = r17971 := hr17971.symm
                                      refine lv_iadd hx hb dX12_odd_192 ?_
                                      refine lv_topi (fun v17972 ev17972 => ?_)
                                      refine lv_istore (lv' := [(4, .int v17972), (7, .int 1), (6, .int x17921_6), (5, .int x16826_5), (3, .int r6), (0, .ref h), (1, .int a), (2, .int b)]) hx hb dX12_odd_193 hl (by decide) rfl (fun ls hl => ?_)
                                      obtain ⟨v17973, ev17973⟩ : ∃ y : Int32, y = x17921_6 + 1 := ⟨_, rfl⟩
                                      have tv17973 := z_add ev17973 rfl (by decide : (1 : Int32).toInt = 1) (by omega) (by omega)
                                      refine lv_iinc (v := v17973) (lv' := [(6, .int v17973), (4, .int v17972), (7, .int 1), (5, .int x16826_5), (3, .int r6), (0, .ref h), (1, .int a), (2, .int b)]) hx hb dX12_odd_195 hl (k := 2) rfl (by rw [ev17973]; rfl) (by decide) rfl (fun ls hl => ?_)
                                      refine lv_goto (tgt := 54) hx hb dX12_odd_198 (by decide) ?_
                                      exact ih17922 v17973 v17972 ⟨by omega, by omega⟩ (by omega) _ _ ls hP hD hS (lv_sub hl [0, 3, 1, 4, 5, 6, 7] rfl)
                exact lp17922 60 0 x16826_4 ⟨by decide, by decide⟩ (by first | decide | omega) _ _ ls hP hD hS (lv_sub hl [0, 1, 2, 3, 4, 5, 6] rfl)
          exact lp16827 61 0 0 ⟨by decide, by decide⟩ (by first | decide | omega) _ _ ls hP hD hS (lv_sub hl [0, 1, 2, 3, 4, 5] rfl)
        · exact absurd c5 (by decide)
      · skip
        refine lv_if_ne (tgt := 26) hx hb dX12_odd_20 (by decide) (fun c17974 => ?_) (fun c17974 => ?_)
        · exact absurd rfl c17974
        · skip
          refine lv_ldc hx hb hown (ht _ m_1373) dX12_odd_23 ?_
          have hP9 : va_P (dC, dI) classes (WM h g ca (u2 iv 12 41 (iv 12 41)) lv (u2 (u2 fa 12 39 (fa 12 39)) 12 40 (fa 12 40)) la) s.heap := hP
          have hD9 : va_D A (WM h g ca (u2 iv 12 41 (iv 12 41)) lv (u2 (u2 fa 12 39 (fa 12 39)) 12 40 (fa 12 40)) la) := hD
          exact W.iret (v := (-100002)) hx hb hr (fun t ht9 hW => ⟨⟨(-100002), ((u2 iv 12 41 (iv 12 41)), lv, (u2 (u2 fa 12 39 (fa 12 39)) 12 40 (fa 12 40)), la), rfl, ⟨(fa 12 39), (fa 12 40), (iv 12 41), (hI.2 12 39), (hI.2 12 40), (hI.1 12 41), trivial, rfl⟩, by rw [ht9]; exact hP9, hD9⟩, hS.F ht9⟩) hS.2.2 dX12_odd_25
    · exact absurd rfl c3
