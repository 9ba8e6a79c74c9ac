/-! ===== n3 ===== -/
set_option maxRecDepth 100000 in
theorem m_48 : Cond.selects RX12 yX12_takeWord yX12_takeWord ∈ tb := tb_in 48 (by decide +kernel) rfl
set_option maxRecDepth 100000 in
theorem m_52 : Cond.selects RX12 yX12_letOf yX12_letOf ∈ tb := tb_in 52 (by decide +kernel) rfl
set_option maxRecDepth 100000 in
theorem m_53 : Cond.selects RX12 yX12_takeNumber yX12_takeNumber ∈ tb := tb_in 53 (by decide +kernel) rfl
set_option maxRecDepth 100000 in
theorem m_54 : Cond.selects RX12 yX12_readName yX12_readName ∈ tb := tb_in 54 (by decide +kernel) rfl
theorem m_1166 : Cond.fieldLink RX12 68 "SilkHouseModel" "nameOf" "[I" ∈ tb := mb_5_5 _ (List.mem_of_getElem? (i := 7) rfl)
theorem m_1167 : Cond.fieldLink RX12 71 "SilkHouseModel" "first" "[I" ∈ tb := mb_5_5 _ (List.mem_of_getElem? (i := 8) rfl)
theorem m_1168 : Cond.fieldLink RX12 74 "SilkHouseModel" "second" "[I" ∈ tb := mb_5_5 _ (List.mem_of_getElem? (i := 9) rfl)
theorem m_1462 : Cond.methodLink RX12 286 yX12_takeWord ∈ tb := mb_6_3 _ (List.mem_of_getElem? (i := 19) rfl)
theorem m_1464 : Cond.instanceMethod yX12_takeWord ∈ tb := mb_6_3 _ (List.mem_of_getElem? (i := 20) rfl)
theorem m_1465 : Cond.code yX12_takeWord cX12_takeWord 2 none ∈ tb := mb_6_3 _ (List.mem_of_getElem? (i := 21) rfl)
theorem m_1480 : Cond.methodLink RX12 293 yX12_letOf ∈ tb := mb_6_4 _ (List.mem_of_getElem? (i := 9) rfl)
theorem m_1482 : Cond.instanceMethod yX12_letOf ∈ tb := mb_6_4 _ (List.mem_of_getElem? (i := 10) rfl)
theorem m_1483 : Cond.code yX12_letOf cX12_letOf 1 (some .int) ∈ tb := mb_6_4 _ (List.mem_of_getElem? (i := 11) rfl)
theorem m_1484 : Cond.methodLink RX12 296 yX12_leastOf ∈ tb := mb_6_4 _ (List.mem_of_getElem? (i := 12) rfl)
theorem m_1485 : Cond.static yX12_leastOf ∈ tb := mb_6_4 _ (List.mem_of_getElem? (i := 13) rfl)
theorem m_1486 : Cond.code yX12_leastOf cX12_leastOf 1 (some .int) ∈ tb := mb_6_4 _ (List.mem_of_getElem? (i := 14) rfl)
theorem m_1487 : Cond.methodLink RX12 300 yX12_mostOf ∈ tb := mb_6_4 _ (List.mem_of_getElem? (i := 15) rfl)
theorem m_1488 : Cond.static yX12_mostOf ∈ tb := mb_6_4 _ (List.mem_of_getElem? (i := 16) rfl)
theorem m_1489 : Cond.code yX12_mostOf cX12_mostOf 1 (some .int) ∈ tb := mb_6_4 _ (List.mem_of_getElem? (i := 17) rfl)
theorem m_1490 : Cond.methodLink RX12 289 yX12_takeNumber ∈ tb := mb_6_4 _ (List.mem_of_getElem? (i := 18) rfl)
theorem m_1492 : Cond.instanceMethod yX12_takeNumber ∈ tb := mb_6_4 _ (List.mem_of_getElem? (i := 19) rfl)
theorem m_1493 : Cond.code yX12_takeNumber cX12_takeNumber 6 (some .int) ∈ tb := mb_6_4 _ (List.mem_of_getElem? (i := 20) rfl)
theorem m_1496 : Cond.methodLink RX12 306 yX12_readName ∈ tb := mb_6_4 _ (List.mem_of_getElem? (i := 23) rfl)
theorem m_1498 : Cond.instanceMethod yX12_readName ∈ tb := mb_6_5 _ (List.mem_of_getElem? (i := 0) rfl)
theorem m_1499 : Cond.code yX12_readName cX12_readName 3 none ∈ tb := mb_6_5 _ (List.mem_of_getElem? (i := 1) rfl)
theorem hd_X12_leastOf_v : yX12_leastOf.cls = RX12 ∧ yX12_leastOf.cls ≠ "java/lang/invoke/MethodHandle" ∧ yX12_leastOf.cls ≠ "java/lang/invoke/VarHandle" ∧ (parseMethodDescriptor yX12_leastOf.desc).map (fun d => d.parameters.length) = some 1 := by decide +kernel
theorem hd_X12_letOf_v : yX12_letOf.cls = RX12 ∧ yX12_letOf.cls ≠ "java/lang/invoke/MethodHandle" ∧ yX12_letOf.cls ≠ "java/lang/invoke/VarHandle" ∧ (parseMethodDescriptor yX12_letOf.desc).map (fun d => d.parameters.length) = some 0 := by decide +kernel
theorem hd_X12_mostOf_v : yX12_mostOf.cls = RX12 ∧ yX12_mostOf.cls ≠ "java/lang/invoke/MethodHandle" ∧ yX12_mostOf.cls ≠ "java/lang/invoke/VarHandle" ∧ (parseMethodDescriptor yX12_mostOf.desc).map (fun d => d.parameters.length) = some 1 := by decide +kernel
theorem hd_X12_readName_v : yX12_readName.cls = RX12 ∧ yX12_readName.cls ≠ "java/lang/invoke/MethodHandle" ∧ yX12_readName.cls ≠ "java/lang/invoke/VarHandle" ∧ (parseMethodDescriptor yX12_readName.desc).map (fun d => d.parameters.length) = some 1 := by decide +kernel
theorem hd_X12_takeNumber_v : yX12_takeNumber.cls = RX12 ∧ yX12_takeNumber.cls ≠ "java/lang/invoke/MethodHandle" ∧ yX12_takeNumber.cls ≠ "java/lang/invoke/VarHandle" ∧ (parseMethodDescriptor yX12_takeNumber.desc).map (fun d => d.parameters.length) = some 2 := by decide +kernel
theorem hd_X12_takeWord_v : yX12_takeWord.cls = RX12 ∧ yX12_takeWord.cls ≠ "java/lang/invoke/MethodHandle" ∧ yX12_takeWord.cls ≠ "java/lang/invoke/VarHandle" ∧ (parseMethodDescriptor yX12_takeWord.desc).map (fun d => d.parameters.length) = some 0 := by decide +kernel
set_option maxRecDepth 100000 in
theorem dvX12_readClause_0 : ([(0, .aload_n 0, 1), (1, .getfield 65, 3), (4, .iload_n 2, 1), (5, .iload_n 1, 1), (6, .iastore, 1), (7, .aload_n 0, 1), (8, .getfield 77, 3), (11, .iload_n 2, 1), (12, .iconst 0, 1), (13, .iastore, 1), (14, .iload_n 1, 1), (15, .ifCond .ne 74, 3), (18, .aload_n 0, 1), (19, .invokevirtual 286, 3), (22, .aload_n 0, 1), (23, .getfield 68, 3), (26, .iload_n 2, 1), (27, .aload_n 0, 1), (28, .invokevirtual 293, 3), (31, .iastore, 1), (32, .aload_n 0, 1), (33, .aload_n 0, 1), (34, .getfield 68, 3), (37, .iload_n 2, 1)] : List (Nat × Instr × Nat)).all (fun q => decide (decode cX12_readClause q.1 = .ok (q.2.1, q.2.2))) = true := by decide +kernel
theorem dX12_readClause_0 : decode cX12_readClause 0 = .ok (.aload_n 0, 1) := all_at dvX12_readClause_0 0 rfl
theorem dX12_readClause_1 : decode cX12_readClause 1 = .ok (.getfield 65, 3) := all_at dvX12_readClause_0 1 rfl
theorem dX12_readClause_4 : decode cX12_readClause 4 = .ok (.iload_n 2, 1) := all_at dvX12_readClause_0 2 rfl
theorem dX12_readClause_5 : decode cX12_readClause 5 = .ok (.iload_n 1, 1) := all_at dvX12_readClause_0 3 rfl
theorem dX12_readClause_6 : decode cX12_readClause 6 = .ok (.iastore, 1) := all_at dvX12_readClause_0 4 rfl
theorem dX12_readClause_7 : decode cX12_readClause 7 = .ok (.aload_n 0, 1) := all_at dvX12_readClause_0 5 rfl
theorem dX12_readClause_8 : decode cX12_readClause 8 = .ok (.getfield 77, 3) := all_at dvX12_readClause_0 6 rfl
theorem dX12_readClause_11 : decode cX12_readClause 11 = .ok (.iload_n 2, 1) := all_at dvX12_readClause_0 7 rfl
theorem dX12_readClause_12 : decode cX12_readClause 12 = .ok (.iconst 0, 1) := all_at dvX12_readClause_0 8 rfl
theorem dX12_readClause_13 : decode cX12_readClause 13 = .ok (.iastore, 1) := all_at dvX12_readClause_0 9 rfl
theorem dX12_readClause_14 : decode cX12_readClause 14 = .ok (.iload_n 1, 1) := all_at dvX12_readClause_0 10 rfl
theorem dX12_readClause_15 : decode cX12_readClause 15 = .ok (.ifCond .ne 74, 3) := all_at dvX12_readClause_0 11 rfl
theorem dX12_readClause_18 : decode cX12_readClause 18 = .ok (.aload_n 0, 1) := all_at dvX12_readClause_0 12 rfl
theorem dX12_readClause_19 : decode cX12_readClause 19 = .ok (.invokevirtual 286, 3) := all_at dvX12_readClause_0 13 rfl
theorem dX12_readClause_22 : decode cX12_readClause 22 = .ok (.aload_n 0, 1) := all_at dvX12_readClause_0 14 rfl
theorem dX12_readClause_23 : decode cX12_readClause 23 = .ok (.getfield 68, 3) := all_at dvX12_readClause_0 15 rfl
theorem dX12_readClause_26 : decode cX12_readClause 26 = .ok (.iload_n 2, 1) := all_at dvX12_readClause_0 16 rfl
theorem dX12_readClause_27 : decode cX12_readClause 27 = .ok (.aload_n 0, 1) := all_at dvX12_readClause_0 17 rfl
theorem dX12_readClause_28 : decode cX12_readClause 28 = .ok (.invokevirtual 293, 3) := all_at dvX12_readClause_0 18 rfl
theorem dX12_readClause_31 : decode cX12_readClause 31 = .ok (.iastore, 1) := all_at dvX12_readClause_0 19 rfl
theorem dX12_readClause_32 : decode cX12_readClause 32 = .ok (.aload_n 0, 1) := all_at dvX12_readClause_0 20 rfl
theorem dX12_readClause_33 : decode cX12_readClause 33 = .ok (.aload_n 0, 1) := all_at dvX12_readClause_0 21 rfl
theorem dX12_readClause_34 : decode cX12_readClause 34 = .ok (.getfield 68, 3) := all_at dvX12_readClause_0 22 rfl
theorem dX12_readClause_37 : decode cX12_readClause 37 = .ok (.iload_n 2, 1) := all_at dvX12_readClause_0 23 rfl
set_option maxRecDepth 100000 in
theorem dvX12_readClause_38 : ([(38, .iaload, 1), (39, .ifCond .lt 7, 3), (42, .iconst 1, 1), (43, .goto 4, 3), (46, .iconst 0, 1), (47, .iconst 1, 1), (48, .aload_n 0, 1), (49, .getfield 264, 3), (52, .invokevirtual 278, 3), (55, .ifCond .eq 202, 3), (58, .aload_n 0, 1), (59, .getfield 71, 3), (62, .iload_n 2, 1), (63, .aload_n 0, 1), (64, .aload_n 0, 1), (65, .getfield 68, 3), (68, .iload_n 2, 1), (69, .iaload, 1), (70, .invokestatic 296, 3), (73, .aload_n 0, 1), (74, .getfield 68, 3), (77, .iload_n 2, 1), (78, .iaload, 1), (79, .invokestatic 300, 3)] : List (Nat × Instr × Nat)).all (fun q => decide (decode cX12_readClause q.1 = .ok (q.2.1, q.2.2))) = true := by decide +kernel
theorem dX12_readClause_38 : decode cX12_readClause 38 = .ok (.iaload, 1) := all_at dvX12_readClause_38 0 rfl
theorem dX12_readClause_39 : decode cX12_readClause 39 = .ok (.ifCond .lt 7, 3) := all_at dvX12_readClause_38 1 rfl
theorem dX12_readClause_42 : decode cX12_readClause 42 = .ok (.iconst 1, 1) := all_at dvX12_readClause_38 2 rfl
theorem dX12_readClause_43 : decode cX12_readClause 43 = .ok (.goto 4, 3) := all_at dvX12_readClause_38 3 rfl
theorem dX12_readClause_46 : decode cX12_readClause 46 = .ok (.iconst 0, 1) := all_at dvX12_readClause_38 4 rfl
theorem dX12_readClause_47 : decode cX12_readClause 47 = .ok (.iconst 1, 1) := all_at dvX12_readClause_38 5 rfl
theorem dX12_readClause_48 : decode cX12_readClause 48 = .ok (.aload_n 0, 1) := all_at dvX12_readClause_38 6 rfl
theorem dX12_readClause_49 : decode cX12_readClause 49 = .ok (.getfield 264, 3) := all_at dvX12_readClause_38 7 rfl
theorem dX12_readClause_52 : decode cX12_readClause 52 = .ok (.invokevirtual 278, 3) := all_at dvX12_readClause_38 8 rfl
theorem dX12_readClause_55 : decode cX12_readClause 55 = .ok (.ifCond .eq 202, 3) := all_at dvX12_readClause_38 9 rfl
theorem dX12_readClause_58 : decode cX12_readClause 58 = .ok (.aload_n 0, 1) := all_at dvX12_readClause_38 10 rfl
theorem dX12_readClause_59 : decode cX12_readClause 59 = .ok (.getfield 71, 3) := all_at dvX12_readClause_38 11 rfl
theorem dX12_readClause_62 : decode cX12_readClause 62 = .ok (.iload_n 2, 1) := all_at dvX12_readClause_38 12 rfl
theorem dX12_readClause_63 : decode cX12_readClause 63 = .ok (.aload_n 0, 1) := all_at dvX12_readClause_38 13 rfl
theorem dX12_readClause_64 : decode cX12_readClause 64 = .ok (.aload_n 0, 1) := all_at dvX12_readClause_38 14 rfl
theorem dX12_readClause_65 : decode cX12_readClause 65 = .ok (.getfield 68, 3) := all_at dvX12_readClause_38 15 rfl
theorem dX12_readClause_68 : decode cX12_readClause 68 = .ok (.iload_n 2, 1) := all_at dvX12_readClause_38 16 rfl
theorem dX12_readClause_69 : decode cX12_readClause 69 = .ok (.iaload, 1) := all_at dvX12_readClause_38 17 rfl
theorem dX12_readClause_70 : decode cX12_readClause 70 = .ok (.invokestatic 296, 3) := all_at dvX12_readClause_38 18 rfl
theorem dX12_readClause_73 : decode cX12_readClause 73 = .ok (.aload_n 0, 1) := all_at dvX12_readClause_38 19 rfl
theorem dX12_readClause_74 : decode cX12_readClause 74 = .ok (.getfield 68, 3) := all_at dvX12_readClause_38 20 rfl
theorem dX12_readClause_77 : decode cX12_readClause 77 = .ok (.iload_n 2, 1) := all_at dvX12_readClause_38 21 rfl
theorem dX12_readClause_78 : decode cX12_readClause 78 = .ok (.iaload, 1) := all_at dvX12_readClause_38 22 rfl
theorem dX12_readClause_79 : decode cX12_readClause 79 = .ok (.invokestatic 300, 3) := all_at dvX12_readClause_38 23 rfl
set_option maxRecDepth 100000 in
theorem dvX12_readClause_82 : ([(82, .invokevirtual 289, 3), (85, .iastore, 1), (86, .goto 171, 3), (89, .iload_n 1, 1), (90, .iconst 1, 1), (91, .if_icmp .ne 111, 3), (94, .aload_n 0, 1), (95, .invokevirtual 286, 3), (98, .aload_n 0, 1), (99, .getfield 71, 3), (102, .iload_n 2, 1), (103, .aload_n 0, 1), (104, .iconst 4, 1), (105, .bipush 109, 2), (107, .bipush 101, 2), (109, .bipush 97, 2), (111, .bipush 110, 2), (113, .iconst 0, 1), (114, .iconst 0, 1), (115, .invokevirtual 282, 3), (118, .ifCond .eq 7, 3), (121, .iconst 0, 1), (122, .goto 52, 3), (125, .aload_n 0, 1)] : List (Nat × Instr × Nat)).all (fun q => decide (decode cX12_readClause q.1 = .ok (q.2.1, q.2.2))) = true := by decide +kernel
theorem dX12_readClause_82 : decode cX12_readClause 82 = .ok (.invokevirtual 289, 3) := all_at dvX12_readClause_82 0 rfl
theorem dX12_readClause_85 : decode cX12_readClause 85 = .ok (.iastore, 1) := all_at dvX12_readClause_82 1 rfl
theorem dX12_readClause_86 : decode cX12_readClause 86 = .ok (.goto 171, 3) := all_at dvX12_readClause_82 2 rfl
theorem dX12_readClause_89 : decode cX12_readClause 89 = .ok (.iload_n 1, 1) := all_at dvX12_readClause_82 3 rfl
theorem dX12_readClause_90 : decode cX12_readClause 90 = .ok (.iconst 1, 1) := all_at dvX12_readClause_82 4 rfl
theorem dX12_readClause_91 : decode cX12_readClause 91 = .ok (.if_icmp .ne 111, 3) := all_at dvX12_readClause_82 5 rfl
theorem dX12_readClause_94 : decode cX12_readClause 94 = .ok (.aload_n 0, 1) := all_at dvX12_readClause_82 6 rfl
theorem dX12_readClause_95 : decode cX12_readClause 95 = .ok (.invokevirtual 286, 3) := all_at dvX12_readClause_82 7 rfl
theorem dX12_readClause_98 : decode cX12_readClause 98 = .ok (.aload_n 0, 1) := all_at dvX12_readClause_82 8 rfl
theorem dX12_readClause_99 : decode cX12_readClause 99 = .ok (.getfield 71, 3) := all_at dvX12_readClause_82 9 rfl
theorem dX12_readClause_102 : decode cX12_readClause 102 = .ok (.iload_n 2, 1) := all_at dvX12_readClause_82 10 rfl
theorem dX12_readClause_103 : decode cX12_readClause 103 = .ok (.aload_n 0, 1) := all_at dvX12_readClause_82 11 rfl
theorem dX12_readClause_104 : decode cX12_readClause 104 = .ok (.iconst 4, 1) := all_at dvX12_readClause_82 12 rfl
theorem dX12_readClause_105 : decode cX12_readClause 105 = .ok (.bipush 109, 2) := all_at dvX12_readClause_82 13 rfl
theorem dX12_readClause_107 : decode cX12_readClause 107 = .ok (.bipush 101, 2) := all_at dvX12_readClause_82 14 rfl
theorem dX12_readClause_109 : decode cX12_readClause 109 = .ok (.bipush 97, 2) := all_at dvX12_readClause_82 15 rfl
theorem dX12_readClause_111 : decode cX12_readClause 111 = .ok (.bipush 110, 2) := all_at dvX12_readClause_82 16 rfl
theorem dX12_readClause_113 : decode cX12_readClause 113 = .ok (.iconst 0, 1) := all_at dvX12_readClause_82 17 rfl
theorem dX12_readClause_114 : decode cX12_readClause 114 = .ok (.iconst 0, 1) := all_at dvX12_readClause_82 18 rfl
theorem dX12_readClause_115 : decode cX12_readClause 115 = .ok (.invokevirtual 282, 3) := all_at dvX12_readClause_82 19 rfl
theorem dX12_readClause_118 : decode cX12_readClause 118 = .ok (.ifCond .eq 7, 3) := all_at dvX12_readClause_82 20 rfl
theorem dX12_readClause_121 : decode cX12_readClause 121 = .ok (.iconst 0, 1) := all_at dvX12_readClause_82 21 rfl
theorem dX12_readClause_122 : decode cX12_readClause 122 = .ok (.goto 52, 3) := all_at dvX12_readClause_82 22 rfl
theorem dX12_readClause_125 : decode cX12_readClause 125 = .ok (.aload_n 0, 1) := all_at dvX12_readClause_82 23 rfl
set_option maxRecDepth 100000 in
theorem dvX12_readClause_126 : ([(126, .iconst 5, 1), (127, .bipush 108, 2), (129, .bipush 101, 2), (131, .bipush 97, 2), (133, .bipush 115, 2), (135, .bipush 116, 2), (137, .iconst 0, 1), (138, .invokevirtual 282, 3), (141, .ifCond .eq 7, 3), (144, .iconst 1, 1), (145, .goto 29, 3), (148, .aload_n 0, 1), (149, .bipush 6, 2), (151, .bipush 109, 2), (153, .bipush 105, 2), (155, .bipush 100, 2), (157, .bipush 100, 2), (159, .bipush 108, 2), (161, .bipush 101, 2), (163, .invokevirtual 282, 3), (166, .ifCond .eq 7, 3), (169, .iconst 2, 1), (170, .goto 4, 3), (173, .iconst (-1), 1)] : List (Nat × Instr × Nat)).all (fun q => decide (decode cX12_readClause q.1 = .ok (q.2.1, q.2.2))) = true := by decide +kernel
theorem dX12_readClause_126 : decode cX12_readClause 126 = .ok (.iconst 5, 1) := all_at dvX12_readClause_126 0 rfl
theorem dX12_readClause_127 : decode cX12_readClause 127 = .ok (.bipush 108, 2) := all_at dvX12_readClause_126 1 rfl
theorem dX12_readClause_129 : decode cX12_readClause 129 = .ok (.bipush 101, 2) := all_at dvX12_readClause_126 2 rfl
theorem dX12_readClause_131 : decode cX12_readClause 131 = .ok (.bipush 97, 2) := all_at dvX12_readClause_126 3 rfl
theorem dX12_readClause_133 : decode cX12_readClause 133 = .ok (.bipush 115, 2) := all_at dvX12_readClause_126 4 rfl
theorem dX12_readClause_135 : decode cX12_readClause 135 = .ok (.bipush 116, 2) := all_at dvX12_readClause_126 5 rfl
theorem dX12_readClause_137 : decode cX12_readClause 137 = .ok (.iconst 0, 1) := all_at dvX12_readClause_126 6 rfl
theorem dX12_readClause_138 : decode cX12_readClause 138 = .ok (.invokevirtual 282, 3) := all_at dvX12_readClause_126 7 rfl
theorem dX12_readClause_141 : decode cX12_readClause 141 = .ok (.ifCond .eq 7, 3) := all_at dvX12_readClause_126 8 rfl
theorem dX12_readClause_144 : decode cX12_readClause 144 = .ok (.iconst 1, 1) := all_at dvX12_readClause_126 9 rfl
theorem dX12_readClause_145 : decode cX12_readClause 145 = .ok (.goto 29, 3) := all_at dvX12_readClause_126 10 rfl
theorem dX12_readClause_148 : decode cX12_readClause 148 = .ok (.aload_n 0, 1) := all_at dvX12_readClause_126 11 rfl
theorem dX12_readClause_149 : decode cX12_readClause 149 = .ok (.bipush 6, 2) := all_at dvX12_readClause_126 12 rfl
theorem dX12_readClause_151 : decode cX12_readClause 151 = .ok (.bipush 109, 2) := all_at dvX12_readClause_126 13 rfl
theorem dX12_readClause_153 : decode cX12_readClause 153 = .ok (.bipush 105, 2) := all_at dvX12_readClause_126 14 rfl
theorem dX12_readClause_155 : decode cX12_readClause 155 = .ok (.bipush 100, 2) := all_at dvX12_readClause_126 15 rfl
theorem dX12_readClause_157 : decode cX12_readClause 157 = .ok (.bipush 100, 2) := all_at dvX12_readClause_126 16 rfl
theorem dX12_readClause_159 : decode cX12_readClause 159 = .ok (.bipush 108, 2) := all_at dvX12_readClause_126 17 rfl
theorem dX12_readClause_161 : decode cX12_readClause 161 = .ok (.bipush 101, 2) := all_at dvX12_readClause_126 18 rfl
theorem dX12_readClause_163 : decode cX12_readClause 163 = .ok (.invokevirtual 282, 3) := all_at dvX12_readClause_126 19 rfl
theorem dX12_readClause_166 : decode cX12_readClause 166 = .ok (.ifCond .eq 7, 3) := all_at dvX12_readClause_126 20 rfl
theorem dX12_readClause_169 : decode cX12_readClause 169 = .ok (.iconst 2, 1) := all_at dvX12_readClause_126 21 rfl
theorem dX12_readClause_170 : decode cX12_readClause 170 = .ok (.goto 4, 3) := all_at dvX12_readClause_126 22 rfl
theorem dX12_readClause_173 : decode cX12_readClause 173 = .ok (.iconst (-1), 1) := all_at dvX12_readClause_126 23 rfl
set_option maxRecDepth 100000 in
theorem dvX12_readClause_174 : ([(174, .iastore, 1), (175, .aload_n 0, 1), (176, .aload_n 0, 1), (177, .getfield 71, 3), (180, .iload_n 2, 1), (181, .iaload, 1), (182, .ifCond .lt 7, 3), (185, .iconst 1, 1), (186, .goto 4, 3), (189, .iconst 0, 1), (190, .iconst 1, 1), (191, .aload_n 0, 1), (192, .getfield 264, 3), (195, .invokevirtual 278, 3), (198, .istore_n 3, 1), (199, .goto 58, 3), (202, .iload_n 1, 1), (203, .iconst 3, 1), (204, .if_icmp .ne 48, 3), (207, .aload_n 0, 1), (208, .getfield 71, 3), (211, .iload_n 2, 1), (212, .aload_n 0, 1), (213, .iconst 0, 1)] : List (Nat × Instr × Nat)).all (fun q => decide (decode cX12_readClause q.1 = .ok (q.2.1, q.2.2))) = true := by decide +kernel
theorem dX12_readClause_174 : decode cX12_readClause 174 = .ok (.iastore, 1) := all_at dvX12_readClause_174 0 rfl
theorem dX12_readClause_175 : decode cX12_readClause 175 = .ok (.aload_n 0, 1) := all_at dvX12_readClause_174 1 rfl
theorem dX12_readClause_176 : decode cX12_readClause 176 = .ok (.aload_n 0, 1) := all_at dvX12_readClause_174 2 rfl
theorem dX12_readClause_177 : decode cX12_readClause 177 = .ok (.getfield 71, 3) := all_at dvX12_readClause_174 3 rfl
theorem dX12_readClause_180 : decode cX12_readClause 180 = .ok (.iload_n 2, 1) := all_at dvX12_readClause_174 4 rfl
theorem dX12_readClause_181 : decode cX12_readClause 181 = .ok (.iaload, 1) := all_at dvX12_readClause_174 5 rfl
theorem dX12_readClause_182 : decode cX12_readClause 182 = .ok (.ifCond .lt 7, 3) := all_at dvX12_readClause_174 6 rfl
theorem dX12_readClause_185 : decode cX12_readClause 185 = .ok (.iconst 1, 1) := all_at dvX12_readClause_174 7 rfl
theorem dX12_readClause_186 : decode cX12_readClause 186 = .ok (.goto 4, 3) := all_at dvX12_readClause_174 8 rfl
theorem dX12_readClause_189 : decode cX12_readClause 189 = .ok (.iconst 0, 1) := all_at dvX12_readClause_174 9 rfl
theorem dX12_readClause_190 : decode cX12_readClause 190 = .ok (.iconst 1, 1) := all_at dvX12_readClause_174 10 rfl
theorem dX12_readClause_191 : decode cX12_readClause 191 = .ok (.aload_n 0, 1) := all_at dvX12_readClause_174 11 rfl
theorem dX12_readClause_192 : decode cX12_readClause 192 = .ok (.getfield 264, 3) := all_at dvX12_readClause_174 12 rfl
theorem dX12_readClause_195 : decode cX12_readClause 195 = .ok (.invokevirtual 278, 3) := all_at dvX12_readClause_174 13 rfl
theorem dX12_readClause_198 : decode cX12_readClause 198 = .ok (.istore_n 3, 1) := all_at dvX12_readClause_174 14 rfl
theorem dX12_readClause_199 : decode cX12_readClause 199 = .ok (.goto 58, 3) := all_at dvX12_readClause_174 15 rfl
theorem dX12_readClause_202 : decode cX12_readClause 202 = .ok (.iload_n 1, 1) := all_at dvX12_readClause_174 16 rfl
theorem dX12_readClause_203 : decode cX12_readClause 203 = .ok (.iconst 3, 1) := all_at dvX12_readClause_174 17 rfl
theorem dX12_readClause_204 : decode cX12_readClause 204 = .ok (.if_icmp .ne 48, 3) := all_at dvX12_readClause_174 18 rfl
theorem dX12_readClause_207 : decode cX12_readClause 207 = .ok (.aload_n 0, 1) := all_at dvX12_readClause_174 19 rfl
theorem dX12_readClause_208 : decode cX12_readClause 208 = .ok (.getfield 71, 3) := all_at dvX12_readClause_174 20 rfl
theorem dX12_readClause_211 : decode cX12_readClause 211 = .ok (.iload_n 2, 1) := all_at dvX12_readClause_174 21 rfl
theorem dX12_readClause_212 : decode cX12_readClause 212 = .ok (.aload_n 0, 1) := all_at dvX12_readClause_174 22 rfl
theorem dX12_readClause_213 : decode cX12_readClause 213 = .ok (.iconst 0, 1) := all_at dvX12_readClause_174 23 rfl
set_option maxRecDepth 100000 in
theorem dvX12_readClause_214 : ([(214, .sipush 9999, 3), (217, .invokevirtual 289, 3), (220, .iastore, 1), (221, .aload_n 0, 1), (222, .aload_n 0, 1), (223, .getfield 71, 3), (226, .iload_n 2, 1), (227, .iaload, 1), (228, .aload_n 0, 1), (229, .getfield 303, 3), (232, .if_icmp .ge 7, 3), (235, .iconst 1, 1), (236, .goto 4, 3), (239, .iconst 0, 1), (240, .iconst 3, 1), (241, .aload_n 0, 1), (242, .getfield 264, 3), (245, .invokevirtual 278, 3), (248, .istore_n 3, 1), (249, .goto 8, 3), (252, .aload_n 0, 1), (253, .iload_n 2, 1), (254, .invokevirtual 306, 3), (257, .aload_n 0, 1)] : List (Nat × Instr × Nat)).all (fun q => decide (decode cX12_readClause q.1 = .ok (q.2.1, q.2.2))) = true := by decide +kernel
theorem dX12_readClause_214 : decode cX12_readClause 214 = .ok (.sipush 9999, 3) := all_at dvX12_readClause_214 0 rfl
theorem dX12_readClause_217 : decode cX12_readClause 217 = .ok (.invokevirtual 289, 3) := all_at dvX12_readClause_214 1 rfl
theorem dX12_readClause_220 : decode cX12_readClause 220 = .ok (.iastore, 1) := all_at dvX12_readClause_214 2 rfl
theorem dX12_readClause_221 : decode cX12_readClause 221 = .ok (.aload_n 0, 1) := all_at dvX12_readClause_214 3 rfl
theorem dX12_readClause_222 : decode cX12_readClause 222 = .ok (.aload_n 0, 1) := all_at dvX12_readClause_214 4 rfl
theorem dX12_readClause_223 : decode cX12_readClause 223 = .ok (.getfield 71, 3) := all_at dvX12_readClause_214 5 rfl
theorem dX12_readClause_226 : decode cX12_readClause 226 = .ok (.iload_n 2, 1) := all_at dvX12_readClause_214 6 rfl
theorem dX12_readClause_227 : decode cX12_readClause 227 = .ok (.iaload, 1) := all_at dvX12_readClause_214 7 rfl
theorem dX12_readClause_228 : decode cX12_readClause 228 = .ok (.aload_n 0, 1) := all_at dvX12_readClause_214 8 rfl
theorem dX12_readClause_229 : decode cX12_readClause 229 = .ok (.getfield 303, 3) := all_at dvX12_readClause_214 9 rfl
theorem dX12_readClause_232 : decode cX12_readClause 232 = .ok (.if_icmp .ge 7, 3) := all_at dvX12_readClause_214 10 rfl
theorem dX12_readClause_235 : decode cX12_readClause 235 = .ok (.iconst 1, 1) := all_at dvX12_readClause_214 11 rfl
theorem dX12_readClause_236 : decode cX12_readClause 236 = .ok (.goto 4, 3) := all_at dvX12_readClause_214 12 rfl
theorem dX12_readClause_239 : decode cX12_readClause 239 = .ok (.iconst 0, 1) := all_at dvX12_readClause_214 13 rfl
theorem dX12_readClause_240 : decode cX12_readClause 240 = .ok (.iconst 3, 1) := all_at dvX12_readClause_214 14 rfl
theorem dX12_readClause_241 : decode cX12_readClause 241 = .ok (.aload_n 0, 1) := all_at dvX12_readClause_214 15 rfl
theorem dX12_readClause_242 : decode cX12_readClause 242 = .ok (.getfield 264, 3) := all_at dvX12_readClause_214 16 rfl
theorem dX12_readClause_245 : decode cX12_readClause 245 = .ok (.invokevirtual 278, 3) := all_at dvX12_readClause_214 17 rfl
theorem dX12_readClause_248 : decode cX12_readClause 248 = .ok (.istore_n 3, 1) := all_at dvX12_readClause_214 18 rfl
theorem dX12_readClause_249 : decode cX12_readClause 249 = .ok (.goto 8, 3) := all_at dvX12_readClause_214 19 rfl
theorem dX12_readClause_252 : decode cX12_readClause 252 = .ok (.aload_n 0, 1) := all_at dvX12_readClause_214 20 rfl
theorem dX12_readClause_253 : decode cX12_readClause 253 = .ok (.iload_n 2, 1) := all_at dvX12_readClause_214 21 rfl
theorem dX12_readClause_254 : decode cX12_readClause 254 = .ok (.invokevirtual 306, 3) := all_at dvX12_readClause_214 22 rfl
theorem dX12_readClause_257 : decode cX12_readClause 257 = .ok (.aload_n 0, 1) := all_at dvX12_readClause_214 23 rfl
set_option maxRecDepth 100000 in
theorem dvX12_readClause_258 : ([(258, .invokevirtual 260, 3), (261, .istore_n 3, 1), (262, .aload_n 0, 1), (263, .iload_n 3, 1), (264, .bipush 59, 2), (266, .if_icmp .ne 7, 3), (269, .iconst 1, 1), (270, .goto 4, 3), (273, .iconst 0, 1), (274, .iconst 1, 1), (275, .aload_n 0, 1), (276, .getfield 254, 3), (279, .invokevirtual 278, 3), (282, .ifCond .eq 13, 3), (285, .aload_n 0, 1), (286, .dup, 1), (287, .getfield 254, 3), (290, .iconst 1, 1), (291, .iadd, 1), (292, .putfield 254, 3), (295, .return_, 1)] : List (Nat × Instr × Nat)).all (fun q => decide (decode cX12_readClause q.1 = .ok (q.2.1, q.2.2))) = true := by decide +kernel
theorem dX12_readClause_258 : decode cX12_readClause 258 = .ok (.invokevirtual 260, 3) := all_at dvX12_readClause_258 0 rfl
theorem dX12_readClause_261 : decode cX12_readClause 261 = .ok (.istore_n 3, 1) := all_at dvX12_readClause_258 1 rfl
theorem dX12_readClause_262 : decode cX12_readClause 262 = .ok (.aload_n 0, 1) := all_at dvX12_readClause_258 2 rfl
theorem dX12_readClause_263 : decode cX12_readClause 263 = .ok (.iload_n 3, 1) := all_at dvX12_readClause_258 3 rfl
theorem dX12_readClause_264 : decode cX12_readClause 264 = .ok (.bipush 59, 2) := all_at dvX12_readClause_258 4 rfl
theorem dX12_readClause_266 : decode cX12_readClause 266 = .ok (.if_icmp .ne 7, 3) := all_at dvX12_readClause_258 5 rfl
theorem dX12_readClause_269 : decode cX12_readClause 269 = .ok (.iconst 1, 1) := all_at dvX12_readClause_258 6 rfl
theorem dX12_readClause_270 : decode cX12_readClause 270 = .ok (.goto 4, 3) := all_at dvX12_readClause_258 7 rfl
theorem dX12_readClause_273 : decode cX12_readClause 273 = .ok (.iconst 0, 1) := all_at dvX12_readClause_258 8 rfl
theorem dX12_readClause_274 : decode cX12_readClause 274 = .ok (.iconst 1, 1) := all_at dvX12_readClause_258 9 rfl
theorem dX12_readClause_275 : decode cX12_readClause 275 = .ok (.aload_n 0, 1) := all_at dvX12_readClause_258 10 rfl
theorem dX12_readClause_276 : decode cX12_readClause 276 = .ok (.getfield 254, 3) := all_at dvX12_readClause_258 11 rfl
theorem dX12_readClause_279 : decode cX12_readClause 279 = .ok (.invokevirtual 278, 3) := all_at dvX12_readClause_258 12 rfl
theorem dX12_readClause_282 : decode cX12_readClause 282 = .ok (.ifCond .eq 13, 3) := all_at dvX12_readClause_258 13 rfl
theorem dX12_readClause_285 : decode cX12_readClause 285 = .ok (.aload_n 0, 1) := all_at dvX12_readClause_258 14 rfl
theorem dX12_readClause_286 : decode cX12_readClause 286 = .ok (.dup, 1) := all_at dvX12_readClause_258 15 rfl
theorem dX12_readClause_287 : decode cX12_readClause 287 = .ok (.getfield 254, 3) := all_at dvX12_readClause_258 16 rfl
theorem dX12_readClause_290 : decode cX12_readClause 290 = .ok (.iconst 1, 1) := all_at dvX12_readClause_258 17 rfl
theorem dX12_readClause_291 : decode cX12_readClause 291 = .ok (.iadd, 1) := all_at dvX12_readClause_258 18 rfl
theorem dX12_readClause_292 : decode cX12_readClause 292 = .ok (.putfield 254, 3) := all_at dvX12_readClause_258 19 rfl
theorem dX12_readClause_295 : decode cX12_readClause 295 = .ok (.return_, 1) := all_at dvX12_readClause_258 20 rfl
set_option maxRecDepth 100000 in
theorem dvX12_readName_0 : ([(0, .aload_n 0, 1), (1, .invokevirtual 286, 3), (4, .aload_n 0, 1), (5, .aload_n 0, 1), (6, .getfield 271, 3), (9, .ifCond .le 7, 3), (12, .iconst 1, 1), (13, .goto 4, 3), (16, .iconst 0, 1), (17, .iconst 1, 1), (18, .aload_n 0, 1), (19, .getfield 264, 3), (22, .invokevirtual 278, 3), (25, .ifCond .eq 29, 3), (28, .aload_n 0, 1), (29, .aload_n 0, 1), (30, .getfield 271, 3), (33, .bipush 9, 2), (35, .if_icmp .ge 7, 3), (38, .iconst 1, 1), (39, .goto 4, 3), (42, .iconst 0, 1), (43, .iconst 4, 1), (44, .aload_n 0, 1)] : List (Nat × Instr × Nat)).all (fun q => decide (decode cX12_readName q.1 = .ok (q.2.1, q.2.2))) = true := by decide +kernel
theorem dX12_readName_0 : decode cX12_readName 0 = .ok (.aload_n 0, 1) := all_at dvX12_readName_0 0 rfl
theorem dX12_readName_1 : decode cX12_readName 1 = .ok (.invokevirtual 286, 3) := all_at dvX12_readName_0 1 rfl
theorem dX12_readName_4 : decode cX12_readName 4 = .ok (.aload_n 0, 1) := all_at dvX12_readName_0 2 rfl
theorem dX12_readName_5 : decode cX12_readName 5 = .ok (.aload_n 0, 1) := all_at dvX12_readName_0 3 rfl
theorem dX12_readName_6 : decode cX12_readName 6 = .ok (.getfield 271, 3) := all_at dvX12_readName_0 4 rfl
theorem dX12_readName_9 : decode cX12_readName 9 = .ok (.ifCond .le 7, 3) := all_at dvX12_readName_0 5 rfl
theorem dX12_readName_12 : decode cX12_readName 12 = .ok (.iconst 1, 1) := all_at dvX12_readName_0 6 rfl
theorem dX12_readName_13 : decode cX12_readName 13 = .ok (.goto 4, 3) := all_at dvX12_readName_0 7 rfl
theorem dX12_readName_16 : decode cX12_readName 16 = .ok (.iconst 0, 1) := all_at dvX12_readName_0 8 rfl
theorem dX12_readName_17 : decode cX12_readName 17 = .ok (.iconst 1, 1) := all_at dvX12_readName_0 9 rfl
theorem dX12_readName_18 : decode cX12_readName 18 = .ok (.aload_n 0, 1) := all_at dvX12_readName_0 10 rfl
theorem dX12_readName_19 : decode cX12_readName 19 = .ok (.getfield 264, 3) := all_at dvX12_readName_0 11 rfl
theorem dX12_readName_22 : decode cX12_readName 22 = .ok (.invokevirtual 278, 3) := all_at dvX12_readName_0 12 rfl
theorem dX12_readName_25 : decode cX12_readName 25 = .ok (.ifCond .eq 29, 3) := all_at dvX12_readName_0 13 rfl
theorem dX12_readName_28 : decode cX12_readName 28 = .ok (.aload_n 0, 1) := all_at dvX12_readName_0 14 rfl
theorem dX12_readName_29 : decode cX12_readName 29 = .ok (.aload_n 0, 1) := all_at dvX12_readName_0 15 rfl
theorem dX12_readName_30 : decode cX12_readName 30 = .ok (.getfield 271, 3) := all_at dvX12_readName_0 16 rfl
theorem dX12_readName_33 : decode cX12_readName 33 = .ok (.bipush 9, 2) := all_at dvX12_readName_0 17 rfl
theorem dX12_readName_35 : decode cX12_readName 35 = .ok (.if_icmp .ge 7, 3) := all_at dvX12_readName_0 18 rfl
theorem dX12_readName_38 : decode cX12_readName 38 = .ok (.iconst 1, 1) := all_at dvX12_readName_0 19 rfl
theorem dX12_readName_39 : decode cX12_readName 39 = .ok (.goto 4, 3) := all_at dvX12_readName_0 20 rfl
theorem dX12_readName_42 : decode cX12_readName 42 = .ok (.iconst 0, 1) := all_at dvX12_readName_0 21 rfl
theorem dX12_readName_43 : decode cX12_readName 43 = .ok (.iconst 4, 1) := all_at dvX12_readName_0 22 rfl
theorem dX12_readName_44 : decode cX12_readName 44 = .ok (.aload_n 0, 1) := all_at dvX12_readName_0 23 rfl
set_option maxRecDepth 100000 in
theorem dvX12_readName_45 : ([(45, .getfield 264, 3), (48, .invokevirtual 278, 3), (51, .ifCond .ne 4, 3), (54, .return_, 1), (55, .aload_n 0, 1), (56, .getfield 77, 3), (59, .iload_n 1, 1), (60, .aload_n 0, 1), (61, .getfield 271, 3), (64, .iastore, 1), (65, .iconst 0, 1), (66, .istore_n 2, 1), (67, .iload_n 2, 1), (68, .aload_n 0, 1), (69, .getfield 271, 3), (72, .if_icmp .ge 31, 3), (75, .aload_n 0, 1), (76, .getfield 80, 3), (79, .bipush 8, 2), (81, .iload_n 1, 1), (82, .imul, 1), (83, .iload_n 2, 1), (84, .iadd, 1), (85, .aload_n 0, 1)] : List (Nat × Instr × Nat)).all (fun q => decide (decode cX12_readName q.1 = .ok (q.2.1, q.2.2))) = true := by decide +kernel
theorem dX12_readName_45 : decode cX12_readName 45 = .ok (.getfield 264, 3) := all_at dvX12_readName_45 0 rfl
theorem dX12_readName_48 : decode cX12_readName 48 = .ok (.invokevirtual 278, 3) := all_at dvX12_readName_45 1 rfl
theorem dX12_readName_51 : decode cX12_readName 51 = .ok (.ifCond .ne 4, 3) := all_at dvX12_readName_45 2 rfl
theorem dX12_readName_54 : decode cX12_readName 54 = .ok (.return_, 1) := all_at dvX12_readName_45 3 rfl
theorem dX12_readName_55 : decode cX12_readName 55 = .ok (.aload_n 0, 1) := all_at dvX12_readName_45 4 rfl
theorem dX12_readName_56 : decode cX12_readName 56 = .ok (.getfield 77, 3) := all_at dvX12_readName_45 5 rfl
theorem dX12_readName_59 : decode cX12_readName 59 = .ok (.iload_n 1, 1) := all_at dvX12_readName_45 6 rfl
theorem dX12_readName_60 : decode cX12_readName 60 = .ok (.aload_n 0, 1) := all_at dvX12_readName_45 7 rfl
theorem dX12_readName_61 : decode cX12_readName 61 = .ok (.getfield 271, 3) := all_at dvX12_readName_45 8 rfl
theorem dX12_readName_64 : decode cX12_readName 64 = .ok (.iastore, 1) := all_at dvX12_readName_45 9 rfl
theorem dX12_readName_65 : decode cX12_readName 65 = .ok (.iconst 0, 1) := all_at dvX12_readName_45 10 rfl
theorem dX12_readName_66 : decode cX12_readName 66 = .ok (.istore_n 2, 1) := all_at dvX12_readName_45 11 rfl
theorem dX12_readName_67 : decode cX12_readName 67 = .ok (.iload_n 2, 1) := all_at dvX12_readName_45 12 rfl
theorem dX12_readName_68 : decode cX12_readName 68 = .ok (.aload_n 0, 1) := all_at dvX12_readName_45 13 rfl
theorem dX12_readName_69 : decode cX12_readName 69 = .ok (.getfield 271, 3) := all_at dvX12_readName_45 14 rfl
theorem dX12_readName_72 : decode cX12_readName 72 = .ok (.if_icmp .ge 31, 3) := all_at dvX12_readName_45 15 rfl
theorem dX12_readName_75 : decode cX12_readName 75 = .ok (.aload_n 0, 1) := all_at dvX12_readName_45 16 rfl
theorem dX12_readName_76 : decode cX12_readName 76 = .ok (.getfield 80, 3) := all_at dvX12_readName_45 17 rfl
theorem dX12_readName_79 : decode cX12_readName 79 = .ok (.bipush 8, 2) := all_at dvX12_readName_45 18 rfl
theorem dX12_readName_81 : decode cX12_readName 81 = .ok (.iload_n 1, 1) := all_at dvX12_readName_45 19 rfl
theorem dX12_readName_82 : decode cX12_readName 82 = .ok (.imul, 1) := all_at dvX12_readName_45 20 rfl
theorem dX12_readName_83 : decode cX12_readName 83 = .ok (.iload_n 2, 1) := all_at dvX12_readName_45 21 rfl
theorem dX12_readName_84 : decode cX12_readName 84 = .ok (.iadd, 1) := all_at dvX12_readName_45 22 rfl
theorem dX12_readName_85 : decode cX12_readName 85 = .ok (.aload_n 0, 1) := all_at dvX12_readName_45 23 rfl
set_option maxRecDepth 100000 in
theorem dvX12_readName_86 : ([(86, .getfield 83, 3), (89, .aload_n 0, 1), (90, .getfield 264, 3), (93, .iload_n 2, 1), (94, .iadd, 1), (95, .iaload, 1), (96, .iastore, 1), (97, .iinc 2 1, 3), (100, .goto (-33), 3), (103, .aload_n 0, 1), (104, .getfield 71, 3), (107, .iload_n 1, 1), (108, .aload_n 0, 1), (109, .iconst 0, 1), (110, .sipush 9999, 3), (113, .invokevirtual 289, 3), (116, .iastore, 1), (117, .aload_n 0, 1), (118, .getfield 257, 3), (121, .ifCond .ne 53, 3), (124, .aload_n 0, 1), (125, .invokevirtual 286, 3), (128, .aload_n 0, 1), (129, .aload_n 0, 1)] : List (Nat × Instr × Nat)).all (fun q => decide (decode cX12_readName q.1 = .ok (q.2.1, q.2.2))) = true := by decide +kernel
theorem dX12_readName_86 : decode cX12_readName 86 = .ok (.getfield 83, 3) := all_at dvX12_readName_86 0 rfl
theorem dX12_readName_89 : decode cX12_readName 89 = .ok (.aload_n 0, 1) := all_at dvX12_readName_86 1 rfl
theorem dX12_readName_90 : decode cX12_readName 90 = .ok (.getfield 264, 3) := all_at dvX12_readName_86 2 rfl
theorem dX12_readName_93 : decode cX12_readName 93 = .ok (.iload_n 2, 1) := all_at dvX12_readName_86 3 rfl
theorem dX12_readName_94 : decode cX12_readName 94 = .ok (.iadd, 1) := all_at dvX12_readName_86 4 rfl
theorem dX12_readName_95 : decode cX12_readName 95 = .ok (.iaload, 1) := all_at dvX12_readName_86 5 rfl
theorem dX12_readName_96 : decode cX12_readName 96 = .ok (.iastore, 1) := all_at dvX12_readName_86 6 rfl
theorem dX12_readName_97 : decode cX12_readName 97 = .ok (.iinc 2 1, 3) := all_at dvX12_readName_86 7 rfl
theorem dX12_readName_100 : decode cX12_readName 100 = .ok (.goto (-33), 3) := all_at dvX12_readName_86 8 rfl
theorem dX12_readName_103 : decode cX12_readName 103 = .ok (.aload_n 0, 1) := all_at dvX12_readName_86 9 rfl
theorem dX12_readName_104 : decode cX12_readName 104 = .ok (.getfield 71, 3) := all_at dvX12_readName_86 10 rfl
theorem dX12_readName_107 : decode cX12_readName 107 = .ok (.iload_n 1, 1) := all_at dvX12_readName_86 11 rfl
theorem dX12_readName_108 : decode cX12_readName 108 = .ok (.aload_n 0, 1) := all_at dvX12_readName_86 12 rfl
theorem dX12_readName_109 : decode cX12_readName 109 = .ok (.iconst 0, 1) := all_at dvX12_readName_86 13 rfl
theorem dX12_readName_110 : decode cX12_readName 110 = .ok (.sipush 9999, 3) := all_at dvX12_readName_86 14 rfl
theorem dX12_readName_113 : decode cX12_readName 113 = .ok (.invokevirtual 289, 3) := all_at dvX12_readName_86 15 rfl
theorem dX12_readName_116 : decode cX12_readName 116 = .ok (.iastore, 1) := all_at dvX12_readName_86 16 rfl
theorem dX12_readName_117 : decode cX12_readName 117 = .ok (.aload_n 0, 1) := all_at dvX12_readName_86 17 rfl
theorem dX12_readName_118 : decode cX12_readName 118 = .ok (.getfield 257, 3) := all_at dvX12_readName_86 18 rfl
theorem dX12_readName_121 : decode cX12_readName 121 = .ok (.ifCond .ne 53, 3) := all_at dvX12_readName_86 19 rfl
theorem dX12_readName_124 : decode cX12_readName 124 = .ok (.aload_n 0, 1) := all_at dvX12_readName_86 20 rfl
theorem dX12_readName_125 : decode cX12_readName 125 = .ok (.invokevirtual 286, 3) := all_at dvX12_readName_86 21 rfl
theorem dX12_readName_128 : decode cX12_readName 128 = .ok (.aload_n 0, 1) := all_at dvX12_readName_86 22 rfl
theorem dX12_readName_129 : decode cX12_readName 129 = .ok (.aload_n 0, 1) := all_at dvX12_readName_86 23 rfl
set_option maxRecDepth 100000 in
theorem dvX12_readName_130 : ([(130, .iconst 2, 1), (131, .bipush 116, 2), (133, .bipush 111, 2), (135, .iconst 0, 1), (136, .iconst 0, 1), (137, .iconst 0, 1), (138, .iconst 0, 1), (139, .invokevirtual 282, 3), (142, .iconst 1, 1), (143, .aload_n 0, 1), (144, .getfield 264, 3), (147, .invokevirtual 278, 3), (150, .ifCond .eq 24, 3), (153, .aload_n 0, 1), (154, .getfield 74, 3), (157, .iload_n 1, 1), (158, .aload_n 0, 1), (159, .aload_n 0, 1), (160, .getfield 71, 3), (163, .iload_n 1, 1), (164, .iaload, 1), (165, .iconst 1, 1), (166, .iadd, 1), (167, .sipush 9999, 3)] : List (Nat × Instr × Nat)).all (fun q => decide (decode cX12_readName q.1 = .ok (q.2.1, q.2.2))) = true := by decide +kernel
theorem dX12_readName_130 : decode cX12_readName 130 = .ok (.iconst 2, 1) := all_at dvX12_readName_130 0 rfl
theorem dX12_readName_131 : decode cX12_readName 131 = .ok (.bipush 116, 2) := all_at dvX12_readName_130 1 rfl
theorem dX12_readName_133 : decode cX12_readName 133 = .ok (.bipush 111, 2) := all_at dvX12_readName_130 2 rfl
theorem dX12_readName_135 : decode cX12_readName 135 = .ok (.iconst 0, 1) := all_at dvX12_readName_130 3 rfl
theorem dX12_readName_136 : decode cX12_readName 136 = .ok (.iconst 0, 1) := all_at dvX12_readName_130 4 rfl
theorem dX12_readName_137 : decode cX12_readName 137 = .ok (.iconst 0, 1) := all_at dvX12_readName_130 5 rfl
theorem dX12_readName_138 : decode cX12_readName 138 = .ok (.iconst 0, 1) := all_at dvX12_readName_130 6 rfl
theorem dX12_readName_139 : decode cX12_readName 139 = .ok (.invokevirtual 282, 3) := all_at dvX12_readName_130 7 rfl
theorem dX12_readName_142 : decode cX12_readName 142 = .ok (.iconst 1, 1) := all_at dvX12_readName_130 8 rfl
theorem dX12_readName_143 : decode cX12_readName 143 = .ok (.aload_n 0, 1) := all_at dvX12_readName_130 9 rfl
theorem dX12_readName_144 : decode cX12_readName 144 = .ok (.getfield 264, 3) := all_at dvX12_readName_130 10 rfl
theorem dX12_readName_147 : decode cX12_readName 147 = .ok (.invokevirtual 278, 3) := all_at dvX12_readName_130 11 rfl
theorem dX12_readName_150 : decode cX12_readName 150 = .ok (.ifCond .eq 24, 3) := all_at dvX12_readName_130 12 rfl
theorem dX12_readName_153 : decode cX12_readName 153 = .ok (.aload_n 0, 1) := all_at dvX12_readName_130 13 rfl
theorem dX12_readName_154 : decode cX12_readName 154 = .ok (.getfield 74, 3) := all_at dvX12_readName_130 14 rfl
theorem dX12_readName_157 : decode cX12_readName 157 = .ok (.iload_n 1, 1) := all_at dvX12_readName_130 15 rfl
theorem dX12_readName_158 : decode cX12_readName 158 = .ok (.aload_n 0, 1) := all_at dvX12_readName_130 16 rfl
theorem dX12_readName_159 : decode cX12_readName 159 = .ok (.aload_n 0, 1) := all_at dvX12_readName_130 17 rfl
theorem dX12_readName_160 : decode cX12_readName 160 = .ok (.getfield 71, 3) := all_at dvX12_readName_130 18 rfl
theorem dX12_readName_163 : decode cX12_readName 163 = .ok (.iload_n 1, 1) := all_at dvX12_readName_130 19 rfl
theorem dX12_readName_164 : decode cX12_readName 164 = .ok (.iaload, 1) := all_at dvX12_readName_130 20 rfl
theorem dX12_readName_165 : decode cX12_readName 165 = .ok (.iconst 1, 1) := all_at dvX12_readName_130 21 rfl
theorem dX12_readName_166 : decode cX12_readName 166 = .ok (.iadd, 1) := all_at dvX12_readName_130 22 rfl
theorem dX12_readName_167 : decode cX12_readName 167 = .ok (.sipush 9999, 3) := all_at dvX12_readName_130 23 rfl
theorem dX12_readName_170 : decode cX12_readName 170 = .ok (.invokevirtual 289, 3) := by decide +kernel
theorem dX12_readName_173 : decode cX12_readName 173 = .ok (.iastore, 1) := by decide +kernel
theorem dX12_readName_174 : decode cX12_readName 174 = .ok (.return_, 1) := by decide +kernel
