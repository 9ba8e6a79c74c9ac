/-! ===== n3 ===== -/
set_option maxRecDepth 100000 in
theorem m_48 : Cond.selects RX12 yX12_takeWord yX12_takeWord ∈ tb := tb_in 48 (by decide +kernel) rfl
set_option maxRecDepth 100000 in
theorem m_52 : Cond.selects RX12 yX12_letOf yX12_letOf ∈ tb := tb_in 52 (by decide +kernel) rfl
set_option maxRecDepth 100000 in
theorem m_53 : Cond.selects RX12 yX12_takeNumber yX12_takeNumber ∈ tb := tb_in 53 (by decide +kernel) rfl
set_option maxRecDepth 100000 in
theorem m_54 : Cond.selects RX12 yX12_readName yX12_readName ∈ tb := tb_in 54 (by decide +kernel) rfl
theorem m_1166 : Cond.fieldLink RX12 68 "SilkHouseModel" "nameOf" "[I" ∈ tb := mb_5_5 _ (List.mem_of_getElem? (i := 7) rfl)
theorem m_1167 : Cond.fieldLink RX12 71 "SilkHouseModel" "first" "[I" ∈ tb := mb_5_5 _ (List.mem_of_getElem? (i := 8) rfl)
theorem m_1168 : Cond.fieldLink RX12 74 "SilkHouseModel" "second" "[I" ∈ tb := mb_5_5 _ (List.mem_of_getElem? (i := 9) rfl)
theorem m_1462 : Cond.methodLink RX12 286 yX12_takeWord ∈ tb := mb_6_3 _ (List.mem_of_getElem? (i := 19) rfl)
theorem m_1464 : Cond.instanceMethod yX12_takeWord ∈ tb := mb_6_3 _ (List.mem_of_getElem? (i := 20) rfl)
theorem m_1465 : Cond.code yX12_takeWord cX12_takeWord 2 none ∈ tb := mb_6_3 _ (List.mem_of_getElem? (i := 21) rfl)
theorem m_1480 : Cond.methodLink RX12 293 yX12_letOf ∈ tb := mb_6_4 _ (List.mem_of_getElem? (i := 9) rfl)
theorem m_1482 : Cond.instanceMethod yX12_letOf ∈ tb := mb_6_4 _ (List.mem_of_getElem? (i := 10) rfl)
theorem m_1483 : Cond.code yX12_letOf cX12_letOf 1 (some .int) ∈ tb := mb_6_4 _ (List.mem_of_getElem? (i := 11) rfl)
theorem m_1484 : Cond.methodLink RX12 296 yX12_leastOf ∈ tb := mb_6_4 _ (List.mem_of_getElem? (i := 12) rfl)
theorem m_1485 : Cond.static yX12_leastOf ∈ tb := mb_6_4 _ (List.mem_of_getElem? (i := 13) rfl)
theorem m_1486 : Cond.code yX12_leastOf cX12_leastOf 1 (some .int) ∈ tb := mb_6_4 _ (List.mem_of_getElem? (i := 14) rfl)
theorem m_1487 : Cond.methodLink RX12 300 yX12_mostOf ∈ tb := mb_6_4 _ (List.mem_of_getElem? (i := 15) rfl)
theorem m_1488 : Cond.static yX12_mostOf ∈ tb := mb_6_4 _ (List.mem_of_getElem? (i := 16) rfl)
theorem m_1489 : Cond.code yX12_mostOf cX12_mostOf 1 (some .int) ∈ tb := mb_6_4 _ (List.mem_of_getElem? (i := 17) rfl)
theorem m_1490 : Cond.methodLink RX12 289 yX12_takeNumber ∈ tb := mb_6_4 _ (List.mem_of_getElem? (i := 18) rfl)
theorem m_1492 : Cond.instanceMethod yX12_takeNumber ∈ tb := mb_6_4 _ (List.mem_of_getElem? (i := 19) rfl)
theorem m_1493 : Cond.code yX12_takeNumber cX12_takeNumber 6 (some .int) ∈ tb := mb_6_4 _ (List.mem_of_getElem? (i := 20) rfl)
theorem m_1496 : Cond.methodLink RX12 306 yX12_readName ∈ tb := mb_6_4 _ (List.mem_of_getElem? (i := 23) rfl)
theorem m_1498 : Cond.instanceMethod yX12_readName ∈ tb := mb_6_5 _ (List.mem_of_getElem? (i := 0) rfl)
theorem m_1499 : Cond.code yX12_readName cX12_readName 3 none ∈ tb := mb_6_5 _ (List.mem_of_getElem? (i := 1) rfl)
theorem hd_X12_leastOf_v : yX12_leastOf.cls = RX12 ∧ yX12_leastOf.cls ≠ "java/lang/invoke/MethodHandle" ∧ yX12_leastOf.cls ≠ "java/lang/invoke/VarHandle" ∧ (parseMethodDescriptor yX12_leastOf.desc).map (fun d => d.parameters.length) = some 1 := by decide +kernel
theorem hd_X12_letOf_v : yX12_letOf.cls = RX12 ∧ yX12_letOf.cls ≠ "java/lang/invoke/MethodHandle" ∧ yX12_letOf.cls ≠ "java/lang/invoke/VarHandle" ∧ (parseMethodDescriptor yX12_letOf.desc).map (fun d => d.parameters.length) = some 0 := by decide +kernel
theorem hd_X12_mostOf_v : yX12_mostOf.cls = RX12 ∧ yX12_mostOf.cls ≠ "java/lang/invoke/MethodHandle" ∧ yX12_mostOf.cls ≠ "java/lang/invoke/VarHandle" ∧ (parseMethodDescriptor yX12_mostOf.desc).map (fun d => d.parameters.length) = some 1 := by decide +kernel
theorem hd_X12_readName_v : yX12_readName.cls = RX12 ∧ yX12_readName.cls ≠ "java/lang/invoke/MethodHandle" ∧ yX12_readName.cls ≠ "java/lang/invoke/VarHandle" ∧ (parseMethodDescriptor yX12_readName.desc).map (fun d => d.parameters.length) = some 1 := by decide +kernel
theorem hd_X12_takeNumber_v : yX12_takeNumber.cls = RX12 ∧ yX12_takeNumber.cls ≠ "java/lang/invoke/MethodHandle" ∧ yX12_takeNumber.cls ≠ "java/lang/invoke/VarHandle" ∧ (parseMethodDescriptor yX12_takeNumber.desc).map (fun d => d.parameters.length) = some 2 := by decide +kernel
theorem hd_X12_takeWord_v : yX12_takeWord.cls = RX12 ∧ yX12_takeWord.cls ≠ "java/lang/invoke/MethodHandle" ∧ yX12_takeWord.cls ≠ "java/lang/invoke/VarHandle" ∧ (parseMethodDescriptor yX12_takeWord.desc).map (fun d => d.parameters.length) = some 0 := by decide +kernel
set_option maxRecDepth 100000 in
theorem dvX12_readClause_0 : ([(0, .aload_n 0, 1), (1, .getfield 65, 3), (4, .iload_n 2, 1), (5, .iload_n 1, 1), (6, .iastore, 1), (7, .aload_n 0, 1), (8, .getfield 77, 3), (11, .iload_n 2, 1), (12, .iconst 0, 1), (13, .iastore, 1), (14, .iload_n 1, 1), (15, .ifCond .ne 74, 3), (18, .aload_n 0, 1), (19, .invokevirtual 286, 3), (22, .aload_n 0, 1), (23, .getfield 68, 3), (26, .iload_n 2, 1), (27, .aload_n 0, 1), (28, .invokevirtual 293, 3), (31, .iastore, 1), (32, .aload_n 0, 1), (33, .aload_n 0, 1), (34, .getfield 68, 3), (37, .iload_n 2, 1)] : List (Nat × Instr × Nat)).all (fun q => decide (decode cX12_readClause q.1 = .ok (q.2.1, q.2.2))) = true := by decide +kernel
theorem dX12_readClause_0 : decode cX12_readClause 0 = .ok (.aload_n 0, 1) := all_at dvX12_readClause_0 0 rfl
theorem dX12_readClause_1 : decode cX12_readClause 1 = .ok (.getfield 65, 3) := all_at dvX12_readClause_0 1 rfl
theorem dX12_readClause_4 : decode cX12_readClause 4 = .ok (.iload_n 2, 1) := all_at dvX12_readClause_0 2 rfl
theorem dX12_readClause_5 : decode cX12_readClause 5 = .ok (.iload_n 1, 1) := all_at dvX12_readClause_0 3 rfl
theorem dX12_readClause_6 : decode cX12_readClause 6 = .ok (.iastore, 1) := all_at dvX12_readClause_0 4 rfl
theorem dX12_readClause_7 : decode cX12_readClause 7 = .ok (.aload_n 0, 1) := all_at dvX12_readClause_0 5 rfl
theorem dX12_readClause_8 : decode cX12_readClause 8 = .ok (.getfield 77, 3) := all_at dvX12_readClause_0 6 rfl
theorem dX12_readClause_11 : decode cX12_readClause 11 = .ok (.iload_n 2, 1) := all_at dvX12_readClause_0 7 rfl
theorem dX12_readClause_12 : decode cX12_readClause 12 = .ok (.iconst 0, 1) := all_at dvX12_readClause_0 8 rfl
theorem dX12_readClause_13 : decode cX12_readClause 13 = .ok (.iastore, 1) := all_at dvX12_readClause_0 9 rfl
theorem dX12_readClause_14 : decode cX12_readClause 14 = .ok (.iload_n 1, 1) := all_at dvX12_readClause_0 10 rfl
theorem dX12_readClause_15 : decode cX12_readClause 15 = .ok (.ifCond .ne 74, 3) := all_at dvX12_readClause_0 11 rfl
theorem dX12_readClause_18 : decode cX12_readClause 18 = .ok (.aload_n 0, 1) := all_at dvX12_readClause_0 12 rfl
theorem dX12_readClause_19 : decode cX12_readClause 19 = .ok (.invokevirtual 286, 3) := all_at dvX12_readClause_0 13 rfl
theorem dX12_readClause_22 : decode cX12_readClause 22 = .ok (.aload_n 0, 1) := all_at dvX12_readClause_0 14 rfl
theorem dX12_readClause_23 : decode cX12_readClause 23 = .ok (.getfield 68, 3) := all_at dvX12_readClause_0 15 rfl
theorem dX12_readClause_26 : decode cX12_readClause 26 = .ok (.iload_n 2, 1) := all_at dvX12_readClause_0 16 rfl
theorem dX12_readClause_27 : decode cX12_readClause 27 = .ok (.aload_n 0, 1) := all_at dvX12_readClause_0 17 rfl
theorem dX12_readClause_28 : decode cX12_readClause 28 = .ok (.invokevirtual 293, 3) := all_at dvX12_readClause_0 18 rfl
theorem dX12_readClause_31 : decode cX12_readClause 31 = .ok (.iastore, 1) := all_at dvX12_readClause_0 19 rfl
theorem dX12_readClause_32 : decode cX12_readClause 32 = .ok (.aload_n 0, 1) := all_at dvX12_readClause_0 20 rfl
theorem dX12_readClause_33 : decode cX12_readClause 33 = .ok (.aload_n 0, 1) := all_at dvX12_readClause_0 21 rfl
theorem dX12_readClause_34 : decode cX12_readClause 34 = .ok (.getfield 68, 3) := all_at dvX12_readClause_0 22 rfl
theorem dX12_readClause_37 : decode cX12_readClause 37 = .ok (.iload_n 2, 1) := all_at dvX12_readClause_0 23 rfl
set_option maxRecDepth 100000 in
theorem dvX12_readClause_38 : ([(38, .iaload, 1), (39, .ifCond .lt 7, 3), (42, .iconst 1, 1), (43, .goto 4, 3), (46, .iconst 0, 1), (47, .iconst 1, 1), (48, .aload_n 0, 1), (49, .getfield 264, 3), (52, .invokevirtual 278, 3), (55, .ifCond .eq 202, 3), (58, .aload_n 0, 1), (59, .getfield 71, 3), (62, .iload_n 2, 1), (63, .aload_n 0, 1), (64, .aload_n 0, 1), (65, .getfield 68, 3), (68, .iload_n 2, 1), (69, .iaload, 1), (70, .invokestatic 296, 3), (73, .aload_n 0, 1), (74, .getfield 68, 3), (77, .iload_n 2, 1), (78, .iaload, 1), (79, .invokestatic 300, 3)] : List (Nat × Instr × Nat)).all (fun q => decide (decode cX12_readClause q.1 = .ok (q.2.1, q.2.2))) = true := by decide +kernel
theorem dX12_readClause_38 : decode cX12_readClause 38 = .ok (.iaload, 1) := all_at dvX12_readClause_38 0 rfl
theorem dX12_readClause_39 : decode cX12_readClause 39 = .ok (.ifCond .lt 7, 3) := all_at dvX12_readClause_38 1 rfl
theorem dX12_readClause_42 : decode cX12_readClause 42 = .ok (.iconst 1, 1) := all_at dvX12_readClause_38 2 rfl
theorem dX12_readClause_43 : decode cX12_readClause 43 = .ok (.goto 4, 3) := all_at dvX12_readClause_38 3 rfl
theorem dX12_readClause_46 : decode cX12_readClause 46 = .ok (.iconst 0, 1) := all_at dvX12_readClause_38 4 rfl
theorem dX12_readClause_47 : decode cX12_readClause 47 = .ok (.iconst 1, 1) := all_at dvX12_readClause_38 5 rfl
theorem dX12_readClause_48 : decode cX12_readClause 48 = .ok (.aload_n 0, 1) := all_at dvX12_readClause_38 6 rfl
theorem dX12_readClause_49 : decode cX12_readClause 49 = .ok (.getfield 264, 3) := all_at dvX12_readClause_38 7 rfl
theorem dX12_readClause_52 : decode cX12_readClause 52 = .ok (.invokevirtual 278, 3) := all_at dvX12_readClause_38 8 rfl
theorem dX12_readClause_55 : decode cX12_readClause 55 = .ok (.ifCond .eq 202, 3) := all_at dvX12_readClause_38 9 rfl
theorem dX12_readClause_58 : decode cX12_readClause 58 = .ok (.aload_n 0, 1) := all_at dvX12_readClause_38 10 rfl
theorem dX12_readClause_59 : decode cX12_readClause 59 = .ok (.getfield 71, 3) := all_at dvX12_readClause_38 11 rfl
theorem dX12_readClause_62 : decode cX12_readClause 62 = .ok (.iload_n 2, 1) := all_at dvX12_readClause_38 12 rfl
theorem dX12_readClause_63 : decode cX12_readClause 63 = .ok (.aload_n 0, 1) := all_at dvX12_readClause_38 13 rfl
theorem dX12_readClause_64 : decode cX12_readClause 64 = .ok (.aload_n 0, 1) := all_at dvX12_readClause_38 14 rfl
theorem dX12_readClause_65 : decode cX12_readClause 65 = .ok (.getfield 68, 3) := all_at dvX12_readClause_38 15 rfl
theorem dX12_readClause_68 : decode cX12_readClause 68 = .ok (.iload_n 2, 1) := all_at dvX12_readClause_38 16 rfl
theorem dX12_readClause_69 : decode cX12_readClause 69 = .ok (.iaload, 1) := all_at dvX12_readClause_38 17 rfl
theorem dX12_readClause_70 : decode cX12_readClause 70 = .ok (.invokestatic 296, 3) := all_at dvX12_readClause_38 18 rfl
theorem dX12_readClause_73 : decode cX12_readClause 73 = .ok (.aload_n 0, 1) := all_at dvX12_readClause_38 19 rfl
theorem dX12_readClause_74 : decode cX12_readClause 74 = .ok (.getfield 68, 3) := all_at dvX12_readClause_38 20 rfl
theorem dX12_readClause_77 : decode cX12_readClause 77 = .ok (.iload_n 2, 1) := all_at dvX12_readClause_38 21 rfl
theorem dX12_readClause_78 : decode cX12_readClause 78 = .ok (.iaload, 1) := all_at dvX12_readClause_38 22 rfl
theorem dX12_readClause_79 : decode cX12_readClause 79 = .ok (.invokestatic 300, 3) := all_at dvX12_readClause_38 23 rfl
set_option maxRecDepth 100000 in
theorem dvX12_readClause_82 : ([(82, .invokevirtual 289, 3), (85, .iastore, 1), (86, .goto 171, 3), (89, .iload_n 1, 1), (90, .iconst 1, 1), (91, .if_icmp .ne 111, 3), (94, .aload_n 0, 1), (95, .invokevirtual 286, 3), (98, .aload_n 0, 1), (99, .getfield 71, 3), (102, .iload_n 2, 1), (103, .aload_n 0, 1), (104, .iconst 4, 1), (105, .bipush 109, 2), (107, .bipush 101, 2), (109, .bipush 97, 2), (111, .bipush 110, 2), (113, .iconst 0, 1), (114, .iconst 0, 1), (115, .invokevirtual 282, 3), (118, .ifCond .eq 7, 3), (121, .iconst 0, 1), (122, .goto 52, 3), (125, .aload_n 0, 1)] : List (Nat × Instr × Nat)).all (fun q => decide (decode cX12_readClause q.1 = .ok (q.2.1, q.2.2))) = true := by decide +kernel
theorem dX12_readClause_82 : decode cX12_readClause 82 = .ok (.invokevirtual 289, 3) := all_at dvX12_readClause_82 0 rfl
theorem dX12_readClause_85 : decode cX12_readClause 85 = .ok (.iastore, 1) := all_at dvX12_readClause_82 1 rfl
theorem dX12_readClause_86 : decode cX12_readClause 86 = .ok (.goto 171, 3) := all_at dvX12_readClause_82 2 rfl
theorem dX12_readClause_89 : decode cX12_readClause 89 = .ok (.iload_n 1, 1) := all_at dvX12_readClause_82 3 rfl
theorem dX12_readClause_90 : decode cX12_readClause 90 = .ok (.iconst 1, 1) := all_at dvX12_readClause_82 4 rfl
theorem dX12_readClause_91 : decode cX12_readClause 91 = .ok (.if_icmp .ne 111, 3) := all_at dvX12_readClause_82 5 rfl
theorem dX12_readClause_94 : decode cX12_readClause 94 = .ok (.aload_n 0, 1) := all_at dvX12_readClause_82 6 rfl
theorem dX12_readClause_95 : decode cX12_readClause 95 = .ok (.invokevirtual 286, 3) := all_at dvX12_readClause_82 7 rfl
theorem dX12_readClause_98 : decode cX12_readClause 98 = .ok (.aload_n 0, 1) := all_at dvX12_readClause_82 8 rfl
theorem dX12_readClause_99 : decode cX12_readClause 99 = .ok (.getfield 71, 3) := all_at dvX12_readClause_82 9 rfl
theorem dX12_readClause_102 : decode cX12_readClause 102 = .ok (.iload_n 2, 1) := all_at dvX12_readClause_82 10 rfl
theorem dX12_readClause_103 : decode cX12_readClause 103 = .ok (.aload_n 0, 1) := all_at dvX12_readClause_82 11 rfl
theorem dX12_readClause_104 : decode cX12_readClause 104 = .ok (.iconst 4, 1) := all_at dvX12_readClause_82 12 rfl
theorem dX12_readClause_105 : decode cX12_readClause 105 = .ok (.bipush 109, 2) := all_at dvX12_readClause_82 13 rfl
theorem dX12_readClause_107 : decode cX12_readClause 107 = .ok (.bipush 101, 2) := all_at dvX12_readClause_82 14 rfl
theorem dX12_readClause_109 : decode cX12_readClause 109 = .ok (.bipush 97, 2) := all_at dvX12_readClause_82 15 rfl
theorem dX12_readClause_111 : decode cX12_readClause 111 = .ok (.bipush 110, 2) := all_at dvX12_readClause_82 16 rfl
theorem dX12_readClause_113 : decode cX12_readClause 113 = .ok (.iconst 0, 1) := all_at dvX12_readClause_82 17 rfl
theorem dX12_readClause_114 : decode cX12_readClause 114 = .ok (.iconst 0, 1) := all_at dvX12_readClause_82 18 rfl
theorem dX12_readClause_115 : decode cX12_readClause 115 = .ok (.invokevirtual 282, 3) := all_at dvX12_readClause_82 19 rfl
theorem dX12_readClause_118 : decode cX12_readClause 118 = .ok (.ifCond .eq 7, 3) := all_at dvX12_readClause_82 20 rfl
theorem dX12_readClause_121 : decode cX12_readClause 121 = .ok (.iconst 0, 1) := all_at dvX12_readClause_82 21 rfl
theorem dX12_readClause_122 : decode cX12_readClause 122 = .ok (.goto 52, 3) := all_at dvX12_readClause_82 22 rfl
theorem dX12_readClause_125 : decode cX12_readClause 125 = .ok (.aload_n 0, 1) := all_at dvX12_readClause_82 23 rfl
set_option maxRecDepth 100000 in
theorem dvX12_readClause_126 : ([(126, .iconst 5, 1), (127, .bipush 108, 2), (129, .bipush 101, 2), (131, .bipush 97, 2), (133, .bipush 115, 2), (135, .bipush 116, 2), (137, .iconst 0, 1), (138, .invokevirtual 282, 3), (141, .ifCond .eq 7, 3), (144, .iconst 1, 1), (145, .goto 29, 3), (148, .aload_n 0, 1), (149, .bipush 6, 2), (151, .bipush 109, 2), (153, .bipush 105, 2), (155, .bipush 100, 2), (157, .bipush 100, 2), (159, .bipush 108, 2), (161, .bipush 101, 2), (163, .invokevirtual 282, 3), (166, .ifCond .eq 7, 3), (169, .iconst 2, 1), (170, .goto 4, 3), (173, .iconst (-1), 1)] : List (Nat × Instr × Nat)).all (fun q => decide (decode cX12_readClause q.1 = .ok (q.2.1, q.2.2))) = true := by decide +kernel
theorem dX12_readClause_126 : decode cX12_readClause 126 = .ok (.iconst 5, 1) := all_at dvX12_readClause_126 0 rfl
theorem dX12_readClause_127 : decode cX12_readClause 127 = .ok (.bipush 108, 2) := all_at dvX12_readClause_126 1 rfl
theorem dX12_readClause_129 : decode cX12_readClause 129 = .ok (.bipush 101, 2) := all_at dvX12_readClause_126 2 rfl
theorem dX12_readClause_131 : decode cX12_readClause 131 = .ok (.bipush 97, 2) := all_at dvX12_readClause_126 3 rfl
theorem dX12_readClause_133 : decode cX12_readClause 133 = .ok (.bipush 115, 2) := all_at dvX12_readClause_126 4 rfl
theorem dX12_readClause_135 : decode cX12_readClause 135 = .ok (.bipush 116, 2) := all_at dvX12_readClause_126 5 rfl
theorem dX12_readClause_137 : decode cX12_readClause 137 = .ok (.iconst 0, 1) := all_at dvX12_readClause_126 6 rfl
theorem dX12_readClause_138 : decode cX12_readClause 138 = .ok (.invokevirtual 282, 3) := all_at dvX12_readClause_126 7 rfl
theorem dX12_readClause_141 : decode cX12_readClause 141 = .ok (.ifCond .eq 7, 3) := all_at dvX12_readClause_126 8 rfl
theorem dX12_readClause_144 : decode cX12_readClause 144 = .ok (.iconst 1, 1) := all_at dvX12_readClause_126 9 rfl
theorem dX12_readClause_145 : decode cX12_readClause 145 = .ok (.goto 29, 3) := all_at dvX12_readClause_126 10 rfl
theorem dX12_readClause_148 : decode cX12_readClause 148 = .ok (.aload_n 0, 1) := all_at dvX12_readClause_126 11 rfl
theorem dX12_readClause_149 : decode cX12_readClause 149 = .ok (.bipush 6, 2) := all_at dvX12_readClause_126 12 rfl
theorem dX12_readClause_151 : decode cX12_readClause 151 = .ok (.bipush 109, 2) := all_at dvX12_readClause_126 13 rfl
theorem dX12_readClause_153 : decode cX12_readClause 153 = .ok (.bipush 105, 2) := all_at dvX12_readClause_126 14 rfl
theorem dX12_readClause_155 : decode cX12_readClause 155 = .ok (.bipush 100, 2) := all_at dvX12_readClause_126 15 rfl
theorem dX12_readClause_157 : decode cX12_readClause 157 = .ok (.bipush 100, 2) := all_at dvX12_readClause_126 16 rfl
theorem dX12_readClause_159 : decode cX12_readClause 159 = .ok (.bipush 108, 2) := all_at dvX12_readClause_126 17 rfl
theorem dX12_readClause_161 : decode cX12_readClause 161 = .ok (.bipush 101, 2) := all_at dvX12_readClause_126 18 rfl
theorem dX12_readClause_163 : decode cX12_readClause 163 = .ok (.invokevirtual 282, 3) := all_at dvX12_readClause_126 19 rfl
theorem dX12_readClause_166 : decode cX12_readClause 166 = .ok (.ifCond .eq 7, 3) := all_at dvX12_readClause_126 20 rfl
theorem dX12_readClause_169 : decode cX12_readClause 169 = .ok (.iconst 2, 1) := all_at dvX12_readClause_126 21 rfl
theorem dX12_readClause_170 : decode cX12_readClause 170 = .ok (.goto 4, 3) := all_at dvX12_readClause_126 22 rfl
theorem dX12_readClause_173 : decode cX12_readClause 173 = .ok (.iconst (-1), 1) := all_at dvX12_readClause_126 23 rfl
set_option maxRecDepth 100000 in
theorem dvX12_readClause_174 : ([(174, .iastore, 1), (175, .aload_n 0, 1), (176, .aload_n 0, 1), (177, .getfield 71, 3), (180, .iload_n 2, 1), (181, .iaload, 1), (182, .ifCond .lt 7, 3), (185, .iconst 1, 1), (186, .goto 4, 3), (189, .iconst 0, 1), (190, .iconst 1, 1), (191, .aload_n 0, 1), (192, .getfield 264, 3), (195, .invokevirtual 278, 3), (198, .istore_n 3, 1), (199, .goto 58, 3), (202, .iload_n 1, 1), (203, .iconst 3, 1), (204, .if_icmp .ne 48, 3), (207, .aload_n 0, 1), (208, .getfield 71, 3), (211, .iload_n 2, 1), (212, .aload_n 0, 1), (213, .iconst 0, 1)] : List (Nat × Instr × Nat)).all (fun q => decide (decode cX12_readClause q.1 = .ok (q.2.1, q.2.2))) = true := by decide +kernel
theorem dX12_readClause_174 : decode cX12_readClause 174 = .ok (.iastore, 1) := all_at dvX12_readClause_174 0 rfl
theorem dX12_readClause_175 : decode cX12_readClause 175 = .ok (.aload_n 0, 1) := all_at dvX12_readClause_174 1 rfl
theorem dX12_readClause_176 : decode cX12_readClause 176 = .ok (.aload_n 0, 1) := all_at dvX12_readClause_174 2 rfl
theorem dX12_readClause_177 : decode cX12_readClause 177 = .ok (.getfield 71, 3) := all_at dvX12_readClause_174 3 rfl
theorem dX12_readClause_180 : decode cX12_readClause 180 = .ok (.iload_n 2, 1) := all_at dvX12_readClause_174 4 rfl
theorem dX12_readClause_181 : decode cX12_readClause 181 = .ok (.iaload, 1) := all_at dvX12_readClause_174 5 rfl
theorem dX12_readClause_182 : decode cX12_readClause 182 = .ok (.ifCond .lt 7, 3) := all_at dvX12_readClause_174 6 rfl
theorem dX12_readClause_185 : decode cX12_readClause 185 = .ok (.iconst 1, 1) := all_at dvX12_readClause_174 7 rfl
theorem dX12_readClause_186 : decode cX12_readClause 186 = .ok (.goto 4, 3) := all_at dvX12_readClause_174 8 rfl
theorem dX12_readClause_189 : decode cX12_readClause 189 = .ok (.iconst 0, 1) := all_at dvX12_readClause_174 9 rfl
theorem dX12_readClause_190 : decode cX12_readClause 190 = .ok (.iconst 1, 1) := all_at dvX12_readClause_174 10 rfl
theorem dX12_readClause_191 : decode cX12_readClause 191 = .ok (.aload_n 0, 1) := all_at dvX12_readClause_174 11 rfl
theorem dX12_readClause_192 : decode cX12_readClause 192 = .ok (.getfield 264, 3) := all_at dvX12_readClause_174 12 rfl
theorem dX12_readClause_195 : decode cX12_readClause 195 = .ok (.invokevirtual 278, 3) := all_at dvX12_readClause_174 13 rfl
theorem dX12_readClause_198 : decode cX12_readClause 198 = .ok (.istore_n 3, 1) := all_at dvX12_readClause_174 14 rfl
theorem dX12_readClause_199 : decode cX12_readClause 199 = .ok (.goto 58, 3) := all_at dvX12_readClause_174 15 rfl
theorem dX12_readClause_202 : decode cX12_readClause 202 = .ok (.iload_n 1, 1) := all_at dvX12_readClause_174 16 rfl
theorem dX12_readClause_203 : decode cX12_readClause 203 = .ok (.iconst 3, 1) := all_at dvX12_readClause_174 17 rfl
theorem dX12_readClause_204 : decode cX12_readClause 204 = .ok (.if_icmp .ne 48, 3) := all_at dvX12_readClause_174 18 rfl
theorem dX12_readClause_207 : decode cX12_readClause 207 = .ok (.aload_n 0, 1) := all_at dvX12_readClause_174 19 rfl
theorem dX12_readClause_208 : decode cX12_readClause 208 = .ok (.getfield 71, 3) := all_at dvX12_readClause_174 20 rfl
theorem dX12_readClause_211 : decode cX12_readClause 211 = .ok (.iload_n 2, 1) := all_at dvX12_readClause_174 21 rfl
theorem dX12_readClause_212 : decode cX12_readClause 212 = .ok (.aload_n 0, 1) := all_at dvX12_readClause_174 22 rfl
theorem dX12_readClause_213 : decode cX12_readClause 213 = .ok (.iconst 0, 1) := all_at dvX12_readClause_174 23 rfl
set_option maxRecDepth 100000 in
theorem dvX12_readClause_214 : ([(214, .sipush 9999, 3), (217, .invokevirtual 289, 3), (220, .iastore, 1), (221, .aload_n 0, 1), (222, .aload_n 0, 1), (223, .getfield 71, 3), (226, .iload_n 2, 1), (227, .iaload, 1), (228, .aload_n 0, 1), (229, .getfield 303, 3), (232, .if_icmp .ge 7, 3), (235, .iconst 1, 1), (236, .goto 4, 3), (239, .iconst 0, 1), (240, .iconst 3, 1), (241, .aload_n 0, 1), (242, .getfield 264, 3), (245, .invokevirtual 278, 3), (248, .istore_n 3, 1), (249, .goto 8, 3), (252, .aload_n 0, 1), (253, .iload_n 2, 1), (254, .invokevirtual 306, 3), (257, .aload_n 0, 1)] : List (Nat × Instr × Nat)).all (fun q => decide (decode cX12_readClause q.1 = .ok (q.2.1, q.2.2))) = true := by decide +kernel
theorem dX12_readClause_214 : decode cX12_readClause 214 = .ok (.sipush 9999, 3) := all_at dvX12_readClause_214 0 rfl
theorem dX12_readClause_217 : decode cX12_readClause 217 = .ok (.invokevirtual 289, 3) := all_at dvX12_readClause_214 1 rfl
theorem dX12_readClause_220 : decode cX12_readClause 220 = .ok (.iastore, 1) := all_at dvX12_readClause_214 2 rfl
theorem dX12_readClause_221 : decode cX12_readClause 221 = .ok (.aload_n 0, 1) := all_at dvX12_readClause_214 3 rfl
theorem dX12_readClause_222 : decode cX12_readClause 222 = .ok (.aload_n 0, 1) := all_at dvX12_readClause_214 4 rfl
theorem dX12_readClause_223 : decode cX12_readClause 223 = .ok (.getfield 71, 3) := all_at dvX12_readClause_214 5 rfl
theorem dX12_readClause_226 : decode cX12_readClause 226 = .ok (.iload_n 2, 1) := all_at dvX12_readClause_214 6 rfl
theorem dX12_readClause_227 : decode cX12_readClause 227 = .ok (.iaload, 1) := all_at dvX12_readClause_214 7 rfl
theorem dX12_readClause_228 : decode cX12_readClause 228 = .ok (.aload_n 0, 1) := all_at dvX12_readClause_214 8 rfl
theorem dX12_readClause_229 : decode cX12_readClause 229 = .ok (.getfield 303, 3) := all_at dvX12_readClause_214 9 rfl
theorem dX12_readClause_232 : decode cX12_readClause 232 = .ok (.if_icmp .ge 7, 3) := all_at dvX12_readClause_214 10 rfl
theorem dX12_readClause_235 : decode cX12_readClause 235 = .ok (.iconst 1, 1) := all_at dvX12_readClause_214 11 rfl
theorem dX12_readClause_236 : decode cX12_readClause 236 = .ok (.goto 4, 3) := all_at dvX12_readClause_214 12 rfl
theorem dX12_readClause_239 : decode cX12_readClause 239 = .ok (.iconst 0, 1) := all_at dvX12_readClause_214 13 rfl
theorem dX12_readClause_240 : decode cX12_readClause 240 = .ok (.iconst 3, 1) := all_at dvX12_readClause_214 14 rfl
theorem dX12_readClause_241 : decode cX12_readClause 241 = .ok (.aload_n 0, 1) := all_at dvX12_readClause_214 15 rfl
theorem dX12_readClause_242 : decode cX12_readClause 242 = .ok (.getfield 264, 3) := all_at dvX12_readClause_214 16 rfl
theorem dX12_readClause_245 : decode cX12_readClause 245 = .ok (.invokevirtual 278, 3) := all_at dvX12_readClause_214 17 rfl
theorem dX12_readClause_248 : decode cX12_readClause 248 = .ok (.istore_n 3, 1) := all_at dvX12_readClause_214 18 rfl
theorem dX12_readClause_249 : decode cX12_readClause 249 = .ok (.goto 8, 3) := all_at dvX12_readClause_214 19 rfl
theorem dX12_readClause_252 : decode cX12_readClause 252 = .ok (.aload_n 0, 1) := all_at dvX12_readClause_214 20 rfl
theorem dX12_readClause_253 : decode cX12_readClause 253 = .ok (.iload_n 2, 1) := all_at dvX12_readClause_214 21 rfl
theorem dX12_readClause_254 : decode cX12_readClause 254 = .ok (.invokevirtual 306, 3) := all_at dvX12_readClause_214 22 rfl
theorem dX12_readClause_257 : decode cX12_readClause 257 = .ok (.aload_n 0, 1) := all_at dvX12_readClause_214 23 rfl
set_option maxRecDepth 100000 in
theorem dvX12_readClause_258 : ([(258, .invokevirtual 260, 3), (261, .istore_n 3, 1), (262, .aload_n 0, 1), (263, .iload_n 3, 1), (264, .bipush 59, 2), (266, .if_icmp .ne 7, 3), (269, .iconst 1, 1), (270, .goto 4, 3), (273, .iconst 0, 1), (274, .iconst 1, 1), (275, .aload_n 0, 1), (276, .getfield 254, 3), (279, .invokevirtual 278, 3), (282, .ifCond .eq 13, 3), (285, .aload_n 0, 1), (286, .dup, 1), (287, .getfield 254, 3), (290, .iconst 1, 1), (291, .iadd, 1), (292, .putfield 254, 3), (295, .return_, 1)] : List (Nat × Instr × Nat)).all (fun q => decide (decode cX12_readClause q.1 = .ok (q.2.1, q.2.2))) = true := by decide +kernel
theorem dX12_readClause_258 : decode cX12_readClause 258 = .ok (.invokevirtual 260, 3) := all_at dvX12_readClause_258 0 rfl
theorem dX12_readClause_261 : decode cX12_readClause 261 = .ok (.istore_n 3, 1) := all_at dvX12_readClause_258 1 rfl
theorem dX12_readClause_262 : decode cX12_readClause 262 = .ok (.aload_n 0, 1) := all_at dvX12_readClause_258 2 rfl
theorem dX12_readClause_263 : decode cX12_readClause 263 = .ok (.iload_n 3, 1) := all_at dvX12_readClause_258 3 rfl
theorem dX12_readClause_264 : decode cX12_readClause 264 = .ok (.bipush 59, 2) := all_at dvX12_readClause_258 4 rfl
theorem dX12_readClause_266 : decode cX12_readClause 266 = .ok (.if_icmp .ne 7, 3) := all_at dvX12_readClause_258 5 rfl
theorem dX12_readClause_269 : decode cX12_readClause 269 = .ok (.iconst 1, 1) := all_at dvX12_readClause_258 6 rfl
theorem dX12_readClause_270 : decode cX12_readClause 270 = .ok (.goto 4, 3) := all_at dvX12_readClause_258 7 rfl
theorem dX12_readClause_273 : decode cX12_readClause 273 = .ok (.iconst 0, 1) := all_at dvX12_readClause_258 8 rfl
theorem dX12_readClause_274 : decode cX12_readClause 274 = .ok (.iconst 1, 1) := all_at dvX12_readClause_258 9 rfl
theorem dX12_readClause_275 : decode cX12_readClause 275 = .ok (.aload_n 0, 1) := all_at dvX12_readClause_258 10 rfl
theorem dX12_readClause_276 : decode cX12_readClause 276 = .ok (.getfield 254, 3) := all_at dvX12_readClause_258 11 rfl
theorem dX12_readClause_279 : decode cX12_readClause 279 = .ok (.invokevirtual 278, 3) := all_at dvX12_readClause_258 12 rfl
theorem dX12_readClause_282 : decode cX12_readClause 282 = .ok (.ifCond .eq 13, 3) := all_at dvX12_readClause_258 13 rfl
theorem dX12_readClause_285 : decode cX12_readClause 285 = .ok (.aload_n 0, 1) := all_at dvX12_readClause_258 14 rfl
theorem dX12_readClause_286 : decode cX12_readClause 286 = .ok (.dup, 1) := all_at dvX12_readClause_258 15 rfl
theorem dX12_readClause_287 : decode cX12_readClause 287 = .ok (.getfield 254, 3) := all_at dvX12_readClause_258 16 rfl
theorem dX12_readClause_290 : decode cX12_readClause 290 = .ok (.iconst 1, 1) := all_at dvX12_readClause_258 17 rfl
theorem dX12_readClause_291 : decode cX12_readClause 291 = .ok (.iadd, 1) := all_at dvX12_readClause_258 18 rfl
theorem dX12_readClause_292 : decode cX12_readClause 292 = .ok (.putfield 254, 3) := all_at dvX12_readClause_258 19 rfl
theorem dX12_readClause_295 : decode cX12_readClause 295 = .ok (.return_, 1) := all_at dvX12_readClause_258 20 rfl
set_option maxRecDepth 100000 in
theorem dvX12_readName_0 : ([(0, .aload_n 0, 1), (1, .invokevirtual 286, 3), (4, .aload_n 0, 1), (5, .aload_n 0, 1), (6, .getfield 271, 3), (9, .ifCond .le 7, 3), (12, .iconst 1, 1), (13, .goto 4, 3), (16, .iconst 0, 1), (17, .iconst 1, 1), (18, .aload_n 0, 1), (19, .getfield 264, 3), (22, .invokevirtual 278, 3), (25, .ifCond .eq 29, 3), (28, .aload_n 0, 1), (29, .aload_n 0, 1), (30, .getfield 271, 3), (33, .bipush 9, 2), (35, .if_icmp .ge 7, 3), (38, .iconst 1, 1), (39, .goto 4, 3), (42, .iconst 0, 1), (43, .iconst 4, 1), (44, .aload_n 0, 1)] : List (Nat × Instr × Nat)).all (fun q => decide (decode cX12_readName q.1 = .ok (q.2.1, q.2.2))) = true := by decide +kernel
theorem dX12_readName_0 : decode cX12_readName 0 = .ok (.aload_n 0, 1) := all_at dvX12_readName_0 0 rfl
theorem dX12_readName_1 : decode cX12_readName 1 = .ok (.invokevirtual 286, 3) := all_at dvX12_readName_0 1 rfl
theorem dX12_readName_4 : decode cX12_readName 4 = .ok (.aload_n 0, 1) := all_at dvX12_readName_0 2 rfl
theorem dX12_readName_5 : decode cX12_readName 5 = .ok (.aload_n 0, 1) := all_at dvX12_readName_0 3 rfl
theorem dX12_readName_6 : decode cX12_readName 6 = .ok (.getfield 271, 3) := all_at dvX12_readName_0 4 rfl
theorem dX12_readName_9 : decode cX12_readName 9 = .ok (.ifCond .le 7, 3) := all_at dvX12_readName_0 5 rfl
theorem dX12_readName_12 : decode cX12_readName 12 = .ok (.iconst 1, 1) := all_at dvX12_readName_0 6 rfl
theorem dX12_readName_13 : decode cX12_readName 13 = .ok (.goto 4, 3) := all_at dvX12_readName_0 7 rfl
theorem dX12_readName_16 : decode cX12_readName 16 = .ok (.iconst 0, 1) := all_at dvX12_readName_0 8 rfl
theorem dX12_readName_17 : decode cX12_readName 17 = .ok (.iconst 1, 1) := all_at dvX12_readName_0 9 rfl
theorem dX12_readName_18 : decode cX12_readName 18 = .ok (.aload_n 0, 1) := all_at dvX12_readName_0 10 rfl
theorem dX12_readName_19 : decode cX12_readName 19 = .ok (.getfield 264, 3) := all_at dvX12_readName_0 11 rfl
theorem dX12_readName_22 : decode cX12_readName 22 = .ok (.invokevirtual 278, 3) := all_at dvX12_readName_0 12 rfl
theorem dX12_readName_25 : decode cX12_readName 25 = .ok (.ifCond .eq 29, 3) := all_at dvX12_readName_0 13 rfl
theorem dX12_readName_28 : decode cX12_readName 28 = .ok (.aload_n 0, 1) := all_at dvX12_readName_0 14 rfl
theorem dX12_readName_29 : decode cX12_readName 29 = .ok (.aload_n 0, 1) := all_at dvX12_readName_0 15 rfl
theorem dX12_readName_30 : decode cX12_readName 30 = .ok (.getfield 271, 3) := all_at dvX12_readName_0 16 rfl
theorem dX12_readName_33 : decode cX12_readName 33 = .ok (.bipush 9, 2) := all_at dvX12_readName_0 17 rfl
theorem dX12_readName_35 : decode cX12_readName 35 = .ok (.if_icmp .ge 7, 3) := all_at dvX12_readName_0 18 rfl
theorem dX12_readName_38 : decode cX12_readName 38 = .ok (.iconst 1, 1) := all_at dvX12_readName_0 19 rfl
theorem dX12_readName_39 : decode cX12_readName 39 = .ok (.goto 4, 3) := all_at dvX12_readName_0 20 rfl
theorem dX12_readName_42 : decode cX12_readName 42 = .ok (.iconst 0, 1) := all_at dvX12_readName_0 21 rfl
theorem dX12_readName_43 : decode cX12_readName 43 = .ok (.iconst 4, 1) := all_at dvX12_readName_0 22 rfl
theorem dX12_readName_44 : decode cX12_readName 44 = .ok (.aload_n 0, 1) := all_at dvX12_readName_0 23 rfl
set_option maxRecDepth 100000 in
theorem dvX12_readName_45 : ([(45, .getfield 264, 3), (48, .invokevirtual 278, 3), (51, .ifCond .ne 4, 3), (54, .return_, 1), (55, .aload_n 0, 1), (56, .getfield 77, 3), (59, .iload_n 1, 1), (60, .aload_n 0, 1), (61, .getfield 271, 3), (64, .iastore, 1), (65, .iconst 0, 1), (66, .istore_n 2, 1), (67, .iload_n 2, 1), (68, .aload_n 0, 1), (69, .getfield 271, 3), (72, .if_icmp .ge 31, 3), (75, .aload_n 0, 1), (76, .getfield 80, 3), (79, .bipush 8, 2), (81, .iload_n 1, 1), (82, .imul, 1), (83, .iload_n 2, 1), (84, .iadd, 1), (85, .aload_n 0, 1)] : List (Nat × Instr × Nat)).all (fun q => decide (decode cX12_readName q.1 = .ok (q.2.1, q.2.2))) = true := by decide +kernel
theorem dX12_readName_45 : decode cX12_readName 45 = .ok (.getfield 264, 3) := all_at dvX12_readName_45 0 rfl
theorem dX12_readName_48 : decode cX12_readName 48 = .ok (.invokevirtual 278, 3) := all_at dvX12_readName_45 1 rfl
theorem dX12_readName_51 : decode cX12_readName 51 = .ok (.ifCond .ne 4, 3) := all_at dvX12_readName_45 2 rfl
theorem dX12_readName_54 : decode cX12_readName 54 = .ok (.return_, 1) := all_at dvX12_readName_45 3 rfl
theorem dX12_readName_55 : decode cX12_readName 55 = .ok (.aload_n 0, 1) := all_at dvX12_readName_45 4 rfl
theorem dX12_readName_56 : decode cX12_readName 56 = .ok (.getfield 77, 3) := all_at dvX12_readName_45 5 rfl
theorem dX12_readName_59 : decode cX12_readName 59 = .ok (.iload_n 1, 1) := all_at dvX12_readName_45 6 rfl
theorem dX12_readName_60 : decode cX12_readName 60 = .ok (.aload_n 0, 1) := all_at dvX12_readName_45 7 rfl
theorem dX12_readName_61 : decode cX12_readName 61 = .ok (.getfield 271, 3) := all_at dvX12_readName_45 8 rfl
theorem dX12_readName_64 : decode cX12_readName 64 = .ok (.iastore, 1) := all_at dvX12_readName_45 9 rfl
theorem dX12_readName_65 : decode cX12_readName 65 = .ok (.iconst 0, 1) := all_at dvX12_readName_45 10 rfl
theorem dX12_readName_66 : decode cX12_readName 66 = .ok (.istore_n 2, 1) := all_at dvX12_readName_45 11 rfl
theorem dX12_readName_67 : decode cX12_readName 67 = .ok (.iload_n 2, 1) := all_at dvX12_readName_45 12 rfl
theorem dX12_readName_68 : decode cX12_readName 68 = .ok (.aload_n 0, 1) := all_at dvX12_readName_45 13 rfl
theorem dX12_readName_69 : decode cX12_readName 69 = .ok (.getfield 271, 3) := all_at dvX12_readName_45 14 rfl
theorem dX12_readName_72 : decode cX12_readName 72 = .ok (.if_icmp .ge 31, 3) := all_at dvX12_readName_45 15 rfl
theorem dX12_readName_75 : decode cX12_readName 75 = .ok (.aload_n 0, 1) := all_at dvX12_readName_45 16 rfl
theorem dX12_readName_76 : decode cX12_readName 76 = .ok (.getfield 80, 3) := all_at dvX12_readName_45 17 rfl
theorem dX12_readName_79 : decode cX12_readName 79 = .ok (.bipush 8, 2) := all_at dvX12_readName_45 18 rfl
theorem dX12_readName_81 : decode cX12_readName 81 = .ok (.iload_n 1, 1) := all_at dvX12_readName_45 19 rfl
theorem dX12_readName_82 : decode cX12_readName 82 = .ok (.imul, 1) := all_at dvX12_readName_45 20 rfl
theorem dX12_readName_83 : decode cX12_readName 83 = .ok (.iload_n 2, 1) := all_at dvX12_readName_45 21 rfl
theorem dX12_readName_84 : decode cX12_readName 84 = .ok (.iadd, 1) := all_at dvX12_readName_45 22 rfl
theorem dX12_readName_85 : decode cX12_readName 85 = .ok (.aload_n 0, 1) := all_at dvX12_readName_45 23 rfl
set_option maxRecDepth 100000 in
theorem dvX12_readName_86 : ([(86, .getfield 83, 3), (89, .aload_n 0, 1), (90, .getfield 264, 3), (93, .iload_n 2, 1), (94, .iadd, 1), (95, .iaload, 1), (96, .iastore, 1), (97, .iinc 2 1, 3), (100, .goto (-33), 3), (103, .aload_n 0, 1), (104, .getfield 71, 3), (107, .iload_n 1, 1), (108, .aload_n 0, 1), (109, .iconst 0, 1), (110, .sipush 9999, 3), (113, .invokevirtual 289, 3), (116, .iastore, 1), (117, .aload_n 0, 1), (118, .getfield 257, 3), (121, .ifCond .ne 53, 3), (124, .aload_n 0, 1), (125, .invokevirtual 286, 3), (128, .aload_n 0, 1), (129, .aload_n 0, 1)] : List (Nat × Instr × Nat)).all (fun q => decide (decode cX12_readName q.1 = .ok (q.2.1, q.2.2))) = true := by decide +kernel
theorem dX12_readName_86 : decode cX12_readName 86 = .ok (.getfield 83, 3) := all_at dvX12_readName_86 0 rfl
theorem dX12_readName_89 : decode cX12_readName 89 = .ok (.aload_n 0, 1) := all_at dvX12_readName_86 1 rfl
theorem dX12_readName_90 : decode cX12_readName 90 = .ok (.getfield 264, 3) := all_at dvX12_readName_86 2 rfl
theorem dX12_readName_93 : decode cX12_readName 93 = .ok (.iload_n 2, 1) := all_at dvX12_readName_86 3 rfl
theorem dX12_readName_94 : decode cX12_readName 94 = .ok (.iadd, 1) := all_at dvX12_readName_86 4 rfl
theorem dX12_readName_95 : decode cX12_readName 95 = .ok (.iaload, 1) := all_at dvX12_readName_86 5 rfl
theorem dX12_readName_96 : decode cX12_readName 96 = .ok (.iastore, 1) := all_at dvX12_readName_86 6 rfl
theorem dX12_readName_97 : decode cX12_readName 97 = .ok (.iinc 2 1, 3) := all_at dvX12_readName_86 7 rfl
theorem dX12_readName_100 : decode cX12_readName 100 = .ok (.goto (-33), 3) := all_at dvX12_readName_86 8 rfl
theorem dX12_readName_103 : decode cX12_readName 103 = .ok (.aload_n 0, 1) := all_at dvX12_readName_86 9 rfl
theorem dX12_readName_104 : decode cX12_readName 104 = .ok (.getfield 71, 3) := all_at dvX12_readName_86 10 rfl
theorem dX12_readName_107 : decode cX12_readName 107 = .ok (.iload_n 1, 1) := all_at dvX12_readName_86 11 rfl
theorem dX12_readName_108 : decode cX12_readName 108 = .ok (.aload_n 0, 1) := all_at dvX12_readName_86 12 rfl
theorem dX12_readName_109 : decode cX12_readName 109 = .ok (.iconst 0, 1) := all_at dvX12_readName_86 13 rfl
theorem dX12_readName_110 : decode cX12_readName 110 = .ok (.sipush 9999, 3) := all_at dvX12_readName_86 14 rfl
theorem dX12_readName_113 : decode cX12_readName 113 = .ok (.invokevirtual 289, 3) := all_at dvX12_readName_86 15 rfl
theorem dX12_readName_116 : decode cX12_readName 116 = .ok (.iastore, 1) := all_at dvX12_readName_86 16 rfl
theorem dX12_readName_117 : decode cX12_readName 117 = .ok (.aload_n 0, 1) := all_at dvX12_readName_86 17 rfl
theorem dX12_readName_118 : decode cX12_readName 118 = .ok (.getfield 257, 3) := all_at dvX12_readName_86 18 rfl
theorem dX12_readName_121 : decode cX12_readName 121 = .ok (.ifCond .ne 53, 3) := all_at dvX12_readName_86 19 rfl
theorem dX12_readName_124 : decode cX12_readName 124 = .ok (.aload_n 0, 1) := all_at dvX12_readName_86 20 rfl
theorem dX12_readName_125 : decode cX12_readName 125 = .ok (.invokevirtual 286, 3) := all_at dvX12_readName_86 21 rfl
theorem dX12_readName_128 : decode cX12_readName 128 = .ok (.aload_n 0, 1) := all_at dvX12_readName_86 22 rfl
theorem dX12_readName_129 : decode cX12_readName 129 = .ok (.aload_n 0, 1) := all_at dvX12_readName_86 23 rfl
set_option maxRecDepth 100000 in
theorem dvX12_readName_130 : ([(130, .iconst 2, 1), (131, .bipush 116, 2), (133, .bipush 111, 2), (135, .iconst 0, 1), (136, .iconst 0, 1), (137, .iconst 0, 1), (138, .iconst 0, 1), (139, .invokevirtual 282, 3), (142, .iconst 1, 1), (143, .aload_n 0, 1), (144, .getfield 264, 3), (147, .invokevirtual 278, 3), (150, .ifCond .eq 24, 3), (153, .aload_n 0, 1), (154, .getfield 74, 3), (157, .iload_n 1, 1), (158, .aload_n 0, 1), (159, .aload_n 0, 1), (160, .getfield 71, 3), (163, .iload_n 1, 1), (164, .iaload, 1), (165, .iconst 1, 1), (166, .iadd, 1), (167, .sipush 9999, 3)] : List (Nat × Instr × Nat)).all (fun q => decide (decode cX12_readName q.1 = .ok (q.2.1, q.2.2))) = true := by decide +kernel
theorem dX12_readName_130 : decode cX12_readName 130 = .ok (.iconst 2, 1) := all_at dvX12_readName_130 0 rfl
theorem dX12_readName_131 : decode cX12_readName 131 = .ok (.bipush 116, 2) := all_at dvX12_readName_130 1 rfl
theorem dX12_readName_133 : decode cX12_readName 133 = .ok (.bipush 111, 2) := all_at dvX12_readName_130 2 rfl
theorem dX12_readName_135 : decode cX12_readName 135 = .ok (.iconst 0, 1) := all_at dvX12_readName_130 3 rfl
theorem dX12_readName_136 : decode cX12_readName 136 = .ok (.iconst 0, 1) := all_at dvX12_readName_130 4 rfl
theorem dX12_readName_137 : decode cX12_readName 137 = .ok (.iconst 0, 1) := all_at dvX12_readName_130 5 rfl
theorem dX12_readName_138 : decode cX12_readName 138 = .ok (.iconst 0, 1) := all_at dvX12_readName_130 6 rfl
theorem dX12_readName_139 : decode cX12_readName 139 = .ok (.invokevirtual 282, 3) := all_at dvX12_readName_130 7 rfl
theorem dX12_readName_142 : decode cX12_readName 142 = .ok (.iconst 1, 1) := all_at dvX12_readName_130 8 rfl
theorem dX12_readName_143 : decode cX12_readName 143 = .ok (.aload_n 0, 1) := all_at dvX12_readName_130 9 rfl
theorem dX12_readName_144 : decode cX12_readName 144 = .ok (.getfield 264, 3) := all_at dvX12_readName_130 10 rfl
theorem dX12_readName_147 : decode cX12_readName 147 = .ok (.invokevirtual 278, 3) := all_at dvX12_readName_130 11 rfl
theorem dX12_readName_150 : decode cX12_readName 150 = .ok (.ifCond .eq 24, 3) := all_at dvX12_readName_130 12 rfl
theorem dX12_readName_153 : decode cX12_readName 153 = .ok (.aload_n 0, 1) := all_at dvX12_readName_130 13 rfl
theorem dX12_readName_154 : decode cX12_readName 154 = .ok (.getfield 74, 3) := all_at dvX12_readName_130 14 rfl
theorem dX12_readName_157 : decode cX12_readName 157 = .ok (.iload_n 1, 1) := all_at dvX12_readName_130 15 rfl
theorem dX12_readName_158 : decode cX12_readName 158 = .ok (.aload_n 0, 1) := all_at dvX12_readName_130 16 rfl
theorem dX12_readName_159 : decode cX12_readName 159 = .ok (.aload_n 0, 1) := all_at dvX12_readName_130 17 rfl
theorem dX12_readName_160 : decode cX12_readName 160 = .ok (.getfield 71, 3) := all_at dvX12_readName_130 18 rfl
theorem dX12_readName_163 : decode cX12_readName 163 = .ok (.iload_n 1, 1) := all_at dvX12_readName_130 19 rfl
theorem dX12_readName_164 : decode cX12_readName 164 = .ok (.iaload, 1) := all_at dvX12_readName_130 20 rfl
theorem dX12_readName_165 : decode cX12_readName 165 = .ok (.iconst 1, 1) := all_at dvX12_readName_130 21 rfl
theorem dX12_readName_166 : decode cX12_readName 166 = .ok (.iadd, 1) := all_at dvX12_readName_130 22 rfl
theorem dX12_readName_167 : decode cX12_readName 167 = .ok (.sipush 9999, 3) := all_at dvX12_readName_130 23 rfl
theorem dX12_readName_170 : decode cX12_readName 170 = .ok (.invokevirtual 289, 3) := by decide +kernel
theorem dX12_readName_173 : decode cX12_readName 173 = .ok (.iastore, 1) := by decide +kernel
theorem dX12_readName_174 : decode cX12_readName 174 = .ok (.return_, 1) := by decide +kernel
set_option maxHeartbeats 4000000 in
set_option maxRecDepth 100000 in
/-- X12_readName -/
theorem c_X12_readName (l : Launch) (dC : Nat → ClassId) (dI : Nat → Nat → Nat) (sz : Nat) (h : Nat) (g : Nat → Nat → Nat) (ca : Nat → Nat → ClassId) (iv : Nat → Nat → Int32) (lv : Nat → Nat → Int64) (fa : Nat → Nat → Nat → Int32) (la : Nat → Nat → Nat → Int64) (hI : IX iv fa) (k : Int32) (h_k : 0 ≤ k.toInt ∧ k.toInt ≤ 95) : Met l yX12_readName (wc yX12_readName cX12_readName 3 none) ({ frames := 2, cells := 0, slots := 0, locals := 50 } : Room) (pW (dC, dI) classes (WM h g ca iv lv fa la) (TM ca) sz [.ref h, .int k]) (va_Qv (fun (u : SS) => ∃ (na_12_28 : Nat → Int32) (na_12_29 : Nat → Int32) (na_12_30 : Nat → Int32) (na_12_31 : Nat → Int32) (ni_12_34 : Int32) (ni_12_35 : Int32) (ni_12_36 : Int32) (ni_12_37 : Int32) (ni_12_38 : Int32), (∀ j, inb (bA 12 30 j) (na_12_30 j)) ∧ inb (bI 12 34) ni_12_34 ∧ inb (bI 12 35) ni_12_35 ∧ inb (bI 12 37) ni_12_37 ∧ inb (bI 12 38) ni_12_38 ∧ ((iv 12 34).toInt ≤ (ni_12_34).toInt) ∧ (∀ j : Nat, j ≠ k.toNatClampNeg → na_12_28 j = (fa 12 28) j) ∧ u = ((u2 (u2 (u2 (u2 (u2 iv 12 34 ni_12_34) 12 35 ni_12_35) 12 36 ni_12_36) 12 37 ni_12_37) 12 38 ni_12_38), lv, (u2 (u2 (u2 (u2 fa 12 28 na_12_28) 12 29 na_12_29) 12 30 na_12_30) 12 31 na_12_31), la)) (bM (dC, dI) h g ca (va_A (WM h g ca iv lv fa la) sz)) (va_A (WM h g ca iv lv fa la) sz)) 0 0 (va_A (WM h g ca iv lv fa la) sz) := by
  refine Met.ofW (cc := cX12_readName) (maxL := 3) (ret := none) (by decide) rfl ?_
  intro p e s m args below meth c s₁ B hml hv
  obtain ⟨rfl, hsz, hP, hK, hD0⟩ := hv
  have hx := B.exec
  have hb := B.bytes
  have hr := B.returns
  have ht := tb_tl (atoms_spec (ws := wc yX12_readName cX12_readName 3 none) B.pre)
  have hown : s.vm.findClass RX12 = some m.cls := findClass_of_methodNamed B.named
  have hlocks := B.notSynchronized
  subst hsz
  have hD := hD0.self (sz := s.heap.size)
  generalize hAe : va_A (WM h g ca iv lv fa la) s.heap.size = A at hD ⊢
  have hA : ∀ q : Nat, s.heap.size ≤ q → A q := fun q h => by rw [← hAe]; exact Or.inr h
  have hS : va_S A s.heap s.heap [] := va_S.rf
  have hl := lv_entry [.ref h, .int k] (n := 3) (Nat.le_of_ble_eq_true rfl)
  rw [lg_entry_eq]
  generalize (lg_sl [.ref h, .int k] ++ List.replicate (3 - (lg_sl [.ref h, .int k]).length) Slot.unset).toArray = ls at hl ⊢
  have hl : lv_has ls 3 [(0, .ref h), (1, .int k)] := hl
  refine lv_aload_n hx hb dX12_readName_0 rfl (lv_at hl 0 rfl) ?_
  have i_12_34 : 0 ≤ (iv 12 34).toInt ∧ (iv 12 34).toInt ≤ 200 := hI.1 12 34
  have hFc := free_all hD hS hA
  refine va_callv (va_runV (As := []) (rest := []) ⟨hx, hb, hml, hown, ht⟩ (c_X12_takeWord l dC dI s.heap.size h g ca iv lv fa la hI) (kV 0 ht m_1462 m_1464 m_48 m_89 m_1465 rfl rfl hd_X12_takeWord_v ⟨Nat.le_of_ble_eq_true rfl, Nat.le_of_ble_eq_true rfl⟩) (vW hP hK hD (rM_12 hK hP)) rfl rfl hl.1 rfl (lv_room (Nat.le_of_ble_eq_true rfl)) dX12_readName_1 ⟨Nat.le_of_ble_eq_true rfl, Nat.le_of_ble_eq_true rfl⟩) hS (fun q _ h => hFc q h) hFc (fun u t H1 locs ht9 hvm hr1 hB hz1 hk1 hS => ?_)
  obtain ⟨n2, n3, n4, hn2, hn3, hn4, xr1_0, xr1_1, rfl⟩ := hr1
  have hn2 : 0 ≤ n2.toInt ∧ n2.toInt ≤ 200 := hn2
  have hn3 : 0 ≤ n3.toInt ∧ n3.toInt ≤ 200 := hn3
  have hn4 : 0 ≤ n4.toInt ∧ n4.toInt ≤ 200 := hn4
  obtain ⟨hP, hD⟩ := hB
  rw [ht9] at hP
  generalize H1 = H at hP hS ⊢
  have hP : va_P (dC, dI) classes (WM h g ca (u2 (u2 (u2 iv 12 34 n2) 12 37 n3) 12 38 n4) lv fa la) H := hP
  have hD : va_D A (WM h g ca (u2 (u2 (u2 iv 12 34 n2) 12 37 n3) 12 38 n4) lv fa la) := (show va_D _ (WM h g ca (u2 (u2 (u2 iv 12 34 n2) 12 37 n3) 12 38 n4) lv fa la) from hD).weaken (fun _ _ _ h => hFc _ h)
  have xr1_0 : ((iv 12 34) : Int32).toInt ≤ (n3 : Int32).toInt := xr1_0
  have xr1_1 : (n3 : Int32).toInt + (n4 : Int32).toInt = (n2 : Int32).toInt := xr1_1
  refine lv_aload_n hx hb dX12_readName_4 rfl (lv_at hl 0 rfl) ?_
  refine lv_aload_n hx hb dX12_readName_5 rfl (lv_at hl 0 rfl) ?_
  refine gM_12_38 hx hb ht hown hK hP m_1177 (v := n4) rfl dX12_readName_6 ?_
  refine lv_if_le (tgt := 16) hx hb dX12_readName_9 (by decide) (fun c5 => ?_) (fun c5 => ?_)
  · have fc5 := z_le (rfl : (n4).toInt = _) (by decide : (0 : Int32).toInt = 0) c5
    refine lv_iconst (v := 0) hx hb dX12_readName_16 (by decide) ?_
    refine lv_iconst (v := 1) hx hb dX12_readName_17 (by decide) ?_
    refine lv_aload_n hx hb dX12_readName_18 rfl (lv_at hl 0 rfl) ?_
    refine gM_12_37 hx hb ht hown hK hP m_1176 (v := n3) rfl dX12_readName_19 ?_
    have hFc := free_all hD hS hA
    refine va_calli (va_runV (As := [.int 0, .int 1, .int n3]) (rest := []) ⟨hx, hb, hml, hown, ht⟩ (c_X12_want_0 l dC dI H.size h g ca (u2 (u2 (u2 iv 12 34 n2) 12 37 n3) 12 38 n4) lv fa la (IX_i (c := 12) (k := 38) (IX_i (c := 12) (k := 37) (IX_i (c := 12) (k := 34) hI (show inb (0, 200) n2 from ⟨by omega, by omega⟩)) (show inb (0, 200) n3 from ⟨by omega, by omega⟩)) (show inb (0, 200) n4 from ⟨by omega, by omega⟩)) 1 n3 ⟨by decide, by decide⟩) (kV 3 ht m_1472 m_1474 m_50 m_89 m_1475 rfl rfl hd_X12_want_v ⟨Nat.le_of_ble_eq_true rfl, Nat.le_of_ble_eq_true rfl⟩) (vW hP hK hD (rM_12 hK hP)) rfl rfl hl.1 rfl (lv_room (Nat.le_of_ble_eq_true rfl)) dX12_readName_22 ⟨Nat.le_of_ble_eq_true rfl, Nat.le_of_ble_eq_true rfl⟩) hS (fun q _ h => hFc q h) hFc (fun r6 u t H1 locs ht9 hvm hr6 hB hz1 hk1 hS => ?_)
    obtain ⟨n7, n8, hn7, xr6_0, hr6, rfl⟩ := hr6
    have hn7 : 0 ≤ n7.toInt ∧ n7.toInt ≤ 5 := hn7
    obtain ⟨hP, hD⟩ := hB
    rw [ht9] at hP
    generalize H1 = H at hP hS ⊢
    have hP : va_P (dC, dI) classes (WM h g ca (u2 (u2 (u2 (u2 (u2 iv 12 34 n2) 12 37 n3) 12 38 n4) 12 35 n7) 12 36 n8) lv fa la) H := hP
    have hD : va_D A (WM h g ca (u2 (u2 (u2 (u2 (u2 iv 12 34 n2) 12 37 n3) 12 38 n4) 12 35 n7) 12 36 n8) lv fa la) := (show va_D _ (WM h g ca (u2 (u2 (u2 (u2 (u2 iv 12 34 n2) 12 37 n3) 12 38 n4) 12 35 n7) 12 36 n8) lv fa la) from hD).weaken (fun _ _ _ h => hFc _ h)
    have xr6_0 : 1 ≤ (n7 : Int32).toInt := xr6_0
    obtain rfl : 0 = r6 := hr6.symm
    refine lv_if_eq (tgt := 54) hx hb dX12_readName_25 (by decide) (fun c9 => ?_) (fun c9 => ?_)
    · skip
      have hP9 : va_P (dC, dI) classes (WM h g ca (u2 (u2 (u2 (u2 (u2 iv 12 34 n2) 12 35 n7) 12 36 n8) 12 37 n3) 12 38 n4) lv (u2 (u2 (u2 (u2 fa 12 28 (fa 12 28)) 12 29 (fa 12 29)) 12 30 (fa 12 30)) 12 31 (fa 12 31)) la) H := hP
      have hD9 : va_D A (WM h g ca (u2 (u2 (u2 (u2 (u2 iv 12 34 n2) 12 35 n7) 12 36 n8) 12 37 n3) 12 38 n4) lv (u2 (u2 (u2 (u2 fa 12 28 (fa 12 28)) 12 29 (fa 12 29)) 12 30 (fa 12 30)) 12 31 (fa 12 31)) la) := hD
      exact W.vret hx hb hr (fun t ht9 hW => ⟨⟨((u2 (u2 (u2 (u2 (u2 iv 12 34 n2) 12 35 n7) 12 36 n8) 12 37 n3) 12 38 n4), lv, (u2 (u2 (u2 (u2 fa 12 28 (fa 12 28)) 12 29 (fa 12 29)) 12 30 (fa 12 30)) 12 31 (fa 12 31)), la), rfl, ⟨(fa 12 28), (fa 12 29), (fa 12 30), (fa 12 31), n2, n7, n8, n3, n4, (hI.2 12 30), (show inb (0, 200) n2 from ⟨by omega, by omega⟩), (show inb (0, 5) n7 from ⟨by omega, by omega⟩), (show inb (0, 200) n3 from ⟨by omega, by omega⟩), (show inb (0, 200) n4 from ⟨by omega, by omega⟩), (show (iv 12 34).toInt ≤ (n2 : Int32).toInt from by omega), (show ∀ j : Nat, j ≠ k.toNatClampNeg → (fa 12 28) j = (fa 12 28) j from fun j hj => rfl), rfl⟩, by rw [ht9]; exact hP9, hD9⟩, hS.F ht9⟩) hS.2.2 dX12_readName_54
    · exact absurd rfl c9
  · have fc5 := z_nle (rfl : (n4).toInt = _) (by decide : (0 : Int32).toInt = 0) c5
    refine lv_iconst (v := 1) hx hb dX12_readName_12 (by decide) ?_
    refine lv_goto (tgt := 17) hx hb dX12_readName_13 (by decide) ?_
    refine lv_iconst (v := 1) hx hb dX12_readName_17 (by decide) ?_
    refine lv_aload_n hx hb dX12_readName_18 rfl (lv_at hl 0 rfl) ?_
    refine gM_12_37 hx hb ht hown hK hP m_1176 (v := n3) rfl dX12_readName_19 ?_
    refine vp_callSi (W.runV (As := [.int 1, .int 1, .int n3]) (rest := []) ⟨hx, hb, hml, hown, ht⟩ (c_X12_want_1 l dC dI h g ca (u2 (u2 (u2 iv 12 34 n2) 12 37 n3) 12 38 n4) lv fa la (IX_i (c := 12) (k := 38) (IX_i (c := 12) (k := 37) (IX_i (c := 12) (k := 34) hI (show inb (0, 200) n2 from ⟨by omega, by omega⟩)) (show inb (0, 200) n3 from ⟨by omega, by omega⟩)) (show inb (0, 200) n4 from ⟨by omega, by omega⟩)) 1 n3) (kV 3 ht m_1472 m_1474 m_50 m_89 m_1475 rfl rfl hd_X12_want_v ⟨Nat.le_of_ble_eq_true rfl, Nat.le_of_ble_eq_true rfl⟩) (vR hP hK (rM_12 hK hP)) rfl rfl hl.1 rfl (lv_room (Nat.le_of_ble_eq_true rfl)) dX12_readName_22 ⟨Nat.le_of_ble_eq_true rfl, Nat.le_of_ble_eq_true rfl⟩) (fun r10 hr10 => ?_)
    rcases hr10 with ⟨rfl, fr10⟩ | ⟨rfl, fr10⟩
    have i_12_35 : 0 ≤ (iv 12 35).toInt ∧ (iv 12 35).toInt ≤ 5 := hI.1 12 35
    · skip
      have i_12_35 : 0 ≤ (iv 12 35).toInt ∧ (iv 12 35).toInt ≤ 5 := hI.1 12 35
      have fr10 : (((iv 12 35) : Int32).toInt = 0) := fr10
      refine lv_if_eq (tgt := 54) hx hb dX12_readName_25 (by decide) (fun c11 => ?_) (fun c11 => ?_)
      · exact absurd c11 (by decide)
      · skip
        refine lv_aload_n hx hb dX12_readName_28 rfl (lv_at hl 0 rfl) ?_
        refine lv_aload_n hx hb dX12_readName_29 rfl (lv_at hl 0 rfl) ?_
        refine gM_12_38 hx hb ht hown hK hP m_1177 (v := n4) rfl dX12_readName_30 ?_
        refine lv_bipush (v := 9) hx hb dX12_readName_33 (by decide) ?_
        refine lv_icmp_ge (tgt := 42) hx hb dX12_readName_35 (by decide) (fun c12 => ?_) (fun c12 => ?_)
        · have fc12 := z_le (by decide : (9 : Int32).toInt = 9) (rfl : (n4).toInt = _) c12
          refine lv_iconst (v := 0) hx hb dX12_readName_42 (by decide) ?_
          refine lv_iconst (v := 4) hx hb dX12_readName_43 (by decide) ?_
          refine lv_aload_n hx hb dX12_readName_44 rfl (lv_at hl 0 rfl) ?_
          refine gM_12_37 hx hb ht hown hK hP m_1176 (v := n3) rfl dX12_readName_45 ?_
          have hFc := free_all hD hS hA
          refine va_calli (va_runV (As := [.int 0, .int 4, .int n3]) (rest := []) ⟨hx, hb, hml, hown, ht⟩ (c_X12_want_0 l dC dI H.size h g ca (u2 (u2 (u2 iv 12 34 n2) 12 37 n3) 12 38 n4) lv fa la (IX_i (c := 12) (k := 38) (IX_i (c := 12) (k := 37) (IX_i (c := 12) (k := 34) hI (show inb (0, 200) n2 from ⟨by omega, by omega⟩)) (show inb (0, 200) n3 from ⟨by omega, by omega⟩)) (show inb (0, 200) n4 from ⟨by omega, by omega⟩)) 4 n3 ⟨by decide, by decide⟩) (kV 3 ht m_1472 m_1474 m_50 m_89 m_1475 rfl rfl hd_X12_want_v ⟨Nat.le_of_ble_eq_true rfl, Nat.le_of_ble_eq_true rfl⟩) (vW hP hK hD (rM_12 hK hP)) rfl rfl hl.1 rfl (lv_room (Nat.le_of_ble_eq_true rfl)) dX12_readName_48 ⟨Nat.le_of_ble_eq_true rfl, Nat.le_of_ble_eq_true rfl⟩) hS (fun q _ h => hFc q h) hFc (fun r13 u t H1 locs ht9 hvm hr13 hB hz1 hk1 hS => ?_)
          obtain ⟨n14, n15, hn14, xr13_0, hr13, rfl⟩ := hr13
          have hn14 : 0 ≤ n14.toInt ∧ n14.toInt ≤ 5 := hn14
          obtain ⟨hP, hD⟩ := hB
          rw [ht9] at hP
          generalize H1 = H at hP hS ⊢
          have hP : va_P (dC, dI) classes (WM h g ca (u2 (u2 (u2 (u2 (u2 iv 12 34 n2) 12 37 n3) 12 38 n4) 12 35 n14) 12 36 n15) lv fa la) H := hP
          have hD : va_D A (WM h g ca (u2 (u2 (u2 (u2 (u2 iv 12 34 n2) 12 37 n3) 12 38 n4) 12 35 n14) 12 36 n15) lv fa la) := (show va_D _ (WM h g ca (u2 (u2 (u2 (u2 (u2 iv 12 34 n2) 12 37 n3) 12 38 n4) 12 35 n14) 12 36 n15) lv fa la) from hD).weaken (fun _ _ _ h => hFc _ h)
          have xr13_0 : 1 ≤ (n14 : Int32).toInt := xr13_0
          obtain rfl : 0 = r13 := hr13.symm
          refine lv_if_ne (tgt := 55) hx hb dX12_readName_51 (by decide) (fun c16 => ?_) (fun c16 => ?_)
          · exact absurd rfl c16
          · skip
            have hP9 : va_P (dC, dI) classes (WM h g ca (u2 (u2 (u2 (u2 (u2 iv 12 34 n2) 12 35 n14) 12 36 n15) 12 37 n3) 12 38 n4) lv (u2 (u2 (u2 (u2 fa 12 28 (fa 12 28)) 12 29 (fa 12 29)) 12 30 (fa 12 30)) 12 31 (fa 12 31)) la) H := hP
            have hD9 : va_D A (WM h g ca (u2 (u2 (u2 (u2 (u2 iv 12 34 n2) 12 35 n14) 12 36 n15) 12 37 n3) 12 38 n4) lv (u2 (u2 (u2 (u2 fa 12 28 (fa 12 28)) 12 29 (fa 12 29)) 12 30 (fa 12 30)) 12 31 (fa 12 31)) la) := hD
            exact W.vret hx hb hr (fun t ht9 hW => ⟨⟨((u2 (u2 (u2 (u2 (u2 iv 12 34 n2) 12 35 n14) 12 36 n15) 12 37 n3) 12 38 n4), lv, (u2 (u2 (u2 (u2 fa 12 28 (fa 12 28)) 12 29 (fa 12 29)) 12 30 (fa 12 30)) 12 31 (fa 12 31)), la), rfl, ⟨(fa 12 28), (fa 12 29), (fa 12 30), (fa 12 31), n2, n14, n15, n3, n4, (hI.2 12 30), (show inb (0, 200) n2 from ⟨by omega, by omega⟩), (show inb (0, 5) n14 from ⟨by omega, by omega⟩), (show inb (0, 200) n3 from ⟨by omega, by omega⟩), (show inb (0, 200) n4 from ⟨by omega, by omega⟩), (show (iv 12 34).toInt ≤ (n2 : Int32).toInt from by omega), (show ∀ j : Nat, j ≠ k.toNatClampNeg → (fa 12 28) j = (fa 12 28) j from fun j hj => rfl), rfl⟩, by rw [ht9]; exact hP9, hD9⟩, hS.F ht9⟩) hS.2.2 dX12_readName_54
        · have fc12 := z_nle (by decide : (9 : Int32).toInt = 9) (rfl : (n4).toInt = _) c12
          refine lv_iconst (v := 1) hx hb dX12_readName_38 (by decide) ?_
          refine lv_goto (tgt := 43) hx hb dX12_readName_39 (by decide) ?_
          refine lv_iconst (v := 4) hx hb dX12_readName_43 (by decide) ?_
          refine lv_aload_n hx hb dX12_readName_44 rfl (lv_at hl 0 rfl) ?_
          refine gM_12_37 hx hb ht hown hK hP m_1176 (v := n3) rfl dX12_readName_45 ?_
          refine vp_callSi (W.runV (As := [.int 1, .int 4, .int n3]) (rest := []) ⟨hx, hb, hml, hown, ht⟩ (c_X12_want_1 l dC dI h g ca (u2 (u2 (u2 iv 12 34 n2) 12 37 n3) 12 38 n4) lv fa la (IX_i (c := 12) (k := 38) (IX_i (c := 12) (k := 37) (IX_i (c := 12) (k := 34) hI (show inb (0, 200) n2 from ⟨by omega, by omega⟩)) (show inb (0, 200) n3 from ⟨by omega, by omega⟩)) (show inb (0, 200) n4 from ⟨by omega, by omega⟩)) 4 n3) (kV 3 ht m_1472 m_1474 m_50 m_89 m_1475 rfl rfl hd_X12_want_v ⟨Nat.le_of_ble_eq_true rfl, Nat.le_of_ble_eq_true rfl⟩) (vR hP hK (rM_12 hK hP)) rfl rfl hl.1 rfl (lv_room (Nat.le_of_ble_eq_true rfl)) dX12_readName_48 ⟨Nat.le_of_ble_eq_true rfl, Nat.le_of_ble_eq_true rfl⟩) (fun r17 hr17 => ?_)
          rcases hr17 with ⟨rfl, fr17⟩ | ⟨rfl, fr17⟩
          · skip
            have fr17 : (((iv 12 35) : Int32).toInt = 0) := fr17
            refine lv_if_ne (tgt := 55) hx hb dX12_readName_51 (by decide) (fun c18 => ?_) (fun c18 => ?_)
            · skip
              refine lv_aload_n hx hb dX12_readName_55 rfl (lv_at hl 0 rfl) ?_
              refine gM_12_30 hx hb ht hown hK hP m_1169 dX12_readName_56 ?_
              refine lv_iload_n hx hb dX12_readName_59 rfl (lv_at hl 1 rfl) ?_
              refine lv_aload_n hx hb dX12_readName_60 rfl (lv_at hl 0 rfl) ?_
              refine gM_12_38 hx hb ht hown hK hP m_1177 (v := n4) rfl dX12_readName_61 ?_
              refine tM_12_30 hx hb hK hP hD hS (f0 := (fa 12 30)) rfl (i := k) (x := n4) (vp_in_iff.mpr ⟨by omega, by omega⟩) dX12_readName_64 (fun f19 ef19 H locs hP hD hS => ?_)
              have hf19 : ∀ j, inb (bA 12 30 j) (f19 j) := by rw [ef19]; exact upd_b (b := bA 12 30) (hI.2 12 30) (show inb (0, 8) n4 from ⟨by omega, by omega⟩)
              refine lv_iconst (v := 0) hx hb dX12_readName_65 (by decide) ?_
              refine lv_istore_n (lv' := [(2, .int 0), (0, .ref h), (1, .int k)]) hx hb dX12_readName_66 rfl hl (by decide) rfl (fun ls hl => ?_)
              have lp309 : ∀ (nn309 : Nat) (x308_2 : Int32) (w308_a_12_31 : Nat → Int32), 0 ≤ x308_2.toInt ∧ x308_2.toInt ≤ 8 → (∀ j, inb (bA 12 31 j) (w308_a_12_31 j)) → 8 - x308_2.toInt < (nn309 : Int) → ∀ (H : Heap) (locs : List Loc), ∀ (ls : Array Slot), va_P (dC, dI) classes (WM h g ca (u2 (u2 (u2 iv 12 34 n2) 12 37 n3) 12 38 n4) lv (u2 (u2 fa 12 30 f19) 12 31 w308_a_12_31) la) H → va_D A (WM h g ca (u2 (u2 (u2 iv 12 34 n2) 12 37 n3) 12 38 n4) lv (u2 (u2 fa 12 30 f19) 12 31 w308_a_12_31) la) → va_S A s.heap H locs → lv_has ls 3 [(2, .int x308_2), (0, .ref h), (1, .int k)] → W p l e ({ frames := 2, cells := 0, slots := 0, locals := 50 } : Room) s m ([.ref h, .int k] : List Value).toArray below meth c H locs 0 0 (MQ below (va_Qv (fun (u : SS) => ∃ (na_12_28 : Nat → Int32) (na_12_29 : Nat → Int32) (na_12_30 : Nat → Int32) (na_12_31 : Nat → Int32) (ni_12_34 : Int32) (ni_12_35 : Int32) (ni_12_36 : Int32) (ni_12_37 : Int32) (ni_12_38 : Int32), (∀ j, inb (bA 12 30 j) (na_12_30 j)) ∧ inb (bI 12 34) ni_12_34 ∧ inb (bI 12 35) ni_12_35 ∧ inb (bI 12 37) ni_12_37 ∧ inb (bI 12 38) ni_12_38 ∧ ((iv 12 34).toInt ≤ (ni_12_34).toInt) ∧ (∀ j : Nat, j ≠ k.toNatClampNeg → na_12_28 j = (fa 12 28) j) ∧ u = ((u2 (u2 (u2 (u2 (u2 iv 12 34 ni_12_34) 12 35 ni_12_35) 12 36 ni_12_36) 12 37 ni_12_37) 12 38 ni_12_38), lv, (u2 (u2 (u2 (u2 fa 12 28 na_12_28) 12 29 na_12_29) 12 30 na_12_30) 12 31 na_12_31), la)) (bM (dC, dI) h g ca A) A) ([.ref h, .int k] : List Value).toArray s 0 0 A) (F0 m 67 ls []) := by
                intro nn309
                induction nn309 with
                | zero => intro x308_2 w308_a_12_31 hx308_2 hw308_a_12_31 hm309; exfalso; omega
                | succ nn309 ih309 =>
                  intro x308_2 w308_a_12_31 hx308_2 hw308_a_12_31 hm309 H locs ls hP hD hS hl
                  refine lv_iload_n hx hb dX12_readName_67 rfl (lv_at hl 0 rfl) ?_
                  refine lv_aload_n hx hb dX12_readName_68 rfl (lv_at hl 1 rfl) ?_
                  refine gM_12_38 hx hb ht hown hK hP m_1177 (v := n4) rfl dX12_readName_69 ?_
                  refine lv_icmp_ge (tgt := 103) hx hb dX12_readName_72 (by decide) (fun c310 => ?_) (fun c310 => ?_)
                  · have fc310 := z_le (rfl : (n4).toInt = _) (rfl : (x308_2).toInt = _) c310
                    refine lv_aload_n hx hb dX12_readName_103 rfl (lv_at hl 1 rfl) ?_
                    refine gM_12_28 hx hb ht hown hK hP m_1167 dX12_readName_104 ?_
                    refine lv_iload_n hx hb dX12_readName_107 rfl (lv_at hl 2 rfl) ?_
                    refine lv_aload_n hx hb dX12_readName_108 rfl (lv_at hl 1 rfl) ?_
                    refine lv_iconst (v := 0) hx hb dX12_readName_109 (by decide) ?_
                    refine lv_sipush (v := 9999) hx hb dX12_readName_110 (by decide) ?_
                    have hFc := free_all hD hS hA
                    refine va_calli (va_runV (As := [.int 0, .int 9999]) (rest := [.int k, .ref (g 12 28)]) ⟨hx, hb, hml, hown, ht⟩ (c_X12_takeNumber l dC dI H.size h g ca (u2 (u2 (u2 iv 12 34 n2) 12 37 n3) 12 38 n4) lv (u2 (u2 fa 12 30 f19) 12 31 w308_a_12_31) la (IX_a (c := 12) (k := 31) (IX_a (c := 12) (k := 30) (IX_i (c := 12) (k := 38) (IX_i (c := 12) (k := 37) (IX_i (c := 12) (k := 34) hI (show inb (0, 200) n2 from ⟨by omega, by omega⟩)) (show inb (0, 200) n3 from ⟨by omega, by omega⟩)) (show inb (0, 200) n4 from ⟨by omega, by omega⟩)) hf19) hw308_a_12_31) 0 9999) (kV 2 ht m_1490 m_1492 m_53 m_89 m_1493 rfl rfl hd_X12_takeNumber_v ⟨Nat.le_of_ble_eq_true rfl, Nat.le_of_ble_eq_true rfl⟩) (vW hP hK hD (rM_12 hK hP)) rfl rfl hl.1 rfl (lv_room (Nat.le_of_ble_eq_true rfl)) dX12_readName_113 ⟨Nat.le_of_ble_eq_true rfl, Nat.le_of_ble_eq_true rfl⟩) hS (fun q _ h => hFc q h) hFc (fun r311 u t H1 locs ht9 hvm hr311 hB hz1 hk1 hS => ?_)
                    obtain ⟨n312, n313, n314, n315, hn312, hn313, hn315, xr311_0, xr311_1, hr311, rfl⟩ := hr311
                    have hn312 : 0 ≤ n312.toInt ∧ n312.toInt ≤ 200 := hn312
                    have hn313 : 0 ≤ n313.toInt ∧ n313.toInt ≤ 5 := hn313
                    have hn315 : 0 ≤ n315.toInt ∧ n315.toInt ≤ 200 := hn315
                    obtain ⟨hP, hD⟩ := hB
                    rw [ht9] at hP
                    generalize H1 = H at hP hS ⊢
                    have hP : va_P (dC, dI) classes (WM h g ca (u2 (u2 (u2 (u2 (u2 iv 12 34 n312) 12 37 n315) 12 38 n4) 12 35 n313) 12 36 n314) lv (u2 (u2 fa 12 30 f19) 12 31 w308_a_12_31) la) H := hP
                    have hD : va_D A (WM h g ca (u2 (u2 (u2 (u2 (u2 iv 12 34 n312) 12 37 n315) 12 38 n4) 12 35 n313) 12 36 n314) lv (u2 (u2 fa 12 30 f19) 12 31 w308_a_12_31) la) := (show va_D _ (WM h g ca (u2 (u2 (u2 (u2 (u2 iv 12 34 n312) 12 37 n315) 12 38 n4) 12 35 n313) 12 36 n314) lv (u2 (u2 fa 12 30 f19) 12 31 w308_a_12_31) la) from hD).weaken (fun _ _ _ h => hFc _ h)
                    have xr311_0 : (n2 : Int32).toInt ≤ (n312 : Int32).toInt := xr311_0
                    have : (0 : Int32).toInt = 0 := (by decide)
                    have : (9999 : Int32).toInt = 9999 := (by decide)
                    have xr311_1 : ((n313 : Int32).toInt ≠ 0 ∨ ((0 : Int32).toInt ≤ (r311 : Int32).toInt ∧ (r311 : Int32).toInt ≤ (9999 : Int32).toInt)) := xr311_1
                    refine tM_12_28 hx hb hK hP hD hS (f0 := (fa 12 28)) rfl (i := k) (x := r311) (vp_in_iff.mpr ⟨by omega, by omega⟩) dX12_readName_116 (fun f316 ef316 H locs hP hD hS => ?_)
                    have hf316 : ∀ j, inb (bA 12 28 j) (f316 j) := fun j => full_i _
                    refine lv_aload_n hx hb dX12_readName_117 rfl (lv_at hl 1 rfl) ?_
                    refine gM_12_35 hx hb ht hown hK hP m_1174 (v := n313) rfl dX12_readName_118 ?_
                    refine lv_if_ne (tgt := 174) hx hb dX12_readName_121 (by decide) (fun c317 => ?_) (fun c317 => ?_)
                    · have fc317 := z_ne (rfl : (n313).toInt = _) (by decide : (0 : Int32).toInt = 0) c317
                      have hP9 : va_P (dC, dI) classes (WM h g ca (u2 (u2 (u2 (u2 (u2 iv 12 34 n312) 12 35 n313) 12 36 n314) 12 37 n315) 12 38 n4) lv (u2 (u2 (u2 (u2 fa 12 28 f316) 12 29 (fa 12 29)) 12 30 f19) 12 31 w308_a_12_31) la) H := hP
                      have hD9 : va_D A (WM h g ca (u2 (u2 (u2 (u2 (u2 iv 12 34 n312) 12 35 n313) 12 36 n314) 12 37 n315) 12 38 n4) lv (u2 (u2 (u2 (u2 fa 12 28 f316) 12 29 (fa 12 29)) 12 30 f19) 12 31 w308_a_12_31) la) := hD
                      exact W.vret hx hb hr (fun t ht9 hW => ⟨⟨((u2 (u2 (u2 (u2 (u2 iv 12 34 n312) 12 35 n313) 12 36 n314) 12 37 n315) 12 38 n4), lv, (u2 (u2 (u2 (u2 fa 12 28 f316) 12 29 (fa 12 29)) 12 30 f19) 12 31 w308_a_12_31), la), rfl, ⟨f316, (fa 12 29), f19, w308_a_12_31, n312, n313, n314, n315, n4, hf19, (show inb (0, 200) n312 from ⟨by omega, by omega⟩), (show inb (0, 5) n313 from ⟨by omega, by omega⟩), (show inb (0, 200) n315 from ⟨by omega, by omega⟩), (show inb (0, 200) n4 from ⟨by omega, by omega⟩), (show (iv 12 34).toInt ≤ (n312 : Int32).toInt from by omega), (show ∀ j : Nat, j ≠ k.toNatClampNeg → f316 j = (fa 12 28) j from fun j hj => (by rw [ef316, upd_ne hj])), rfl⟩, by rw [ht9]; exact hP9, hD9⟩, hS.F ht9⟩) hS.2.2 dX12_readName_174
                    · have fc317 := z_eq (rfl : (n313).toInt = _) (by decide : (0 : Int32).toInt = 0) c317
                      refine lv_aload_n hx hb dX12_readName_124 rfl (lv_at hl 1 rfl) ?_
                      have hFc := free_all hD hS hA
                      refine va_callv (va_runV (As := []) (rest := []) ⟨hx, hb, hml, hown, ht⟩ (c_X12_takeWord l dC dI H.size h g ca (u2 (u2 (u2 (u2 (u2 iv 12 34 n312) 12 37 n315) 12 38 n4) 12 35 n313) 12 36 n314) lv (u2 (u2 (u2 fa 12 30 f19) 12 31 w308_a_12_31) 12 28 f316) la (IX_a (c := 12) (k := 28) (IX_a (c := 12) (k := 31) (IX_a (c := 12) (k := 30) (IX_i (c := 12) (k := 36) (IX_i (c := 12) (k := 35) (IX_i (c := 12) (k := 38) (IX_i (c := 12) (k := 37) (IX_i (c := 12) (k := 34) hI (show inb (0, 200) n312 from ⟨by omega, by omega⟩)) (show inb (0, 200) n315 from ⟨by omega, by omega⟩)) (show inb (0, 200) n4 from ⟨by omega, by omega⟩)) (show inb (0, 5) n313 from ⟨by omega, by omega⟩)) (full_i _)) hf19) hw308_a_12_31) hf316)) (kV 0 ht m_1462 m_1464 m_48 m_89 m_1465 rfl rfl hd_X12_takeWord_v ⟨Nat.le_of_ble_eq_true rfl, Nat.le_of_ble_eq_true rfl⟩) (vW hP hK hD (rM_12 hK hP)) rfl rfl hl.1 rfl (lv_room (Nat.le_of_ble_eq_true rfl)) dX12_readName_125 ⟨Nat.le_of_ble_eq_true rfl, Nat.le_of_ble_eq_true rfl⟩) hS (fun q _ h => hFc q h) hFc (fun u t H1 locs ht9 hvm hr318 hB hz1 hk1 hS => ?_)
                      obtain ⟨n319, n320, n321, hn319, hn320, hn321, xr318_0, xr318_1, rfl⟩ := hr318
                      have hn319 : 0 ≤ n319.toInt ∧ n319.toInt ≤ 200 := hn319
                      have hn320 : 0 ≤ n320.toInt ∧ n320.toInt ≤ 200 := hn320
                      have hn321 : 0 ≤ n321.toInt ∧ n321.toInt ≤ 200 := hn321
                      obtain ⟨hP, hD⟩ := hB
                      rw [ht9] at hP
                      generalize H1 = H at hP hS ⊢
                      have hP : va_P (dC, dI) classes (WM h g ca (u2 (u2 (u2 (u2 (u2 iv 12 34 n319) 12 37 n320) 12 38 n321) 12 35 n313) 12 36 n314) lv (u2 (u2 (u2 fa 12 30 f19) 12 31 w308_a_12_31) 12 28 f316) la) H := hP
                      have hD : va_D A (WM h g ca (u2 (u2 (u2 (u2 (u2 iv 12 34 n319) 12 37 n320) 12 38 n321) 12 35 n313) 12 36 n314) lv (u2 (u2 (u2 fa 12 30 f19) 12 31 w308_a_12_31) 12 28 f316) la) := (show va_D _ (WM h g ca (u2 (u2 (u2 (u2 (u2 iv 12 34 n319) 12 37 n320) 12 38 n321) 12 35 n313) 12 36 n314) lv (u2 (u2 (u2 fa 12 30 f19) 12 31 w308_a_12_31) 12 28 f316) la) from hD).weaken (fun _ _ _ h => hFc _ h)
                      have xr318_0 : (n312 : Int32).toInt ≤ (n320 : Int32).toInt := xr318_0
                      have xr318_1 : (n320 : Int32).toInt + (n321 : Int32).toInt = (n319 : Int32).toInt := xr318_1
                      refine lv_aload_n hx hb dX12_readName_128 rfl (lv_at hl 1 rfl) ?_
                      refine lv_aload_n hx hb dX12_readName_129 rfl (lv_at hl 1 rfl) ?_
                      refine lv_iconst (v := 2) hx hb dX12_readName_130 (by decide) ?_
                      refine lv_bipush (v := 116) hx hb dX12_readName_131 (by decide) ?_
                      refine lv_bipush (v := 111) hx hb dX12_readName_133 (by decide) ?_
                      refine lv_iconst (v := 0) hx hb dX12_readName_135 (by decide) ?_
                      refine lv_iconst (v := 0) hx hb dX12_readName_136 (by decide) ?_
                      refine lv_iconst (v := 0) hx hb dX12_readName_137 (by decide) ?_
                      refine lv_iconst (v := 0) hx hb dX12_readName_138 (by decide) ?_
                      refine vp_callSi (W.runV (As := [.int 2, .int 116, .int 111, .int 0, .int 0, .int 0, .int 0]) (rest := [.ref h]) ⟨hx, hb, hml, hown, ht⟩ (c_X12_isWord l dC dI h g ca (u2 (u2 (u2 (u2 (u2 iv 12 34 n319) 12 37 n320) 12 38 n321) 12 35 n313) 12 36 n314) lv (u2 (u2 (u2 fa 12 30 f19) 12 31 w308_a_12_31) 12 28 f316) la (IX_a (c := 12) (k := 28) (IX_a (c := 12) (k := 31) (IX_a (c := 12) (k := 30) (IX_i (c := 12) (k := 36) (IX_i (c := 12) (k := 35) (IX_i (c := 12) (k := 38) (IX_i (c := 12) (k := 37) (IX_i (c := 12) (k := 34) hI (show inb (0, 200) n319 from ⟨by omega, by omega⟩)) (show inb (0, 200) n320 from ⟨by omega, by omega⟩)) (show inb (0, 200) n321 from ⟨by omega, by omega⟩)) (show inb (0, 5) n313 from ⟨by omega, by omega⟩)) (full_i _)) hf19) hw308_a_12_31) hf316) 2 116 111 0 0 0 0 ⟨by decide, by decide⟩ (show (n320 : Int32).toInt + (n321 : Int32).toInt ≤ 200 from by omega)) (kV 7 ht m_1468 m_1470 m_49 m_89 m_1471 rfl rfl hd_X12_isWord_v ⟨Nat.le_of_ble_eq_true rfl, Nat.le_of_ble_eq_true rfl⟩) (vR hP hK (rM_12 hK hP)) rfl rfl hl.1 rfl (lv_room (Nat.le_of_ble_eq_true rfl)) dX12_readName_139 ⟨Nat.le_of_ble_eq_true rfl, Nat.le_of_ble_eq_true rfl⟩) (fun r322 hr322 => ?_)
                      obtain ⟨hr322, xr322_0⟩ := hr322
                      have : (2 : Int32).toInt = 2 := (by decide)
                      have xr322_0 : ((r322 : Int32).toInt = 0 ∨ (n321 : Int32).toInt = (2 : Int32).toInt) := xr322_0
                      refine lv_iconst (v := 1) hx hb dX12_readName_142 (by decide) ?_
                      refine lv_aload_n hx hb dX12_readName_143 rfl (lv_at hl 1 rfl) ?_
                      refine gM_12_37 hx hb ht hown hK hP m_1176 (v := n320) rfl dX12_readName_144 ?_
                      rcases (by omega : (r322 : Int32).toInt = 0 ∨ (r322 : Int32).toInt = 1) with q323 | q323
                      · obtain rfl : r322 = 0 := z_of (by decide) q323
                        have : (0 : Int32).toInt = 0 := by decide
                        have hFc := free_all hD hS hA
                        refine va_calli (va_runV (As := [.int 0, .int 1, .int n320]) (rest := []) ⟨hx, hb, hml, hown, ht⟩ (c_X12_want_0 l dC dI H.size h g ca (u2 (u2 (u2 (u2 (u2 iv 12 34 n319) 12 37 n320) 12 38 n321) 12 35 n313) 12 36 n314) lv (u2 (u2 (u2 fa 12 30 f19) 12 31 w308_a_12_31) 12 28 f316) la (IX_a (c := 12) (k := 28) (IX_a (c := 12) (k := 31) (IX_a (c := 12) (k := 30) (IX_i (c := 12) (k := 36) (IX_i (c := 12) (k := 35) (IX_i (c := 12) (k := 38) (IX_i (c := 12) (k := 37) (IX_i (c := 12) (k := 34) hI (show inb (0, 200) n319 from ⟨by omega, by omega⟩)) (show inb (0, 200) n320 from ⟨by omega, by omega⟩)) (show inb (0, 200) n321 from ⟨by omega, by omega⟩)) (show inb (0, 5) n313 from ⟨by omega, by omega⟩)) (full_i _)) hf19) hw308_a_12_31) hf316) 1 n320 ⟨by decide, by decide⟩) (kV 3 ht m_1472 m_1474 m_50 m_89 m_1475 rfl rfl hd_X12_want_v ⟨Nat.le_of_ble_eq_true rfl, Nat.le_of_ble_eq_true rfl⟩) (vW hP hK hD (rM_12 hK hP)) rfl rfl hl.1 rfl (lv_room (Nat.le_of_ble_eq_true rfl)) dX12_readName_147 ⟨Nat.le_of_ble_eq_true rfl, Nat.le_of_ble_eq_true rfl⟩) hS (fun q _ h => hFc q h) hFc (fun r324 u t H1 locs ht9 hvm hr324 hB hz1 hk1 hS => ?_)
                        obtain ⟨n325, n326, hn325, xr324_0, hr324, rfl⟩ := hr324
                        have hn325 : 0 ≤ n325.toInt ∧ n325.toInt ≤ 5 := hn325
                        obtain ⟨hP, hD⟩ := hB
                        rw [ht9] at hP
                        generalize H1 = H at hP hS ⊢
                        have hP : va_P (dC, dI) classes (WM h g ca (u2 (u2 (u2 (u2 (u2 iv 12 34 n319) 12 37 n320) 12 38 n321) 12 35 n325) 12 36 n326) lv (u2 (u2 (u2 fa 12 30 f19) 12 31 w308_a_12_31) 12 28 f316) la) H := hP
                        have hD : va_D A (WM h g ca (u2 (u2 (u2 (u2 (u2 iv 12 34 n319) 12 37 n320) 12 38 n321) 12 35 n325) 12 36 n326) lv (u2 (u2 (u2 fa 12 30 f19) 12 31 w308_a_12_31) 12 28 f316) la) := (show va_D _ (WM h g ca (u2 (u2 (u2 (u2 (u2 iv 12 34 n319) 12 37 n320) 12 38 n321) 12 35 n325) 12 36 n326) lv (u2 (u2 (u2 fa 12 30 f19) 12 31 w308_a_12_31) 12 28 f316) la) from hD).weaken (fun _ _ _ h => hFc _ h)
                        have xr324_0 : 1 ≤ (n325 : Int32).toInt := xr324_0
                        obtain rfl : 0 = r324 := hr324.symm
                        refine lv_if_eq (tgt := 174) hx hb dX12_readName_150 (by decide) (fun c327 => ?_) (fun c327 => ?_)
                        · skip
                          have hP9 : va_P (dC, dI) classes (WM h g ca (u2 (u2 (u2 (u2 (u2 iv 12 34 n319) 12 35 n325) 12 36 n326) 12 37 n320) 12 38 n321) lv (u2 (u2 (u2 (u2 fa 12 28 f316) 12 29 (fa 12 29)) 12 30 f19) 12 31 w308_a_12_31) la) H := hP
                          have hD9 : va_D A (WM h g ca (u2 (u2 (u2 (u2 (u2 iv 12 34 n319) 12 35 n325) 12 36 n326) 12 37 n320) 12 38 n321) lv (u2 (u2 (u2 (u2 fa 12 28 f316) 12 29 (fa 12 29)) 12 30 f19) 12 31 w308_a_12_31) la) := hD
                          exact W.vret hx hb hr (fun t ht9 hW => ⟨⟨((u2 (u2 (u2 (u2 (u2 iv 12 34 n319) 12 35 n325) 12 36 n326) 12 37 n320) 12 38 n321), lv, (u2 (u2 (u2 (u2 fa 12 28 f316) 12 29 (fa 12 29)) 12 30 f19) 12 31 w308_a_12_31), la), rfl, ⟨f316, (fa 12 29), f19, w308_a_12_31, n319, n325, n326, n320, n321, hf19, (show inb (0, 200) n319 from ⟨by omega, by omega⟩), (show inb (0, 5) n325 from ⟨by omega, by omega⟩), (show inb (0, 200) n320 from ⟨by omega, by omega⟩), (show inb (0, 200) n321 from ⟨by omega, by omega⟩), (show (iv 12 34).toInt ≤ (n319 : Int32).toInt from by omega), (show ∀ j : Nat, j ≠ k.toNatClampNeg → f316 j = (fa 12 28) j from fun j hj => (by rw [ef316, upd_ne hj])), rfl⟩, by rw [ht9]; exact hP9, hD9⟩, hS.F ht9⟩) hS.2.2 dX12_readName_174
                        · exact absurd rfl c327
                      · obtain rfl : r322 = 1 := z_of (by decide) q323
                        have : (1 : Int32).toInt = 1 := by decide
                        refine vp_callSi (W.runV (As := [.int 1, .int 1, .int n320]) (rest := []) ⟨hx, hb, hml, hown, ht⟩ (c_X12_want_1 l dC dI h g ca (u2 (u2 (u2 (u2 (u2 iv 12 34 n319) 12 37 n320) 12 38 n321) 12 35 n313) 12 36 n314) lv (u2 (u2 (u2 fa 12 30 f19) 12 31 w308_a_12_31) 12 28 f316) la (IX_a (c := 12) (k := 28) (IX_a (c := 12) (k := 31) (IX_a (c := 12) (k := 30) (IX_i (c := 12) (k := 36) (IX_i (c := 12) (k := 35) (IX_i (c := 12) (k := 38) (IX_i (c := 12) (k := 37) (IX_i (c := 12) (k := 34) hI (show inb (0, 200) n319 from ⟨by omega, by omega⟩)) (show inb (0, 200) n320 from ⟨by omega, by omega⟩)) (show inb (0, 200) n321 from ⟨by omega, by omega⟩)) (show inb (0, 5) n313 from ⟨by omega, by omega⟩)) (full_i _)) hf19) hw308_a_12_31) hf316) 1 n320) (kV 3 ht m_1472 m_1474 m_50 m_89 m_1475 rfl rfl hd_X12_want_v ⟨Nat.le_of_ble_eq_true rfl, Nat.le_of_ble_eq_true rfl⟩) (vR hP hK (rM_12 hK hP)) rfl rfl hl.1 rfl (lv_room (Nat.le_of_ble_eq_true rfl)) dX12_readName_147 ⟨Nat.le_of_ble_eq_true rfl, Nat.le_of_ble_eq_true rfl⟩) (fun r328 hr328 => ?_)
                        rcases hr328 with ⟨rfl, fr328⟩ | ⟨rfl, fr328⟩
                        · skip
                          have fr328 : ((n313 : Int32).toInt = 0) := fr328
                          refine lv_if_eq (tgt := 174) hx hb dX12_readName_150 (by decide) (fun c329 => ?_) (fun c329 => ?_)
                          · exact absurd c329 (by decide)
                          · skip
                            refine lv_aload_n hx hb dX12_readName_153 rfl (lv_at hl 1 rfl) ?_
                            refine gM_12_29 hx hb ht hown hK hP m_1168 dX12_readName_154 ?_
                            refine lv_iload_n hx hb dX12_readName_157 rfl (lv_at hl 2 rfl) ?_
                            refine lv_aload_n hx hb dX12_readName_158 rfl (lv_at hl 1 rfl) ?_
                            refine lv_aload_n hx hb dX12_readName_159 rfl (lv_at hl 1 rfl) ?_
                            refine gM_12_28 hx hb ht hown hK hP m_1167 dX12_readName_160 ?_
                            refine lv_iload_n hx hb dX12_readName_163 rfl (lv_at hl 2 rfl) ?_
                            refine lM_12_28 hx hb hK hP (f := f316) rfl (vp_in_iff.mpr ⟨by omega, by omega⟩) dX12_readName_164 ?_
                            refine lv_topi (fun v330 ev330 => ?_)
                            refine lv_iconst (v := 1) hx hb dX12_readName_165 (by decide) ?_
                            refine lv_iadd hx hb dX12_readName_166 ?_
                            refine lv_topi (fun v331 ev331 => ?_)
                            refine lv_sipush (v := 9999) hx hb dX12_readName_167 (by decide) ?_
                            have hFc := free_all hD hS hA
                            refine va_calli (va_runV (As := [.int v331, .int 9999]) (rest := [.int k, .ref (g 12 29)]) ⟨hx, hb, hml, hown, ht⟩ (c_X12_takeNumber l dC dI H.size h g ca (u2 (u2 (u2 (u2 (u2 iv 12 34 n319) 12 37 n320) 12 38 n321) 12 35 n313) 12 36 n314) lv (u2 (u2 (u2 fa 12 30 f19) 12 31 w308_a_12_31) 12 28 f316) la (IX_a (c := 12) (k := 28) (IX_a (c := 12) (k := 31) (IX_a (c := 12) (k := 30) (IX_i (c := 12) (k := 36) (IX_i (c := 12) (k := 35) (IX_i (c := 12) (k := 38) (IX_i (c := 12) (k := 37) (IX_i (c := 12) (k := 34) hI (show inb (0, 200) n319 from ⟨by omega, by omega⟩)) (show inb (0, 200) n320 from ⟨by omega, by omega⟩)) (show inb (0, 200) n321 from ⟨by omega, by omega⟩)) (show inb (0, 5) n313 from ⟨by omega, by omega⟩)) (full_i _)) hf19) hw308_a_12_31) hf316) v331 9999) (kV 2 ht m_1490 m_1492 m_53 m_89 m_1493 rfl rfl hd_X12_takeNumber_v ⟨Nat.le_of_ble_eq_true rfl, Nat.le_of_ble_eq_true rfl⟩) (vW hP hK hD (rM_12 hK hP)) rfl rfl hl.1 rfl (lv_room (Nat.le_of_ble_eq_true rfl)) dX12_readName_170 ⟨Nat.le_of_ble_eq_true rfl, Nat.le_of_ble_eq_true rfl⟩) hS (fun q _ h => hFc q h) hFc (fun r332 u t H1 locs ht9 hvm hr332 hB hz1 hk1 hS => ?_)
                            obtain ⟨n333, n334, n335, n336, hn333, hn334, hn336, xr332_0, xr332_1, hr332, rfl⟩ := hr332
                            have hn333 : 0 ≤ n333.toInt ∧ n333.toInt ≤ 200 := hn333
                            have hn334 : 0 ≤ n334.toInt ∧ n334.toInt ≤ 5 := hn334
                            have hn336 : 0 ≤ n336.toInt ∧ n336.toInt ≤ 200 := hn336
                            obtain ⟨hP, hD⟩ := hB
                            rw [ht9] at hP
                            generalize H1 = H at hP hS ⊢
                            have hP : va_P (dC, dI) classes (WM h g ca (u2 (u2 (u2 (u2 (u2 iv 12 34 n333) 12 37 n336) 12 38 n321) 12 35 n334) 12 36 n335) lv (u2 (u2 (u2 fa 12 30 f19) 12 31 w308_a_12_31) 12 28 f316) la) H := hP
                            have hD : va_D A (WM h g ca (u2 (u2 (u2 (u2 (u2 iv 12 34 n333) 12 37 n336) 12 38 n321) 12 35 n334) 12 36 n335) lv (u2 (u2 (u2 fa 12 30 f19) 12 31 w308_a_12_31) 12 28 f316) la) := (show va_D _ (WM h g ca (u2 (u2 (u2 (u2 (u2 iv 12 34 n333) 12 37 n336) 12 38 n321) 12 35 n334) 12 36 n335) lv (u2 (u2 (u2 fa 12 30 f19) 12 31 w308_a_12_31) 12 28 f316) la) from hD).weaken (fun _ _ _ h => hFc _ h)
                            have xr332_0 : (n319 : Int32).toInt ≤ (n333 : Int32).toInt := xr332_0
                            have xr332_1 : ((n334 : Int32).toInt ≠ 0 ∨ ((v331 : Int32).toInt ≤ (r332 : Int32).toInt ∧ (r332 : Int32).toInt ≤ (9999 : Int32).toInt)) := xr332_1
                            refine tM_12_29 hx hb hK hP hD hS (f0 := (fa 12 29)) rfl (i := k) (x := r332) (vp_in_iff.mpr ⟨by omega, by omega⟩) dX12_readName_173 (fun f337 ef337 H locs hP hD hS => ?_)
                            have hf337 : ∀ j, inb (bA 12 29 j) (f337 j) := fun j => full_i _
                            have hP9 : va_P (dC, dI) classes (WM h g ca (u2 (u2 (u2 (u2 (u2 iv 12 34 n333) 12 35 n334) 12 36 n335) 12 37 n336) 12 38 n321) lv (u2 (u2 (u2 (u2 fa 12 28 f316) 12 29 f337) 12 30 f19) 12 31 w308_a_12_31) la) H := hP
                            have hD9 : va_D A (WM h g ca (u2 (u2 (u2 (u2 (u2 iv 12 34 n333) 12 35 n334) 12 36 n335) 12 37 n336) 12 38 n321) lv (u2 (u2 (u2 (u2 fa 12 28 f316) 12 29 f337) 12 30 f19) 12 31 w308_a_12_31) la) := hD
                            exact W.vret hx hb hr (fun t ht9 hW => ⟨⟨((u2 (u2 (u2 (u2 (u2 iv 12 34 n333) 12 35 n334) 12 36 n335) 12 37 n336) 12 38 n321), lv, (u2 (u2 (u2 (u2 fa 12 28 f316) 12 29 f337) 12 30 f19) 12 31 w308_a_12_31), la), rfl, ⟨f316, f337, f19, w308_a_12_31, n333, n334, n335, n336, n321, hf19, (show inb (0, 200) n333 from ⟨by omega, by omega⟩), (show inb (0, 5) n334 from ⟨by omega, by omega⟩), (show inb (0, 200) n336 from ⟨by omega, by omega⟩), (show inb (0, 200) n321 from ⟨by omega, by omega⟩), (show (iv 12 34).toInt ≤ (n333 : Int32).toInt from by omega), (show ∀ j : Nat, j ≠ k.toNatClampNeg → f316 j = (fa 12 28) j from fun j hj => (by rw [ef316, upd_ne hj])), rfl⟩, by rw [ht9]; exact hP9, hD9⟩, hS.F ht9⟩) hS.2.2 dX12_readName_174
                        · skip
                          have fr328 : ¬ ((n313 : Int32).toInt = 0) := fr328
                          exfalso; omega
                  · have fc310 := z_nle (rfl : (n4).toInt = _) (rfl : (x308_2).toInt = _) c310
                    refine lv_aload_n hx hb dX12_readName_75 rfl (lv_at hl 1 rfl) ?_
                    refine gM_12_31 hx hb ht hown hK hP m_1170 dX12_readName_76 ?_
                    refine lv_bipush (v := 8) hx hb dX12_readName_79 (by decide) ?_
                    refine lv_iload_n hx hb dX12_readName_81 rfl (lv_at hl 2 rfl) ?_
                    refine lv_imul hx hb dX12_readName_82 ?_
                    refine lv_topi (fun v338 ev338 => ?_)
                    have tv338 := z_mul ev338 (by decide : (8 : Int32).toInt = 8) (rfl : (k).toInt = _) (by omega) (by omega)
                    refine lv_iload_n hx hb dX12_readName_83 rfl (lv_at hl 0 rfl) ?_
                    refine lv_iadd hx hb dX12_readName_84 ?_
                    refine lv_topi (fun v339 ev339 => ?_)
                    have tv339 := z_add ev339 (rfl : (v338).toInt = _) (rfl : (x308_2).toInt = _) (by omega) (by omega)
                    refine lv_aload_n hx hb dX12_readName_85 rfl (lv_at hl 1 rfl) ?_
                    refine gM_12_32 hx hb ht hown hK hP m_1171 dX12_readName_86 ?_
                    refine lv_aload_n hx hb dX12_readName_89 rfl (lv_at hl 1 rfl) ?_
                    refine gM_12_37 hx hb ht hown hK hP m_1176 (v := n3) rfl dX12_readName_90 ?_
                    refine lv_iload_n hx hb dX12_readName_93 rfl (lv_at hl 0 rfl) ?_
                    refine lv_iadd hx hb dX12_readName_94 ?_
                    refine lv_topi (fun v340 ev340 => ?_)
                    have tv340 := z_add ev340 (rfl : (n3).toInt = _) (rfl : (x308_2).toInt = _) (by omega) (by omega)
                    have : 0 ≤ (v340 : Int32).toInt ∧ (v340 : Int32).toInt ≤ 199 := ⟨by omega, by omega⟩
                    refine lM_12_32 hx hb hK hP (f := (fa 12 32)) rfl (vp_in_iff.mpr ⟨by omega, by omega⟩) dX12_readName_95 ?_
                    refine lv_topi (fun v341 ev341 => ?_)
                    refine tM_12_31 hx hb hK hP hD hS (f0 := w308_a_12_31) rfl (i := v339) (x := v341) (vp_in_iff.mpr ⟨by omega, by omega⟩) dX12_readName_96 (fun f342 ef342 H locs hP hD hS => ?_)
                    have hf342 : ∀ j, inb (bA 12 31 j) (f342 j) := fun j => full_i _
                    have hP : va_P (dC, dI) classes (WM h g ca (u2 (u2 (u2 iv 12 34 n2) 12 37 n3) 12 38 n4) lv (u2 (u2 fa 12 30 f19) 12 31 f342) la) H := hP
                    have hD : va_D A (WM h g ca (u2 (u2 (u2 iv 12 34 n2) 12 37 n3) 12 38 n4) lv (u2 (u2 fa 12 30 f19) 12 31 f342) la) := hD
                    obtain ⟨v343, ev343⟩ : ∃ y : Int32, y = x308_2 + 1 := ⟨_, rfl⟩
                    have tv343 := z_add ev343 rfl (by decide : (1 : Int32).toInt = 1) (by omega) (by omega)
                    refine lv_iinc (v := v343) (lv' := [(2, .int v343), (0, .ref h), (1, .int k)]) hx hb dX12_readName_97 hl (k := 0) rfl (by rw [ev343]; rfl) (by decide) rfl (fun ls hl => ?_)
                    refine lv_goto (tgt := 67) hx hb dX12_readName_100 (by decide) ?_
                    exact ih309 v343 f342 ⟨by omega, by omega⟩ hf342 (by omega) _ _ ls hP hD hS (lv_sub hl [0, 1, 2] rfl)
              exact lp309 9 0 (fa 12 31) ⟨by decide, by decide⟩ (hI.2 12 31) (by first | decide | omega) _ _ ls hP hD hS (lv_sub hl [0, 1, 2] rfl)
            · exact absurd c18 (by decide)
          · skip
            have fr17 : ¬ (((iv 12 35) : Int32).toInt = 0) := fr17
            exfalso; omega
    · skip
      have fr10 : ¬ (((iv 12 35) : Int32).toInt = 0) := fr10
      refine lv_if_eq (tgt := 54) hx hb dX12_readName_25 (by decide) (fun c344 => ?_) (fun c344 => ?_)
      · skip
        have hP9 : va_P (dC, dI) classes (WM h g ca (u2 (u2 (u2 (u2 (u2 iv 12 34 n2) 12 35 (iv 12 35)) 12 36 (iv 12 36)) 12 37 n3) 12 38 n4) lv (u2 (u2 (u2 (u2 fa 12 28 (fa 12 28)) 12 29 (fa 12 29)) 12 30 (fa 12 30)) 12 31 (fa 12 31)) la) H := hP
        have hD9 : va_D A (WM h g ca (u2 (u2 (u2 (u2 (u2 iv 12 34 n2) 12 35 (iv 12 35)) 12 36 (iv 12 36)) 12 37 n3) 12 38 n4) lv (u2 (u2 (u2 (u2 fa 12 28 (fa 12 28)) 12 29 (fa 12 29)) 12 30 (fa 12 30)) 12 31 (fa 12 31)) la) := hD
        exact W.vret hx hb hr (fun t ht9 hW => ⟨⟨((u2 (u2 (u2 (u2 (u2 iv 12 34 n2) 12 35 (iv 12 35)) 12 36 (iv 12 36)) 12 37 n3) 12 38 n4), lv, (u2 (u2 (u2 (u2 fa 12 28 (fa 12 28)) 12 29 (fa 12 29)) 12 30 (fa 12 30)) 12 31 (fa 12 31)), la), rfl, ⟨(fa 12 28), (fa 12 29), (fa 12 30), (fa 12 31), n2, (iv 12 35), (iv 12 36), n3, n4, (hI.2 12 30), (show inb (0, 200) n2 from ⟨by omega, by omega⟩), (hI.1 12 35), (show inb (0, 200) n3 from ⟨by omega, by omega⟩), (show inb (0, 200) n4 from ⟨by omega, by omega⟩), (show (iv 12 34).toInt ≤ (n2 : Int32).toInt from by omega), (show ∀ j : Nat, j ≠ k.toNatClampNeg → (fa 12 28) j = (fa 12 28) j from fun j hj => rfl), rfl⟩, by rw [ht9]; exact hP9, hD9⟩, hS.F ht9⟩) hS.2.2 dX12_readName_54
      · exact absurd rfl c344
set_option maxHeartbeats 4000000 in
set_option maxRecDepth 100000 in
/-- X12_readClause -/
theorem c_X12_readClause_0 (l : Launch) (dC : Nat → ClassId) (dI : Nat → Nat → Nat) (sz : Nat) (h : Nat) (g : Nat → Nat → Nat) (ca : Nat → Nat → ClassId) (iv : Nat → Nat → Int32) (lv : Nat → Nat → Int64) (fa : Nat → Nat → Nat → Int32) (la : Nat → Nat → Nat → Int64) (hI : IX iv fa) (k : Int32) (h_k : 0 ≤ k.toInt ∧ k.toInt ≤ 95) : Met l yX12_readClause (wc yX12_readClause cX12_readClause 4 none) ({ frames := 2, cells := 0, slots := 0, locals := 50 } : Room) (pW (dC, dI) classes (WM h g ca iv lv fa la) (TM ca) sz [.ref h, .int 0, .int k]) (va_Qv (fun (u : SS) => ∃ (na_12_26 : Nat → Int32) (na_12_27 : Nat → Int32) (na_12_28 : Nat → Int32) (na_12_30 : Nat → Int32) (ni_12_34 : Int32) (ni_12_35 : Int32) (ni_12_36 : Int32) (ni_12_37 : Int32) (ni_12_38 : Int32), (∀ j, inb (bA 12 30 j) (na_12_30 j)) ∧ inb (bI 12 34) ni_12_34 ∧ inb (bI 12 35) ni_12_35 ∧ inb (bI 12 37) ni_12_37 ∧ inb (bI 12 38) ni_12_38 ∧ ((iv 12 34).toInt ≤ (ni_12_34).toInt) ∧ (∀ j : Nat, j ≠ k.toNatClampNeg → na_12_26 j = (fa 12 26) j ∧ na_12_27 j = (fa 12 27) j ∧ na_12_28 j = (fa 12 28) j) ∧ (((ni_12_35).toInt ≠ 0 ∨ gd3 (na_12_26 k.toNatClampNeg) (na_12_27 k.toNatClampNeg) (na_12_28 k.toNatClampNeg))) ∧ u = ((u2 (u2 (u2 (u2 (u2 iv 12 34 ni_12_34) 12 35 ni_12_35) 12 36 ni_12_36) 12 37 ni_12_37) 12 38 ni_12_38), lv, (u2 (u2 (u2 (u2 fa 12 26 na_12_26) 12 27 na_12_27) 12 28 na_12_28) 12 30 na_12_30), la)) (bM (dC, dI) h g ca (va_A (WM h g ca iv lv fa la) sz)) (va_A (WM h g ca iv lv fa la) sz)) 0 0 (va_A (WM h g ca iv lv fa la) sz) := by
  refine Met.ofW (cc := cX12_readClause) (maxL := 4) (ret := none) (by decide) rfl ?_
  intro p e s m args below meth c s₁ B hml hv
  obtain ⟨rfl, hsz, hP, hK, hD0⟩ := hv
  have hx := B.exec
  have hb := B.bytes
  have hr := B.returns
  have ht := tb_tl (atoms_spec (ws := wc yX12_readClause cX12_readClause 4 none) B.pre)
  have hown : s.vm.findClass RX12 = some m.cls := findClass_of_methodNamed B.named
  have hlocks := B.notSynchronized
  subst hsz
  have hD := hD0.self (sz := s.heap.size)
  generalize hAe : va_A (WM h g ca iv lv fa la) s.heap.size = A at hD ⊢
  have hA : ∀ q : Nat, s.heap.size ≤ q → A q := fun q h => by rw [← hAe]; exact Or.inr h
  have hS : va_S A s.heap s.heap [] := va_S.rf
  have hl := lv_entry [.ref h, .int 0, .int k] (n := 4) (Nat.le_of_ble_eq_true rfl)
  rw [lg_entry_eq]
  generalize (lg_sl [.ref h, .int 0, .int k] ++ List.replicate (4 - (lg_sl [.ref h, .int 0, .int k]).length) Slot.unset).toArray = ls at hl ⊢
  have hl : lv_has ls 4 [(0, .ref h), (1, .int 0), (2, .int k)] := hl
  refine lv_aload_n hx hb dX12_readClause_0 rfl (lv_at hl 0 rfl) ?_
  refine gM_12_26 hx hb ht hown hK hP m_1165 dX12_readClause_1 ?_
  refine lv_iload_n hx hb dX12_readClause_4 rfl (lv_at hl 2 rfl) ?_
  refine lv_iload_n hx hb dX12_readClause_5 rfl (lv_at hl 1 rfl) ?_
  refine tM_12_26 hx hb hK hP hD hS (f0 := (fa 12 26)) rfl (i := k) (x := 0) (vp_in_iff.mpr ⟨by omega, by omega⟩) dX12_readClause_6 (fun f1 ef1 H locs hP hD hS => ?_)
  have hf1 : ∀ j, inb (bA 12 26 j) (f1 j) := fun j => full_i _
  refine lv_aload_n hx hb dX12_readClause_7 rfl (lv_at hl 0 rfl) ?_
  refine gM_12_30 hx hb ht hown hK hP m_1169 dX12_readClause_8 ?_
  refine lv_iload_n hx hb dX12_readClause_11 rfl (lv_at hl 2 rfl) ?_
  refine lv_iconst (v := 0) hx hb dX12_readClause_12 (by decide) ?_
  refine tM_12_30 hx hb hK hP hD hS (f0 := (fa 12 30)) rfl (i := k) (x := 0) (vp_in_iff.mpr ⟨by omega, by omega⟩) dX12_readClause_13 (fun f2 ef2 H locs hP hD hS => ?_)
  have hf2 : ∀ j, inb (bA 12 30 j) (f2 j) := by rw [ef2]; exact upd_b (b := bA 12 30) (hI.2 12 30) (show inb (0, 8) 0 from ⟨by decide, by decide⟩)
  refine lv_iload_n hx hb dX12_readClause_14 rfl (lv_at hl 1 rfl) ?_
  refine lv_if_ne (tgt := 89) hx hb dX12_readClause_15 (by decide) (fun c3 => ?_) (fun c3 => ?_)
  · exact absurd rfl c3
  · skip
    refine lv_aload_n hx hb dX12_readClause_18 rfl (lv_at hl 0 rfl) ?_
    have i_12_34 : 0 ≤ (iv 12 34).toInt ∧ (iv 12 34).toInt ≤ 200 := hI.1 12 34
    have hFc := free_all hD hS hA
    refine va_callv (va_runV (As := []) (rest := []) ⟨hx, hb, hml, hown, ht⟩ (c_X12_takeWord l dC dI H.size h g ca iv lv (u2 (u2 fa 12 26 f1) 12 30 f2) la (IX_a (c := 12) (k := 30) (IX_a (c := 12) (k := 26) hI hf1) hf2)) (kV 0 ht m_1462 m_1464 m_48 m_89 m_1465 rfl rfl hd_X12_takeWord_v ⟨Nat.le_of_ble_eq_true rfl, Nat.le_of_ble_eq_true rfl⟩) (vW hP hK hD (rM_12 hK hP)) rfl rfl hl.1 rfl (lv_room (Nat.le_of_ble_eq_true rfl)) dX12_readClause_19 ⟨Nat.le_of_ble_eq_true rfl, Nat.le_of_ble_eq_true rfl⟩) hS (fun q _ h => hFc q h) hFc (fun u t H1 locs ht9 hvm hr4 hB hz1 hk1 hS => ?_)
    obtain ⟨n5, n6, n7, hn5, hn6, hn7, xr4_0, xr4_1, rfl⟩ := hr4
    have hn5 : 0 ≤ n5.toInt ∧ n5.toInt ≤ 200 := hn5
    have hn6 : 0 ≤ n6.toInt ∧ n6.toInt ≤ 200 := hn6
    have hn7 : 0 ≤ n7.toInt ∧ n7.toInt ≤ 200 := hn7
    obtain ⟨hP, hD⟩ := hB
    rw [ht9] at hP
    generalize H1 = H at hP hS ⊢
    have hP : va_P (dC, dI) classes (WM h g ca (u2 (u2 (u2 iv 12 34 n5) 12 37 n6) 12 38 n7) lv (u2 (u2 fa 12 26 f1) 12 30 f2) la) H := hP
    have hD : va_D A (WM h g ca (u2 (u2 (u2 iv 12 34 n5) 12 37 n6) 12 38 n7) lv (u2 (u2 fa 12 26 f1) 12 30 f2) la) := (show va_D _ (WM h g ca (u2 (u2 (u2 iv 12 34 n5) 12 37 n6) 12 38 n7) lv (u2 (u2 fa 12 26 f1) 12 30 f2) la) from hD).weaken (fun _ _ _ h => hFc _ h)
    have xr4_0 : ((iv 12 34) : Int32).toInt ≤ (n6 : Int32).toInt := xr4_0
    have xr4_1 : (n6 : Int32).toInt + (n7 : Int32).toInt = (n5 : Int32).toInt := xr4_1
    refine lv_aload_n hx hb dX12_readClause_22 rfl (lv_at hl 0 rfl) ?_
    refine gM_12_27 hx hb ht hown hK hP m_1166 dX12_readClause_23 ?_
    refine lv_iload_n hx hb dX12_readClause_26 rfl (lv_at hl 2 rfl) ?_
    refine lv_aload_n hx hb dX12_readClause_27 rfl (lv_at hl 0 rfl) ?_
    refine vp_callSi (W.runV (As := []) (rest := [.int k, .ref (g 12 27)]) ⟨hx, hb, hml, hown, ht⟩ (c_X12_letOf l dC dI h g ca (u2 (u2 (u2 iv 12 34 n5) 12 37 n6) 12 38 n7) lv (u2 (u2 fa 12 26 f1) 12 30 f2) la (IX_a (c := 12) (k := 30) (IX_a (c := 12) (k := 26) (IX_i (c := 12) (k := 38) (IX_i (c := 12) (k := 37) (IX_i (c := 12) (k := 34) hI (show inb (0, 200) n5 from ⟨by omega, by omega⟩)) (show inb (0, 200) n6 from ⟨by omega, by omega⟩)) (show inb (0, 200) n7 from ⟨by omega, by omega⟩)) hf1) hf2) (show (n6 : Int32).toInt + (n7 : Int32).toInt ≤ 200 from by omega)) (kV 0 ht m_1480 m_1482 m_52 m_89 m_1483 rfl rfl hd_X12_letOf_v ⟨Nat.le_of_ble_eq_true rfl, Nat.le_of_ble_eq_true rfl⟩) (vR hP hK (rM_12 hK hP)) rfl rfl hl.1 rfl (lv_room (Nat.le_of_ble_eq_true rfl)) dX12_readClause_28 ⟨Nat.le_of_ble_eq_true rfl, Nat.le_of_ble_eq_true rfl⟩) (fun r8 hr8 => ?_)
    refine tM_12_27 hx hb hK hP hD hS (f0 := (fa 12 27)) rfl (i := k) (x := r8) (vp_in_iff.mpr ⟨by omega, by omega⟩) dX12_readClause_31 (fun f9 ef9 H locs hP hD hS => ?_)
    have hf9 : ∀ j, inb (bA 12 27 j) (f9 j) := fun j => full_i _
    refine lv_aload_n hx hb dX12_readClause_32 rfl (lv_at hl 0 rfl) ?_
    refine lv_aload_n hx hb dX12_readClause_33 rfl (lv_at hl 0 rfl) ?_
    refine gM_12_27 hx hb ht hown hK hP m_1166 dX12_readClause_34 ?_
    refine lv_iload_n hx hb dX12_readClause_37 rfl (lv_at hl 2 rfl) ?_
    refine lM_12_27 hx hb hK hP (f := f9) rfl (vp_in_iff.mpr ⟨by omega, by omega⟩) dX12_readClause_38 ?_
    refine lv_topi (fun v10 ev10 => ?_)
    refine lv_if_lt (tgt := 46) hx hb dX12_readClause_39 (by decide) (fun c11 => ?_) (fun c11 => ?_)
    · have fc11 := z_lt (rfl : (v10).toInt = _) (by decide : (0 : Int32).toInt = 0) c11
      refine lv_iconst (v := 0) hx hb dX12_readClause_46 (by decide) ?_
      refine lv_iconst (v := 1) hx hb dX12_readClause_47 (by decide) ?_
      refine lv_aload_n hx hb dX12_readClause_48 rfl (lv_at hl 0 rfl) ?_
      refine gM_12_37 hx hb ht hown hK hP m_1176 (v := n6) rfl dX12_readClause_49 ?_
      have hFc := free_all hD hS hA
      refine va_calli (va_runV (As := [.int 0, .int 1, .int n6]) (rest := []) ⟨hx, hb, hml, hown, ht⟩ (c_X12_want_0 l dC dI H.size h g ca (u2 (u2 (u2 iv 12 34 n5) 12 37 n6) 12 38 n7) lv (u2 (u2 (u2 fa 12 26 f1) 12 30 f2) 12 27 f9) la (IX_a (c := 12) (k := 27) (IX_a (c := 12) (k := 30) (IX_a (c := 12) (k := 26) (IX_i (c := 12) (k := 38) (IX_i (c := 12) (k := 37) (IX_i (c := 12) (k := 34) hI (show inb (0, 200) n5 from ⟨by omega, by omega⟩)) (show inb (0, 200) n6 from ⟨by omega, by omega⟩)) (show inb (0, 200) n7 from ⟨by omega, by omega⟩)) hf1) hf2) hf9) 1 n6 ⟨by decide, by decide⟩) (kV 3 ht m_1472 m_1474 m_50 m_89 m_1475 rfl rfl hd_X12_want_v ⟨Nat.le_of_ble_eq_true rfl, Nat.le_of_ble_eq_true rfl⟩) (vW hP hK hD (rM_12 hK hP)) rfl rfl hl.1 rfl (lv_room (Nat.le_of_ble_eq_true rfl)) dX12_readClause_52 ⟨Nat.le_of_ble_eq_true rfl, Nat.le_of_ble_eq_true rfl⟩) hS (fun q _ h => hFc q h) hFc (fun r12 u t H1 locs ht9 hvm hr12 hB hz1 hk1 hS => ?_)
      obtain ⟨n13, n14, hn13, xr12_0, hr12, rfl⟩ := hr12
      have hn13 : 0 ≤ n13.toInt ∧ n13.toInt ≤ 5 := hn13
      obtain ⟨hP, hD⟩ := hB
      rw [ht9] at hP
      generalize H1 = H at hP hS ⊢
      have hP : va_P (dC, dI) classes (WM h g ca (u2 (u2 (u2 (u2 (u2 iv 12 34 n5) 12 37 n6) 12 38 n7) 12 35 n13) 12 36 n14) lv (u2 (u2 (u2 fa 12 26 f1) 12 30 f2) 12 27 f9) la) H := hP
      have hD : va_D A (WM h g ca (u2 (u2 (u2 (u2 (u2 iv 12 34 n5) 12 37 n6) 12 38 n7) 12 35 n13) 12 36 n14) lv (u2 (u2 (u2 fa 12 26 f1) 12 30 f2) 12 27 f9) la) := (show va_D _ (WM h g ca (u2 (u2 (u2 (u2 (u2 iv 12 34 n5) 12 37 n6) 12 38 n7) 12 35 n13) 12 36 n14) lv (u2 (u2 (u2 fa 12 26 f1) 12 30 f2) 12 27 f9) la) from hD).weaken (fun _ _ _ h => hFc _ h)
      have xr12_0 : 1 ≤ (n13 : Int32).toInt := xr12_0
      obtain rfl : 0 = r12 := hr12.symm
      refine lv_if_eq (tgt := 257) hx hb dX12_readClause_55 (by decide) (fun c15 => ?_) (fun c15 => ?_)
      · skip
        refine lv_aload_n hx hb dX12_readClause_257 rfl (lv_at hl 0 rfl) ?_
        have hFc := free_all hD hS hA
        refine va_calli (va_runV (As := []) (rest := []) ⟨hx, hb, hml, hown, ht⟩ (c_X12_here_x l dC dI H.size h g ca (u2 (u2 (u2 (u2 (u2 iv 12 34 n5) 12 37 n6) 12 38 n7) 12 35 n13) 12 36 n14) lv (u2 (u2 (u2 fa 12 26 f1) 12 30 f2) 12 27 f9) la (IX_a (c := 12) (k := 27) (IX_a (c := 12) (k := 30) (IX_a (c := 12) (k := 26) (IX_i (c := 12) (k := 36) (IX_i (c := 12) (k := 35) (IX_i (c := 12) (k := 38) (IX_i (c := 12) (k := 37) (IX_i (c := 12) (k := 34) hI (show inb (0, 200) n5 from ⟨by omega, by omega⟩)) (show inb (0, 200) n6 from ⟨by omega, by omega⟩)) (show inb (0, 200) n7 from ⟨by omega, by omega⟩)) (show inb (0, 5) n13 from ⟨by omega, by omega⟩)) (full_i _)) hf1) hf2) hf9)) (kV 0 ht m_1458 m_1460 m_47 m_89 m_1461 rfl rfl hd_X12_here_v ⟨Nat.le_of_ble_eq_true rfl, Nat.le_of_ble_eq_true rfl⟩) (vW hP hK hD (rM_12 hK hP)) rfl rfl hl.1 rfl (lv_room (Nat.le_of_ble_eq_true rfl)) dX12_readClause_258 ⟨Nat.le_of_ble_eq_true rfl, Nat.le_of_ble_eq_true rfl⟩) hS (fun q _ h => hFc q h) hFc (fun r16 u t H1 locs ht9 hvm hr16 hB hz1 hk1 hS => ?_)
        obtain ⟨n17, hn17, xr16_0, xr16_1, hr16, rfl⟩ := hr16
        have hn17 : 0 ≤ n17.toInt ∧ n17.toInt ≤ 200 := hn17
        obtain ⟨hP, hD⟩ := hB
        rw [ht9] at hP
        generalize H1 = H at hP hS ⊢
        have hP : va_P (dC, dI) classes (WM h g ca (u2 (u2 (u2 (u2 (u2 iv 12 34 n17) 12 37 n6) 12 38 n7) 12 35 n13) 12 36 n14) lv (u2 (u2 (u2 fa 12 26 f1) 12 30 f2) 12 27 f9) la) H := hP
        have hD : va_D A (WM h g ca (u2 (u2 (u2 (u2 (u2 iv 12 34 n17) 12 37 n6) 12 38 n7) 12 35 n13) 12 36 n14) lv (u2 (u2 (u2 fa 12 26 f1) 12 30 f2) 12 27 f9) la) := (show va_D _ (WM h g ca (u2 (u2 (u2 (u2 (u2 iv 12 34 n17) 12 37 n6) 12 38 n7) 12 35 n13) 12 36 n14) lv (u2 (u2 (u2 fa 12 26 f1) 12 30 f2) 12 27 f9) la) from hD).weaken (fun _ _ _ h => hFc _ h)
        have xr16_0 : (n5 : Int32).toInt ≤ (n17 : Int32).toInt := xr16_0
        have i_12_33 : 0 ≤ (iv 12 33).toInt ∧ (iv 12 33).toInt ≤ 200 := hI.1 12 33
        have xr16_1 : ((r16 : Int32).toInt = -1 ∨ (n17 : Int32).toInt + 1 ≤ ((iv 12 33) : Int32).toInt) := xr16_1
        refine lv_istore_n (lv' := [(3, .int r16), (0, .ref h), (1, .int 0), (2, .int k)]) hx hb dX12_readClause_261 rfl hl (by decide) rfl (fun ls hl => ?_)
        refine lv_aload_n hx hb dX12_readClause_262 rfl (lv_at hl 1 rfl) ?_
        refine lv_iload_n hx hb dX12_readClause_263 rfl (lv_at hl 0 rfl) ?_
        refine lv_bipush (v := 59) hx hb dX12_readClause_264 (by decide) ?_
        refine lv_icmp_ne (tgt := 273) hx hb dX12_readClause_266 (by decide) (fun c18 => ?_) (fun c18 => ?_)
        · have fc18 := z_ne (rfl : (r16).toInt = _) (by decide : (59 : Int32).toInt = 59) c18
          refine lv_iconst (v := 0) hx hb dX12_readClause_273 (by decide) ?_
          refine lv_iconst (v := 1) hx hb dX12_readClause_274 (by decide) ?_
          refine lv_aload_n hx hb dX12_readClause_275 rfl (lv_at hl 1 rfl) ?_
          refine gM_12_34 hx hb ht hown hK hP m_1173 (v := n17) rfl dX12_readClause_276 ?_
          have hFc := free_all hD hS hA
          refine va_calli (va_runV (As := [.int 0, .int 1, .int n17]) (rest := []) ⟨hx, hb, hml, hown, ht⟩ (c_X12_want_0 l dC dI H.size h g ca (u2 (u2 (u2 (u2 (u2 iv 12 34 n17) 12 37 n6) 12 38 n7) 12 35 n13) 12 36 n14) lv (u2 (u2 (u2 fa 12 26 f1) 12 30 f2) 12 27 f9) la (IX_a (c := 12) (k := 27) (IX_a (c := 12) (k := 30) (IX_a (c := 12) (k := 26) (IX_i (c := 12) (k := 36) (IX_i (c := 12) (k := 35) (IX_i (c := 12) (k := 38) (IX_i (c := 12) (k := 37) (IX_i (c := 12) (k := 34) hI (show inb (0, 200) n17 from ⟨by omega, by omega⟩)) (show inb (0, 200) n6 from ⟨by omega, by omega⟩)) (show inb (0, 200) n7 from ⟨by omega, by omega⟩)) (show inb (0, 5) n13 from ⟨by omega, by omega⟩)) (full_i _)) hf1) hf2) hf9) 1 n17 ⟨by decide, by decide⟩) (kV 3 ht m_1472 m_1474 m_50 m_89 m_1475 rfl rfl hd_X12_want_v ⟨Nat.le_of_ble_eq_true rfl, Nat.le_of_ble_eq_true rfl⟩) (vW hP hK hD (rM_12 hK hP)) rfl rfl hl.1 rfl (lv_room (Nat.le_of_ble_eq_true rfl)) dX12_readClause_279 ⟨Nat.le_of_ble_eq_true rfl, Nat.le_of_ble_eq_true rfl⟩) hS (fun q _ h => hFc q h) hFc (fun r19 u t H1 locs ht9 hvm hr19 hB hz1 hk1 hS => ?_)
          obtain ⟨n20, n21, hn20, xr19_0, hr19, rfl⟩ := hr19
          have hn20 : 0 ≤ n20.toInt ∧ n20.toInt ≤ 5 := hn20
          obtain ⟨hP, hD⟩ := hB
          rw [ht9] at hP
          generalize H1 = H at hP hS ⊢
          have hP : va_P (dC, dI) classes (WM h g ca (u2 (u2 (u2 (u2 (u2 iv 12 34 n17) 12 37 n6) 12 38 n7) 12 35 n20) 12 36 n21) lv (u2 (u2 (u2 fa 12 26 f1) 12 30 f2) 12 27 f9) la) H := hP
          have hD : va_D A (WM h g ca (u2 (u2 (u2 (u2 (u2 iv 12 34 n17) 12 37 n6) 12 38 n7) 12 35 n20) 12 36 n21) lv (u2 (u2 (u2 fa 12 26 f1) 12 30 f2) 12 27 f9) la) := (show va_D _ (WM h g ca (u2 (u2 (u2 (u2 (u2 iv 12 34 n17) 12 37 n6) 12 38 n7) 12 35 n20) 12 36 n21) lv (u2 (u2 (u2 fa 12 26 f1) 12 30 f2) 12 27 f9) la) from hD).weaken (fun _ _ _ h => hFc _ h)
          have xr19_0 : 1 ≤ (n20 : Int32).toInt := xr19_0
          obtain rfl : 0 = r19 := hr19.symm
          refine lv_if_eq (tgt := 295) hx hb dX12_readClause_282 (by decide) (fun c22 => ?_) (fun c22 => ?_)
          · skip
            have hP9 : va_P (dC, dI) classes (WM h g ca (u2 (u2 (u2 (u2 (u2 iv 12 34 n17) 12 35 n20) 12 36 n21) 12 37 n6) 12 38 n7) lv (u2 (u2 (u2 (u2 fa 12 26 f1) 12 27 f9) 12 28 (fa 12 28)) 12 30 f2) la) H := hP
            have hD9 : va_D A (WM h g ca (u2 (u2 (u2 (u2 (u2 iv 12 34 n17) 12 35 n20) 12 36 n21) 12 37 n6) 12 38 n7) lv (u2 (u2 (u2 (u2 fa 12 26 f1) 12 27 f9) 12 28 (fa 12 28)) 12 30 f2) la) := hD
            exact W.vret hx hb hr (fun t ht9 hW => ⟨⟨((u2 (u2 (u2 (u2 (u2 iv 12 34 n17) 12 35 n20) 12 36 n21) 12 37 n6) 12 38 n7), lv, (u2 (u2 (u2 (u2 fa 12 26 f1) 12 27 f9) 12 28 (fa 12 28)) 12 30 f2), la), rfl, ⟨f1, f9, (fa 12 28), f2, n17, n20, n21, n6, n7, hf2, (show inb (0, 200) n17 from ⟨by omega, by omega⟩), (show inb (0, 5) n20 from ⟨by omega, by omega⟩), (show inb (0, 200) n6 from ⟨by omega, by omega⟩), (show inb (0, 200) n7 from ⟨by omega, by omega⟩), (show (iv 12 34).toInt ≤ (n17 : Int32).toInt from by omega), (show ∀ j : Nat, j ≠ k.toNatClampNeg → f1 j = (fa 12 26) j ∧ f9 j = (fa 12 27) j ∧ (fa 12 28) j = (fa 12 28) j from fun j hj => ⟨(by rw [ef1, upd_ne hj]), (by rw [ef9, upd_ne hj]), rfl⟩), (show ((n20 : Int32).toInt ≠ 0 ∨ gd3 (f1 k.toNatClampNeg) (f9 k.toNatClampNeg) ((fa 12 28) k.toNatClampNeg)) from (by
            have kc : (0 : Int32).toInt = 0 := by decide
            have kE : f1 k.toNatClampNeg = 0 := by rw [ef1]; exact upd_eq
            have nE : f9 k.toNatClampNeg = r8 := by rw [ef9]; exact upd_eq
            have := congrArg Int32.toInt (ev10.trans nE)
            by_cases h0 : (n20 : Int32).toInt = 0
            · refine Or.inr ?_; rw [kE, nE]; unfold gd3; exact ⟨fun h => by omega, fun h h2 => by omega⟩
            · exact Or.inl h0)), rfl⟩, by rw [ht9]; exact hP9, hD9⟩, hS.F ht9⟩) hS.2.2 dX12_readClause_295
          · exact absurd rfl c22
        · have fc18 := z_eq (rfl : (r16).toInt = _) (by decide : (59 : Int32).toInt = 59) c18
          refine lv_iconst (v := 1) hx hb dX12_readClause_269 (by decide) ?_
          refine lv_goto (tgt := 274) hx hb dX12_readClause_270 (by decide) ?_
          refine lv_iconst (v := 1) hx hb dX12_readClause_274 (by decide) ?_
          refine lv_aload_n hx hb dX12_readClause_275 rfl (lv_at hl 1 rfl) ?_
          refine gM_12_34 hx hb ht hown hK hP m_1173 (v := n17) rfl dX12_readClause_276 ?_
          refine vp_callSi (W.runV (As := [.int 1, .int 1, .int n17]) (rest := []) ⟨hx, hb, hml, hown, ht⟩ (c_X12_want_1 l dC dI h g ca (u2 (u2 (u2 (u2 (u2 iv 12 34 n17) 12 37 n6) 12 38 n7) 12 35 n13) 12 36 n14) lv (u2 (u2 (u2 fa 12 26 f1) 12 30 f2) 12 27 f9) la (IX_a (c := 12) (k := 27) (IX_a (c := 12) (k := 30) (IX_a (c := 12) (k := 26) (IX_i (c := 12) (k := 36) (IX_i (c := 12) (k := 35) (IX_i (c := 12) (k := 38) (IX_i (c := 12) (k := 37) (IX_i (c := 12) (k := 34) hI (show inb (0, 200) n17 from ⟨by omega, by omega⟩)) (show inb (0, 200) n6 from ⟨by omega, by omega⟩)) (show inb (0, 200) n7 from ⟨by omega, by omega⟩)) (show inb (0, 5) n13 from ⟨by omega, by omega⟩)) (full_i _)) hf1) hf2) hf9) 1 n17) (kV 3 ht m_1472 m_1474 m_50 m_89 m_1475 rfl rfl hd_X12_want_v ⟨Nat.le_of_ble_eq_true rfl, Nat.le_of_ble_eq_true rfl⟩) (vR hP hK (rM_12 hK hP)) rfl rfl hl.1 rfl (lv_room (Nat.le_of_ble_eq_true rfl)) dX12_readClause_279 ⟨Nat.le_of_ble_eq_true rfl, Nat.le_of_ble_eq_true rfl⟩) (fun r23 hr23 => ?_)
          rcases hr23 with ⟨rfl, fr23⟩ | ⟨rfl, fr23⟩
          · skip
            have fr23 : ((n13 : Int32).toInt = 0) := fr23
            refine lv_if_eq (tgt := 295) hx hb dX12_readClause_282 (by decide) (fun c24 => ?_) (fun c24 => ?_)
            · exact absurd c24 (by decide)
            · skip
              refine lv_aload_n hx hb dX12_readClause_285 rfl (lv_at hl 1 rfl) ?_
              refine lv_dup hx hb dX12_readClause_286 rfl ?_
              refine gM_12_34 hx hb ht hown hK hP m_1173 (v := n17) rfl dX12_readClause_287 ?_
              refine lv_iconst (v := 1) hx hb dX12_readClause_290 (by decide) ?_
              refine lv_iadd hx hb dX12_readClause_291 ?_
              refine lv_topi (fun v25 ev25 => ?_)
              have tv25 := z_add ev25 (rfl : (n17).toInt = _) (by decide : (1 : Int32).toInt = 1) (by omega) (by omega)
              have : 0 ≤ (v25 : Int32).toInt ∧ (v25 : Int32).toInt ≤ 200 := ⟨by omega, by omega⟩
              refine pM_12_34 (v := v25) hx hb ht hown hK hP hD hS m_1173 dX12_readClause_292 (fun H locs hP hD hS => ?_)
              have hP : va_P (dC, dI) classes (WM h g ca (u2 (u2 (u2 (u2 (u2 iv 12 34 v25) 12 37 n6) 12 38 n7) 12 35 n13) 12 36 n14) lv (u2 (u2 (u2 fa 12 26 f1) 12 30 f2) 12 27 f9) la) H := hP
              have hD : va_D A (WM h g ca (u2 (u2 (u2 (u2 (u2 iv 12 34 v25) 12 37 n6) 12 38 n7) 12 35 n13) 12 36 n14) lv (u2 (u2 (u2 fa 12 26 f1) 12 30 f2) 12 27 f9) la) := hD
              have hP9 : va_P (dC, dI) classes (WM h g ca (u2 (u2 (u2 (u2 (u2 iv 12 34 v25) 12 35 n13) 12 36 n14) 12 37 n6) 12 38 n7) lv (u2 (u2 (u2 (u2 fa 12 26 f1) 12 27 f9) 12 28 (fa 12 28)) 12 30 f2) la) H := hP
              have hD9 : va_D A (WM h g ca (u2 (u2 (u2 (u2 (u2 iv 12 34 v25) 12 35 n13) 12 36 n14) 12 37 n6) 12 38 n7) lv (u2 (u2 (u2 (u2 fa 12 26 f1) 12 27 f9) 12 28 (fa 12 28)) 12 30 f2) la) := hD
              exact W.vret hx hb hr (fun t ht9 hW => ⟨⟨((u2 (u2 (u2 (u2 (u2 iv 12 34 v25) 12 35 n13) 12 36 n14) 12 37 n6) 12 38 n7), lv, (u2 (u2 (u2 (u2 fa 12 26 f1) 12 27 f9) 12 28 (fa 12 28)) 12 30 f2), la), rfl, ⟨f1, f9, (fa 12 28), f2, v25, n13, n14, n6, n7, hf2, (show inb (0, 200) v25 from ⟨by omega, by omega⟩), (show inb (0, 5) n13 from ⟨by omega, by omega⟩), (show inb (0, 200) n6 from ⟨by omega, by omega⟩), (show inb (0, 200) n7 from ⟨by omega, by omega⟩), (show (iv 12 34).toInt ≤ (v25 : Int32).toInt from by omega), (show ∀ j : Nat, j ≠ k.toNatClampNeg → f1 j = (fa 12 26) j ∧ f9 j = (fa 12 27) j ∧ (fa 12 28) j = (fa 12 28) j from fun j hj => ⟨(by rw [ef1, upd_ne hj]), (by rw [ef9, upd_ne hj]), rfl⟩), (show ((n13 : Int32).toInt ≠ 0 ∨ gd3 (f1 k.toNatClampNeg) (f9 k.toNatClampNeg) ((fa 12 28) k.toNatClampNeg)) from (by
            have kc : (0 : Int32).toInt = 0 := by decide
            have kE : f1 k.toNatClampNeg = 0 := by rw [ef1]; exact upd_eq
            have nE : f9 k.toNatClampNeg = r8 := by rw [ef9]; exact upd_eq
            have := congrArg Int32.toInt (ev10.trans nE)
            by_cases h0 : (n13 : Int32).toInt = 0
            · refine Or.inr ?_; rw [kE, nE]; unfold gd3; exact ⟨fun h => by omega, fun h h2 => by omega⟩
            · exact Or.inl h0)), rfl⟩, by rw [ht9]; exact hP9, hD9⟩, hS.F ht9⟩) hS.2.2 dX12_readClause_295
          · skip
            have fr23 : ¬ ((n13 : Int32).toInt = 0) := fr23
            refine lv_if_eq (tgt := 295) hx hb dX12_readClause_282 (by decide) (fun c26 => ?_) (fun c26 => ?_)
            · skip
              have hP9 : va_P (dC, dI) classes (WM h g ca (u2 (u2 (u2 (u2 (u2 iv 12 34 n17) 12 35 n13) 12 36 n14) 12 37 n6) 12 38 n7) lv (u2 (u2 (u2 (u2 fa 12 26 f1) 12 27 f9) 12 28 (fa 12 28)) 12 30 f2) la) H := hP
              have hD9 : va_D A (WM h g ca (u2 (u2 (u2 (u2 (u2 iv 12 34 n17) 12 35 n13) 12 36 n14) 12 37 n6) 12 38 n7) lv (u2 (u2 (u2 (u2 fa 12 26 f1) 12 27 f9) 12 28 (fa 12 28)) 12 30 f2) la) := hD
              exact W.vret hx hb hr (fun t ht9 hW => ⟨⟨((u2 (u2 (u2 (u2 (u2 iv 12 34 n17) 12 35 n13) 12 36 n14) 12 37 n6) 12 38 n7), lv, (u2 (u2 (u2 (u2 fa 12 26 f1) 12 27 f9) 12 28 (fa 12 28)) 12 30 f2), la), rfl, ⟨f1, f9, (fa 12 28), f2, n17, n13, n14, n6, n7, hf2, (show inb (0, 200) n17 from ⟨by omega, by omega⟩), (show inb (0, 5) n13 from ⟨by omega, by omega⟩), (show inb (0, 200) n6 from ⟨by omega, by omega⟩), (show inb (0, 200) n7 from ⟨by omega, by omega⟩), (show (iv 12 34).toInt ≤ (n17 : Int32).toInt from by omega), (show ∀ j : Nat, j ≠ k.toNatClampNeg → f1 j = (fa 12 26) j ∧ f9 j = (fa 12 27) j ∧ (fa 12 28) j = (fa 12 28) j from fun j hj => ⟨(by rw [ef1, upd_ne hj]), (by rw [ef9, upd_ne hj]), rfl⟩), (show ((n13 : Int32).toInt ≠ 0 ∨ gd3 (f1 k.toNatClampNeg) (f9 k.toNatClampNeg) ((fa 12 28) k.toNatClampNeg)) from Or.inl (by omega)), rfl⟩, by rw [ht9]; exact hP9, hD9⟩, hS.F ht9⟩) hS.2.2 dX12_readClause_295
            · exact absurd rfl c26
      · exact absurd rfl c15
    · have fc11 := z_nlt (rfl : (v10).toInt = _) (by decide : (0 : Int32).toInt = 0) c11
      refine lv_iconst (v := 1) hx hb dX12_readClause_42 (by decide) ?_
      refine lv_goto (tgt := 47) hx hb dX12_readClause_43 (by decide) ?_
      refine lv_iconst (v := 1) hx hb dX12_readClause_47 (by decide) ?_
      refine lv_aload_n hx hb dX12_readClause_48 rfl (lv_at hl 0 rfl) ?_
      refine gM_12_37 hx hb ht hown hK hP m_1176 (v := n6) rfl dX12_readClause_49 ?_
      refine vp_callSi (W.runV (As := [.int 1, .int 1, .int n6]) (rest := []) ⟨hx, hb, hml, hown, ht⟩ (c_X12_want_1 l dC dI h g ca (u2 (u2 (u2 iv 12 34 n5) 12 37 n6) 12 38 n7) lv (u2 (u2 (u2 fa 12 26 f1) 12 30 f2) 12 27 f9) la (IX_a (c := 12) (k := 27) (IX_a (c := 12) (k := 30) (IX_a (c := 12) (k := 26) (IX_i (c := 12) (k := 38) (IX_i (c := 12) (k := 37) (IX_i (c := 12) (k := 34) hI (show inb (0, 200) n5 from ⟨by omega, by omega⟩)) (show inb (0, 200) n6 from ⟨by omega, by omega⟩)) (show inb (0, 200) n7 from ⟨by omega, by omega⟩)) hf1) hf2) hf9) 1 n6) (kV 3 ht m_1472 m_1474 m_50 m_89 m_1475 rfl rfl hd_X12_want_v ⟨Nat.le_of_ble_eq_true rfl, Nat.le_of_ble_eq_true rfl⟩) (vR hP hK (rM_12 hK hP)) rfl rfl hl.1 rfl (lv_room (Nat.le_of_ble_eq_true rfl)) dX12_readClause_52 ⟨Nat.le_of_ble_eq_true rfl, Nat.le_of_ble_eq_true rfl⟩) (fun r27 hr27 => ?_)
      rcases hr27 with ⟨rfl, fr27⟩ | ⟨rfl, fr27⟩
      have i_12_35 : 0 ≤ (iv 12 35).toInt ∧ (iv 12 35).toInt ≤ 5 := hI.1 12 35
      · skip
        have i_12_35 : 0 ≤ (iv 12 35).toInt ∧ (iv 12 35).toInt ≤ 5 := hI.1 12 35
        have fr27 : (((iv 12 35) : Int32).toInt = 0) := fr27
        refine lv_if_eq (tgt := 257) hx hb dX12_readClause_55 (by decide) (fun c28 => ?_) (fun c28 => ?_)
        · exact absurd c28 (by decide)
        · skip
          refine lv_aload_n hx hb dX12_readClause_58 rfl (lv_at hl 0 rfl) ?_
          refine gM_12_28 hx hb ht hown hK hP m_1167 dX12_readClause_59 ?_
          refine lv_iload_n hx hb dX12_readClause_62 rfl (lv_at hl 2 rfl) ?_
          refine lv_aload_n hx hb dX12_readClause_63 rfl (lv_at hl 0 rfl) ?_
          refine lv_aload_n hx hb dX12_readClause_64 rfl (lv_at hl 0 rfl) ?_
          refine gM_12_27 hx hb ht hown hK hP m_1166 dX12_readClause_65 ?_
          refine lv_iload_n hx hb dX12_readClause_68 rfl (lv_at hl 2 rfl) ?_
          refine lM_12_27 hx hb hK hP (f := f9) rfl (vp_in_iff.mpr ⟨by omega, by omega⟩) dX12_readClause_69 ?_
          refine lv_topi (fun v29 ev29 => ?_)
          obtain rfl : v10 = v29 := ev10.trans ev29.symm
          refine vp_callSi (W.runS (As := [.int v10]) (rest := [.ref h, .int k, .ref (g 12 28)]) ⟨hx, hb, hml, hown, ht⟩ (c_X12_leastOf_x l dC dI v10) (kS 1 ht m_1484 m_1485 m_89 m_1486 rfl rfl hd_X12_leastOf_v ⟨Nat.le_of_ble_eq_true rfl, Nat.le_of_ble_eq_true rfl⟩) (sR noP (hK.sub (tys' := []) [] rfl)) rfl rfl hl.1 rfl (lv_room (Nat.le_of_ble_eq_true rfl)) dX12_readClause_70 ⟨Nat.le_of_ble_eq_true rfl, Nat.le_of_ble_eq_true rfl⟩) (fun r30 hr30 => ?_)
          obtain ⟨hr30, xr30_0⟩ := hr30
          have xr30_0 : ((v10 : Int32).toInt ≠ 1 ∨ (r30 : Int32).toInt = 1) := xr30_0
          refine lv_aload_n hx hb dX12_readClause_73 rfl (lv_at hl 0 rfl) ?_
          refine gM_12_27 hx hb ht hown hK hP m_1166 dX12_readClause_74 ?_
          refine lv_iload_n hx hb dX12_readClause_77 rfl (lv_at hl 2 rfl) ?_
          refine lM_12_27 hx hb hK hP (f := f9) rfl (vp_in_iff.mpr ⟨by omega, by omega⟩) dX12_readClause_78 ?_
          refine lv_topi (fun v31 ev31 => ?_)
          obtain rfl : v10 = v31 := ev10.trans ev31.symm
          refine vp_callSi (W.runS (As := [.int v10]) (rest := [.int r30, .ref h, .int k, .ref (g 12 28)]) ⟨hx, hb, hml, hown, ht⟩ (c_X12_mostOf l dC dI v10) (kS 1 ht m_1487 m_1488 m_89 m_1489 rfl rfl hd_X12_mostOf_v ⟨Nat.le_of_ble_eq_true rfl, Nat.le_of_ble_eq_true rfl⟩) (sR noP (hK.sub (tys' := []) [] rfl)) rfl rfl hl.1 rfl (lv_room (Nat.le_of_ble_eq_true rfl)) dX12_readClause_79 ⟨Nat.le_of_ble_eq_true rfl, Nat.le_of_ble_eq_true rfl⟩) (fun r32 hr32 => ?_)
          have hFc := free_all hD hS hA
          refine va_calli (va_runV (As := [.int r30, .int r32]) (rest := [.int k, .ref (g 12 28)]) ⟨hx, hb, hml, hown, ht⟩ (c_X12_takeNumber l dC dI H.size h g ca (u2 (u2 (u2 iv 12 34 n5) 12 37 n6) 12 38 n7) lv (u2 (u2 (u2 fa 12 26 f1) 12 30 f2) 12 27 f9) la (IX_a (c := 12) (k := 27) (IX_a (c := 12) (k := 30) (IX_a (c := 12) (k := 26) (IX_i (c := 12) (k := 38) (IX_i (c := 12) (k := 37) (IX_i (c := 12) (k := 34) hI (show inb (0, 200) n5 from ⟨by omega, by omega⟩)) (show inb (0, 200) n6 from ⟨by omega, by omega⟩)) (show inb (0, 200) n7 from ⟨by omega, by omega⟩)) hf1) hf2) hf9) r30 r32) (kV 2 ht m_1490 m_1492 m_53 m_89 m_1493 rfl rfl hd_X12_takeNumber_v ⟨Nat.le_of_ble_eq_true rfl, Nat.le_of_ble_eq_true rfl⟩) (vW hP hK hD (rM_12 hK hP)) rfl rfl hl.1 rfl (lv_room (Nat.le_of_ble_eq_true rfl)) dX12_readClause_82 ⟨Nat.le_of_ble_eq_true rfl, Nat.le_of_ble_eq_true rfl⟩) hS (fun q _ h => hFc q h) hFc (fun r33 u t H1 locs ht9 hvm hr33 hB hz1 hk1 hS => ?_)
          obtain ⟨n34, n35, n36, n37, hn34, hn35, hn37, xr33_0, xr33_1, hr33, rfl⟩ := hr33
          have hn34 : 0 ≤ n34.toInt ∧ n34.toInt ≤ 200 := hn34
          have hn35 : 0 ≤ n35.toInt ∧ n35.toInt ≤ 5 := hn35
          have hn37 : 0 ≤ n37.toInt ∧ n37.toInt ≤ 200 := hn37
          obtain ⟨hP, hD⟩ := hB
          rw [ht9] at hP
          generalize H1 = H at hP hS ⊢
          have hP : va_P (dC, dI) classes (WM h g ca (u2 (u2 (u2 (u2 (u2 iv 12 34 n34) 12 37 n37) 12 38 n7) 12 35 n35) 12 36 n36) lv (u2 (u2 (u2 fa 12 26 f1) 12 30 f2) 12 27 f9) la) H := hP
          have hD : va_D A (WM h g ca (u2 (u2 (u2 (u2 (u2 iv 12 34 n34) 12 37 n37) 12 38 n7) 12 35 n35) 12 36 n36) lv (u2 (u2 (u2 fa 12 26 f1) 12 30 f2) 12 27 f9) la) := (show va_D _ (WM h g ca (u2 (u2 (u2 (u2 (u2 iv 12 34 n34) 12 37 n37) 12 38 n7) 12 35 n35) 12 36 n36) lv (u2 (u2 (u2 fa 12 26 f1) 12 30 f2) 12 27 f9) la) from hD).weaken (fun _ _ _ h => hFc _ h)
          have xr33_0 : (n5 : Int32).toInt ≤ (n34 : Int32).toInt := xr33_0
          have xr33_1 : ((n35 : Int32).toInt ≠ 0 ∨ ((r30 : Int32).toInt ≤ (r33 : Int32).toInt ∧ (r33 : Int32).toInt ≤ (r32 : Int32).toInt)) := xr33_1
          refine tM_12_28 hx hb hK hP hD hS (f0 := (fa 12 28)) rfl (i := k) (x := r33) (vp_in_iff.mpr ⟨by omega, by omega⟩) dX12_readClause_85 (fun f38 ef38 H locs hP hD hS => ?_)
          have hf38 : ∀ j, inb (bA 12 28 j) (f38 j) := fun j => full_i _
          refine lv_goto (tgt := 257) hx hb dX12_readClause_86 (by decide) ?_
          refine lv_aload_n hx hb dX12_readClause_257 rfl (lv_at hl 0 rfl) ?_
          have hFc := free_all hD hS hA
          refine va_calli (va_runV (As := []) (rest := []) ⟨hx, hb, hml, hown, ht⟩ (c_X12_here_x l dC dI H.size h g ca (u2 (u2 (u2 (u2 (u2 iv 12 34 n34) 12 37 n37) 12 38 n7) 12 35 n35) 12 36 n36) lv (u2 (u2 (u2 (u2 fa 12 26 f1) 12 30 f2) 12 27 f9) 12 28 f38) la (IX_a (c := 12) (k := 28) (IX_a (c := 12) (k := 27) (IX_a (c := 12) (k := 30) (IX_a (c := 12) (k := 26) (IX_i (c := 12) (k := 36) (IX_i (c := 12) (k := 35) (IX_i (c := 12) (k := 38) (IX_i (c := 12) (k := 37) (IX_i (c := 12) (k := 34) hI (show inb (0, 200) n34 from ⟨by omega, by omega⟩)) (show inb (0, 200) n37 from ⟨by omega, by omega⟩)) (show inb (0, 200) n7 from ⟨by omega, by omega⟩)) (show inb (0, 5) n35 from ⟨by omega, by omega⟩)) (full_i _)) hf1) hf2) hf9) hf38)) (kV 0 ht m_1458 m_1460 m_47 m_89 m_1461 rfl rfl hd_X12_here_v ⟨Nat.le_of_ble_eq_true rfl, Nat.le_of_ble_eq_true rfl⟩) (vW hP hK hD (rM_12 hK hP)) rfl rfl hl.1 rfl (lv_room (Nat.le_of_ble_eq_true rfl)) dX12_readClause_258 ⟨Nat.le_of_ble_eq_true rfl, Nat.le_of_ble_eq_true rfl⟩) hS (fun q _ h => hFc q h) hFc (fun r39 u t H1 locs ht9 hvm hr39 hB hz1 hk1 hS => ?_)
          obtain ⟨n40, hn40, xr39_0, xr39_1, hr39, rfl⟩ := hr39
          have hn40 : 0 ≤ n40.toInt ∧ n40.toInt ≤ 200 := hn40
          obtain ⟨hP, hD⟩ := hB
          rw [ht9] at hP
          generalize H1 = H at hP hS ⊢
          have hP : va_P (dC, dI) classes (WM h g ca (u2 (u2 (u2 (u2 (u2 iv 12 34 n40) 12 37 n37) 12 38 n7) 12 35 n35) 12 36 n36) lv (u2 (u2 (u2 (u2 fa 12 26 f1) 12 30 f2) 12 27 f9) 12 28 f38) la) H := hP
          have hD : va_D A (WM h g ca (u2 (u2 (u2 (u2 (u2 iv 12 34 n40) 12 37 n37) 12 38 n7) 12 35 n35) 12 36 n36) lv (u2 (u2 (u2 (u2 fa 12 26 f1) 12 30 f2) 12 27 f9) 12 28 f38) la) := (show va_D _ (WM h g ca (u2 (u2 (u2 (u2 (u2 iv 12 34 n40) 12 37 n37) 12 38 n7) 12 35 n35) 12 36 n36) lv (u2 (u2 (u2 (u2 fa 12 26 f1) 12 30 f2) 12 27 f9) 12 28 f38) la) from hD).weaken (fun _ _ _ h => hFc _ h)
          have xr39_0 : (n34 : Int32).toInt ≤ (n40 : Int32).toInt := xr39_0
          have i_12_33 : 0 ≤ (iv 12 33).toInt ∧ (iv 12 33).toInt ≤ 200 := hI.1 12 33
          have xr39_1 : ((r39 : Int32).toInt = -1 ∨ (n40 : Int32).toInt + 1 ≤ ((iv 12 33) : Int32).toInt) := xr39_1
          refine lv_istore_n (lv' := [(3, .int r39), (0, .ref h), (1, .int 0), (2, .int k)]) hx hb dX12_readClause_261 rfl hl (by decide) rfl (fun ls hl => ?_)
          refine lv_aload_n hx hb dX12_readClause_262 rfl (lv_at hl 1 rfl) ?_
          refine lv_iload_n hx hb dX12_readClause_263 rfl (lv_at hl 0 rfl) ?_
          refine lv_bipush (v := 59) hx hb dX12_readClause_264 (by decide) ?_
          refine lv_icmp_ne (tgt := 273) hx hb dX12_readClause_266 (by decide) (fun c41 => ?_) (fun c41 => ?_)
          · have fc41 := z_ne (rfl : (r39).toInt = _) (by decide : (59 : Int32).toInt = 59) c41
            refine lv_iconst (v := 0) hx hb dX12_readClause_273 (by decide) ?_
            refine lv_iconst (v := 1) hx hb dX12_readClause_274 (by decide) ?_
            refine lv_aload_n hx hb dX12_readClause_275 rfl (lv_at hl 1 rfl) ?_
            refine gM_12_34 hx hb ht hown hK hP m_1173 (v := n40) rfl dX12_readClause_276 ?_
            have hFc := free_all hD hS hA
            refine va_calli (va_runV (As := [.int 0, .int 1, .int n40]) (rest := []) ⟨hx, hb, hml, hown, ht⟩ (c_X12_want_0 l dC dI H.size h g ca (u2 (u2 (u2 (u2 (u2 iv 12 34 n40) 12 37 n37) 12 38 n7) 12 35 n35) 12 36 n36) lv (u2 (u2 (u2 (u2 fa 12 26 f1) 12 30 f2) 12 27 f9) 12 28 f38) la (IX_a (c := 12) (k := 28) (IX_a (c := 12) (k := 27) (IX_a (c := 12) (k := 30) (IX_a (c := 12) (k := 26) (IX_i (c := 12) (k := 36) (IX_i (c := 12) (k := 35) (IX_i (c := 12) (k := 38) (IX_i (c := 12) (k := 37) (IX_i (c := 12) (k := 34) hI (show inb (0, 200) n40 from ⟨by omega, by omega⟩)) (show inb (0, 200) n37 from ⟨by omega, by omega⟩)) (show inb (0, 200) n7 from ⟨by omega, by omega⟩)) (show inb (0, 5) n35 from ⟨by omega, by omega⟩)) (full_i _)) hf1) hf2) hf9) hf38) 1 n40 ⟨by decide, by decide⟩) (kV 3 ht m_1472 m_1474 m_50 m_89 m_1475 rfl rfl hd_X12_want_v ⟨Nat.le_of_ble_eq_true rfl, Nat.le_of_ble_eq_true rfl⟩) (vW hP hK hD (rM_12 hK hP)) rfl rfl hl.1 rfl (lv_room (Nat.le_of_ble_eq_true rfl)) dX12_readClause_279 ⟨Nat.le_of_ble_eq_true rfl, Nat.le_of_ble_eq_true rfl⟩) hS (fun q _ h => hFc q h) hFc (fun r42 u t H1 locs ht9 hvm hr42 hB hz1 hk1 hS => ?_)
            obtain ⟨n43, n44, hn43, xr42_0, hr42, rfl⟩ := hr42
            have hn43 : 0 ≤ n43.toInt ∧ n43.toInt ≤ 5 := hn43
            obtain ⟨hP, hD⟩ := hB
            rw [ht9] at hP
            generalize H1 = H at hP hS ⊢
            have hP : va_P (dC, dI) classes (WM h g ca (u2 (u2 (u2 (u2 (u2 iv 12 34 n40) 12 37 n37) 12 38 n7) 12 35 n43) 12 36 n44) lv (u2 (u2 (u2 (u2 fa 12 26 f1) 12 30 f2) 12 27 f9) 12 28 f38) la) H := hP
            have hD : va_D A (WM h g ca (u2 (u2 (u2 (u2 (u2 iv 12 34 n40) 12 37 n37) 12 38 n7) 12 35 n43) 12 36 n44) lv (u2 (u2 (u2 (u2 fa 12 26 f1) 12 30 f2) 12 27 f9) 12 28 f38) la) := (show va_D _ (WM h g ca (u2 (u2 (u2 (u2 (u2 iv 12 34 n40) 12 37 n37) 12 38 n7) 12 35 n43) 12 36 n44) lv (u2 (u2 (u2 (u2 fa 12 26 f1) 12 30 f2) 12 27 f9) 12 28 f38) la) from hD).weaken (fun _ _ _ h => hFc _ h)
            have xr42_0 : 1 ≤ (n43 : Int32).toInt := xr42_0
            obtain rfl : 0 = r42 := hr42.symm
            refine lv_if_eq (tgt := 295) hx hb dX12_readClause_282 (by decide) (fun c45 => ?_) (fun c45 => ?_)
            · skip
              have hP9 : va_P (dC, dI) classes (WM h g ca (u2 (u2 (u2 (u2 (u2 iv 12 34 n40) 12 35 n43) 12 36 n44) 12 37 n37) 12 38 n7) lv (u2 (u2 (u2 (u2 fa 12 26 f1) 12 27 f9) 12 28 f38) 12 30 f2) la) H := hP
              have hD9 : va_D A (WM h g ca (u2 (u2 (u2 (u2 (u2 iv 12 34 n40) 12 35 n43) 12 36 n44) 12 37 n37) 12 38 n7) lv (u2 (u2 (u2 (u2 fa 12 26 f1) 12 27 f9) 12 28 f38) 12 30 f2) la) := hD
              exact W.vret hx hb hr (fun t ht9 hW => ⟨⟨((u2 (u2 (u2 (u2 (u2 iv 12 34 n40) 12 35 n43) 12 36 n44) 12 37 n37) 12 38 n7), lv, (u2 (u2 (u2 (u2 fa 12 26 f1) 12 27 f9) 12 28 f38) 12 30 f2), la), rfl, ⟨f1, f9, f38, f2, n40, n43, n44, n37, n7, hf2, (show inb (0, 200) n40 from ⟨by omega, by omega⟩), (show inb (0, 5) n43 from ⟨by omega, by omega⟩), (show inb (0, 200) n37 from ⟨by omega, by omega⟩), (show inb (0, 200) n7 from ⟨by omega, by omega⟩), (show (iv 12 34).toInt ≤ (n40 : Int32).toInt from by omega), (show ∀ j : Nat, j ≠ k.toNatClampNeg → f1 j = (fa 12 26) j ∧ f9 j = (fa 12 27) j ∧ f38 j = (fa 12 28) j from fun j hj => ⟨(by rw [ef1, upd_ne hj]), (by rw [ef9, upd_ne hj]), (by rw [ef38, upd_ne hj])⟩), (show ((n43 : Int32).toInt ≠ 0 ∨ gd3 (f1 k.toNatClampNeg) (f9 k.toNatClampNeg) (f38 k.toNatClampNeg)) from (by
            have kc : (0 : Int32).toInt = 0 := by decide
            have kE : f1 k.toNatClampNeg = 0 := by rw [ef1]; exact upd_eq
            have nE : f9 k.toNatClampNeg = r8 := by rw [ef9]; exact upd_eq
            have fE : f38 k.toNatClampNeg = r33 := by rw [ef38]; exact upd_eq
            have := congrArg Int32.toInt (ev10.trans nE)
            by_cases h0 : (n43 : Int32).toInt = 0
            · refine Or.inr ?_; rw [kE, nE, fE]; unfold gd3; exact ⟨fun h => by omega, fun h h2 => by omega⟩
            · exact Or.inl h0)), rfl⟩, by rw [ht9]; exact hP9, hD9⟩, hS.F ht9⟩) hS.2.2 dX12_readClause_295
            · exact absurd rfl c45
          · have fc41 := z_eq (rfl : (r39).toInt = _) (by decide : (59 : Int32).toInt = 59) c41
            refine lv_iconst (v := 1) hx hb dX12_readClause_269 (by decide) ?_
            refine lv_goto (tgt := 274) hx hb dX12_readClause_270 (by decide) ?_
            refine lv_iconst (v := 1) hx hb dX12_readClause_274 (by decide) ?_
            refine lv_aload_n hx hb dX12_readClause_275 rfl (lv_at hl 1 rfl) ?_
            refine gM_12_34 hx hb ht hown hK hP m_1173 (v := n40) rfl dX12_readClause_276 ?_
            refine vp_callSi (W.runV (As := [.int 1, .int 1, .int n40]) (rest := []) ⟨hx, hb, hml, hown, ht⟩ (c_X12_want_1 l dC dI h g ca (u2 (u2 (u2 (u2 (u2 iv 12 34 n40) 12 37 n37) 12 38 n7) 12 35 n35) 12 36 n36) lv (u2 (u2 (u2 (u2 fa 12 26 f1) 12 30 f2) 12 27 f9) 12 28 f38) la (IX_a (c := 12) (k := 28) (IX_a (c := 12) (k := 27) (IX_a (c := 12) (k := 30) (IX_a (c := 12) (k := 26) (IX_i (c := 12) (k := 36) (IX_i (c := 12) (k := 35) (IX_i (c := 12) (k := 38) (IX_i (c := 12) (k := 37) (IX_i (c := 12) (k := 34) hI (show inb (0, 200) n40 from ⟨by omega, by omega⟩)) (show inb (0, 200) n37 from ⟨by omega, by omega⟩)) (show inb (0, 200) n7 from ⟨by omega, by omega⟩)) (show inb (0, 5) n35 from ⟨by omega, by omega⟩)) (full_i _)) hf1) hf2) hf9) hf38) 1 n40) (kV 3 ht m_1472 m_1474 m_50 m_89 m_1475 rfl rfl hd_X12_want_v ⟨Nat.le_of_ble_eq_true rfl, Nat.le_of_ble_eq_true rfl⟩) (vR hP hK (rM_12 hK hP)) rfl rfl hl.1 rfl (lv_room (Nat.le_of_ble_eq_true rfl)) dX12_readClause_279 ⟨Nat.le_of_ble_eq_true rfl, Nat.le_of_ble_eq_true rfl⟩) (fun r46 hr46 => ?_)
            rcases hr46 with ⟨rfl, fr46⟩ | ⟨rfl, fr46⟩
            · skip
              have fr46 : ((n35 : Int32).toInt = 0) := fr46
              refine lv_if_eq (tgt := 295) hx hb dX12_readClause_282 (by decide) (fun c47 => ?_) (fun c47 => ?_)
              · exact absurd c47 (by decide)
              · skip
                refine lv_aload_n hx hb dX12_readClause_285 rfl (lv_at hl 1 rfl) ?_
                refine lv_dup hx hb dX12_readClause_286 rfl ?_
                refine gM_12_34 hx hb ht hown hK hP m_1173 (v := n40) rfl dX12_readClause_287 ?_
                refine lv_iconst (v := 1) hx hb dX12_readClause_290 (by decide) ?_
                refine lv_iadd hx hb dX12_readClause_291 ?_
                refine lv_topi (fun v48 ev48 => ?_)
                have tv48 := z_add ev48 (rfl : (n40).toInt = _) (by decide : (1 : Int32).toInt = 1) (by omega) (by omega)
                have : 0 ≤ (v48 : Int32).toInt ∧ (v48 : Int32).toInt ≤ 200 := ⟨by omega, by omega⟩
                refine pM_12_34 (v := v48) hx hb ht hown hK hP hD hS m_1173 dX12_readClause_292 (fun H locs hP hD hS => ?_)
                have hP : va_P (dC, dI) classes (WM h g ca (u2 (u2 (u2 (u2 (u2 iv 12 34 v48) 12 37 n37) 12 38 n7) 12 35 n35) 12 36 n36) lv (u2 (u2 (u2 (u2 fa 12 26 f1) 12 30 f2) 12 27 f9) 12 28 f38) la) H := hP
                have hD : va_D A (WM h g ca (u2 (u2 (u2 (u2 (u2 iv 12 34 v48) 12 37 n37) 12 38 n7) 12 35 n35) 12 36 n36) lv (u2 (u2 (u2 (u2 fa 12 26 f1) 12 30 f2) 12 27 f9) 12 28 f38) la) := hD
                have hP9 : va_P (dC, dI) classes (WM h g ca (u2 (u2 (u2 (u2 (u2 iv 12 34 v48) 12 35 n35) 12 36 n36) 12 37 n37) 12 38 n7) lv (u2 (u2 (u2 (u2 fa 12 26 f1) 12 27 f9) 12 28 f38) 12 30 f2) la) H := hP
                have hD9 : va_D A (WM h g ca (u2 (u2 (u2 (u2 (u2 iv 12 34 v48) 12 35 n35) 12 36 n36) 12 37 n37) 12 38 n7) lv (u2 (u2 (u2 (u2 fa 12 26 f1) 12 27 f9) 12 28 f38) 12 30 f2) la) := hD
                exact W.vret hx hb hr (fun t ht9 hW => ⟨⟨((u2 (u2 (u2 (u2 (u2 iv 12 34 v48) 12 35 n35) 12 36 n36) 12 37 n37) 12 38 n7), lv, (u2 (u2 (u2 (u2 fa 12 26 f1) 12 27 f9) 12 28 f38) 12 30 f2), la), rfl, ⟨f1, f9, f38, f2, v48, n35, n36, n37, n7, hf2, (show inb (0, 200) v48 from ⟨by omega, by omega⟩), (show inb (0, 5) n35 from ⟨by omega, by omega⟩), (show inb (0, 200) n37 from ⟨by omega, by omega⟩), (show inb (0, 200) n7 from ⟨by omega, by omega⟩), (show (iv 12 34).toInt ≤ (v48 : Int32).toInt from by omega), (show ∀ j : Nat, j ≠ k.toNatClampNeg → f1 j = (fa 12 26) j ∧ f9 j = (fa 12 27) j ∧ f38 j = (fa 12 28) j from fun j hj => ⟨(by rw [ef1, upd_ne hj]), (by rw [ef9, upd_ne hj]), (by rw [ef38, upd_ne hj])⟩), (show ((n35 : Int32).toInt ≠ 0 ∨ gd3 (f1 k.toNatClampNeg) (f9 k.toNatClampNeg) (f38 k.toNatClampNeg)) from (by
            have kc : (0 : Int32).toInt = 0 := by decide
            have kE : f1 k.toNatClampNeg = 0 := by rw [ef1]; exact upd_eq
            have nE : f9 k.toNatClampNeg = r8 := by rw [ef9]; exact upd_eq
            have fE : f38 k.toNatClampNeg = r33 := by rw [ef38]; exact upd_eq
            have := congrArg Int32.toInt (ev10.trans nE)
            by_cases h0 : (n35 : Int32).toInt = 0
            · refine Or.inr ?_; rw [kE, nE, fE]; unfold gd3; exact ⟨fun h => by omega, fun h h2 => by omega⟩
            · exact Or.inl h0)), rfl⟩, by rw [ht9]; exact hP9, hD9⟩, hS.F ht9⟩) hS.2.2 dX12_readClause_295
            · skip
              have fr46 : ¬ ((n35 : Int32).toInt = 0) := fr46
              refine lv_if_eq (tgt := 295) hx hb dX12_readClause_282 (by decide) (fun c49 => ?_) (fun c49 => ?_)
              · skip
                have hP9 : va_P (dC, dI) classes (WM h g ca (u2 (u2 (u2 (u2 (u2 iv 12 34 n40) 12 35 n35) 12 36 n36) 12 37 n37) 12 38 n7) lv (u2 (u2 (u2 (u2 fa 12 26 f1) 12 27 f9) 12 28 f38) 12 30 f2) la) H := hP
                have hD9 : va_D A (WM h g ca (u2 (u2 (u2 (u2 (u2 iv 12 34 n40) 12 35 n35) 12 36 n36) 12 37 n37) 12 38 n7) lv (u2 (u2 (u2 (u2 fa 12 26 f1) 12 27 f9) 12 28 f38) 12 30 f2) la) := hD
                exact W.vret hx hb hr (fun t ht9 hW => ⟨⟨((u2 (u2 (u2 (u2 (u2 iv 12 34 n40) 12 35 n35) 12 36 n36) 12 37 n37) 12 38 n7), lv, (u2 (u2 (u2 (u2 fa 12 26 f1) 12 27 f9) 12 28 f38) 12 30 f2), la), rfl, ⟨f1, f9, f38, f2, n40, n35, n36, n37, n7, hf2, (show inb (0, 200) n40 from ⟨by omega, by omega⟩), (show inb (0, 5) n35 from ⟨by omega, by omega⟩), (show inb (0, 200) n37 from ⟨by omega, by omega⟩), (show inb (0, 200) n7 from ⟨by omega, by omega⟩), (show (iv 12 34).toInt ≤ (n40 : Int32).toInt from by omega), (show ∀ j : Nat, j ≠ k.toNatClampNeg → f1 j = (fa 12 26) j ∧ f9 j = (fa 12 27) j ∧ f38 j = (fa 12 28) j from fun j hj => ⟨(by rw [ef1, upd_ne hj]), (by rw [ef9, upd_ne hj]), (by rw [ef38, upd_ne hj])⟩), (show ((n35 : Int32).toInt ≠ 0 ∨ gd3 (f1 k.toNatClampNeg) (f9 k.toNatClampNeg) (f38 k.toNatClampNeg)) from Or.inl (by omega)), rfl⟩, by rw [ht9]; exact hP9, hD9⟩, hS.F ht9⟩) hS.2.2 dX12_readClause_295
              · exact absurd rfl c49
      · skip
        have fr27 : ¬ (((iv 12 35) : Int32).toInt = 0) := fr27
        refine lv_if_eq (tgt := 257) hx hb dX12_readClause_55 (by decide) (fun c50 => ?_) (fun c50 => ?_)
        · skip
          refine lv_aload_n hx hb dX12_readClause_257 rfl (lv_at hl 0 rfl) ?_
          have hFc := free_all hD hS hA
          refine va_calli (va_runV (As := []) (rest := []) ⟨hx, hb, hml, hown, ht⟩ (c_X12_here_x l dC dI H.size h g ca (u2 (u2 (u2 iv 12 34 n5) 12 37 n6) 12 38 n7) lv (u2 (u2 (u2 fa 12 26 f1) 12 30 f2) 12 27 f9) la (IX_a (c := 12) (k := 27) (IX_a (c := 12) (k := 30) (IX_a (c := 12) (k := 26) (IX_i (c := 12) (k := 38) (IX_i (c := 12) (k := 37) (IX_i (c := 12) (k := 34) hI (show inb (0, 200) n5 from ⟨by omega, by omega⟩)) (show inb (0, 200) n6 from ⟨by omega, by omega⟩)) (show inb (0, 200) n7 from ⟨by omega, by omega⟩)) hf1) hf2) hf9)) (kV 0 ht m_1458 m_1460 m_47 m_89 m_1461 rfl rfl hd_X12_here_v ⟨Nat.le_of_ble_eq_true rfl, Nat.le_of_ble_eq_true rfl⟩) (vW hP hK hD (rM_12 hK hP)) rfl rfl hl.1 rfl (lv_room (Nat.le_of_ble_eq_true rfl)) dX12_readClause_258 ⟨Nat.le_of_ble_eq_true rfl, Nat.le_of_ble_eq_true rfl⟩) hS (fun q _ h => hFc q h) hFc (fun r51 u t H1 locs ht9 hvm hr51 hB hz1 hk1 hS => ?_)
          obtain ⟨n52, hn52, xr51_0, xr51_1, hr51, rfl⟩ := hr51
          have hn52 : 0 ≤ n52.toInt ∧ n52.toInt ≤ 200 := hn52
          obtain ⟨hP, hD⟩ := hB
          rw [ht9] at hP
          generalize H1 = H at hP hS ⊢
          have hP : va_P (dC, dI) classes (WM h g ca (u2 (u2 (u2 iv 12 34 n52) 12 37 n6) 12 38 n7) lv (u2 (u2 (u2 fa 12 26 f1) 12 30 f2) 12 27 f9) la) H := hP
          have hD : va_D A (WM h g ca (u2 (u2 (u2 iv 12 34 n52) 12 37 n6) 12 38 n7) lv (u2 (u2 (u2 fa 12 26 f1) 12 30 f2) 12 27 f9) la) := (show va_D _ (WM h g ca (u2 (u2 (u2 iv 12 34 n52) 12 37 n6) 12 38 n7) lv (u2 (u2 (u2 fa 12 26 f1) 12 30 f2) 12 27 f9) la) from hD).weaken (fun _ _ _ h => hFc _ h)
          have xr51_0 : (n5 : Int32).toInt ≤ (n52 : Int32).toInt := xr51_0
          have i_12_33 : 0 ≤ (iv 12 33).toInt ∧ (iv 12 33).toInt ≤ 200 := hI.1 12 33
          have xr51_1 : ((r51 : Int32).toInt = -1 ∨ (n52 : Int32).toInt + 1 ≤ ((iv 12 33) : Int32).toInt) := xr51_1
          refine lv_istore_n (lv' := [(3, .int r51), (0, .ref h), (1, .int 0), (2, .int k)]) hx hb dX12_readClause_261 rfl hl (by decide) rfl (fun ls hl => ?_)
          refine lv_aload_n hx hb dX12_readClause_262 rfl (lv_at hl 1 rfl) ?_
          refine lv_iload_n hx hb dX12_readClause_263 rfl (lv_at hl 0 rfl) ?_
          refine lv_bipush (v := 59) hx hb dX12_readClause_264 (by decide) ?_
          refine lv_icmp_ne (tgt := 273) hx hb dX12_readClause_266 (by decide) (fun c53 => ?_) (fun c53 => ?_)
          · have fc53 := z_ne (rfl : (r51).toInt = _) (by decide : (59 : Int32).toInt = 59) c53
            refine lv_iconst (v := 0) hx hb dX12_readClause_273 (by decide) ?_
            refine lv_iconst (v := 1) hx hb dX12_readClause_274 (by decide) ?_
            refine lv_aload_n hx hb dX12_readClause_275 rfl (lv_at hl 1 rfl) ?_
            refine gM_12_34 hx hb ht hown hK hP m_1173 (v := n52) rfl dX12_readClause_276 ?_
            have hFc := free_all hD hS hA
            refine va_calli (va_runV (As := [.int 0, .int 1, .int n52]) (rest := []) ⟨hx, hb, hml, hown, ht⟩ (c_X12_want_0 l dC dI H.size h g ca (u2 (u2 (u2 iv 12 34 n52) 12 37 n6) 12 38 n7) lv (u2 (u2 (u2 fa 12 26 f1) 12 30 f2) 12 27 f9) la (IX_a (c := 12) (k := 27) (IX_a (c := 12) (k := 30) (IX_a (c := 12) (k := 26) (IX_i (c := 12) (k := 38) (IX_i (c := 12) (k := 37) (IX_i (c := 12) (k := 34) hI (show inb (0, 200) n52 from ⟨by omega, by omega⟩)) (show inb (0, 200) n6 from ⟨by omega, by omega⟩)) (show inb (0, 200) n7 from ⟨by omega, by omega⟩)) hf1) hf2) hf9) 1 n52 ⟨by decide, by decide⟩) (kV 3 ht m_1472 m_1474 m_50 m_89 m_1475 rfl rfl hd_X12_want_v ⟨Nat.le_of_ble_eq_true rfl, Nat.le_of_ble_eq_true rfl⟩) (vW hP hK hD (rM_12 hK hP)) rfl rfl hl.1 rfl (lv_room (Nat.le_of_ble_eq_true rfl)) dX12_readClause_279 ⟨Nat.le_of_ble_eq_true rfl, Nat.le_of_ble_eq_true rfl⟩) hS (fun q _ h => hFc q h) hFc (fun r54 u t H1 locs ht9 hvm hr54 hB hz1 hk1 hS => ?_)
            obtain ⟨n55, n56, hn55, xr54_0, hr54, rfl⟩ := hr54
            have hn55 : 0 ≤ n55.toInt ∧ n55.toInt ≤ 5 := hn55
            obtain ⟨hP, hD⟩ := hB
            rw [ht9] at hP
            generalize H1 = H at hP hS ⊢
            have hP : va_P (dC, dI) classes (WM h g ca (u2 (u2 (u2 (u2 (u2 iv 12 34 n52) 12 37 n6) 12 38 n7) 12 35 n55) 12 36 n56) lv (u2 (u2 (u2 fa 12 26 f1) 12 30 f2) 12 27 f9) la) H := hP
            have hD : va_D A (WM h g ca (u2 (u2 (u2 (u2 (u2 iv 12 34 n52) 12 37 n6) 12 38 n7) 12 35 n55) 12 36 n56) lv (u2 (u2 (u2 fa 12 26 f1) 12 30 f2) 12 27 f9) la) := (show va_D _ (WM h g ca (u2 (u2 (u2 (u2 (u2 iv 12 34 n52) 12 37 n6) 12 38 n7) 12 35 n55) 12 36 n56) lv (u2 (u2 (u2 fa 12 26 f1) 12 30 f2) 12 27 f9) la) from hD).weaken (fun _ _ _ h => hFc _ h)
            have xr54_0 : 1 ≤ (n55 : Int32).toInt := xr54_0
            obtain rfl : 0 = r54 := hr54.symm
            refine lv_if_eq (tgt := 295) hx hb dX12_readClause_282 (by decide) (fun c57 => ?_) (fun c57 => ?_)
            · skip
              have hP9 : va_P (dC, dI) classes (WM h g ca (u2 (u2 (u2 (u2 (u2 iv 12 34 n52) 12 35 n55) 12 36 n56) 12 37 n6) 12 38 n7) lv (u2 (u2 (u2 (u2 fa 12 26 f1) 12 27 f9) 12 28 (fa 12 28)) 12 30 f2) la) H := hP
              have hD9 : va_D A (WM h g ca (u2 (u2 (u2 (u2 (u2 iv 12 34 n52) 12 35 n55) 12 36 n56) 12 37 n6) 12 38 n7) lv (u2 (u2 (u2 (u2 fa 12 26 f1) 12 27 f9) 12 28 (fa 12 28)) 12 30 f2) la) := hD
              exact W.vret hx hb hr (fun t ht9 hW => ⟨⟨((u2 (u2 (u2 (u2 (u2 iv 12 34 n52) 12 35 n55) 12 36 n56) 12 37 n6) 12 38 n7), lv, (u2 (u2 (u2 (u2 fa 12 26 f1) 12 27 f9) 12 28 (fa 12 28)) 12 30 f2), la), rfl, ⟨f1, f9, (fa 12 28), f2, n52, n55, n56, n6, n7, hf2, (show inb (0, 200) n52 from ⟨by omega, by omega⟩), (show inb (0, 5) n55 from ⟨by omega, by omega⟩), (show inb (0, 200) n6 from ⟨by omega, by omega⟩), (show inb (0, 200) n7 from ⟨by omega, by omega⟩), (show (iv 12 34).toInt ≤ (n52 : Int32).toInt from by omega), (show ∀ j : Nat, j ≠ k.toNatClampNeg → f1 j = (fa 12 26) j ∧ f9 j = (fa 12 27) j ∧ (fa 12 28) j = (fa 12 28) j from fun j hj => ⟨(by rw [ef1, upd_ne hj]), (by rw [ef9, upd_ne hj]), rfl⟩), (show ((n55 : Int32).toInt ≠ 0 ∨ gd3 (f1 k.toNatClampNeg) (f9 k.toNatClampNeg) ((fa 12 28) k.toNatClampNeg)) from (by
            have kc : (0 : Int32).toInt = 0 := by decide
            have kE : f1 k.toNatClampNeg = 0 := by rw [ef1]; exact upd_eq
            have nE : f9 k.toNatClampNeg = r8 := by rw [ef9]; exact upd_eq
            have := congrArg Int32.toInt (ev10.trans nE)
            by_cases h0 : (n55 : Int32).toInt = 0
            · refine Or.inr ?_; rw [kE, nE]; unfold gd3; exact ⟨fun h => by omega, fun h h2 => by omega⟩
            · exact Or.inl h0)), rfl⟩, by rw [ht9]; exact hP9, hD9⟩, hS.F ht9⟩) hS.2.2 dX12_readClause_295
            · exact absurd rfl c57
          · have fc53 := z_eq (rfl : (r51).toInt = _) (by decide : (59 : Int32).toInt = 59) c53
            refine lv_iconst (v := 1) hx hb dX12_readClause_269 (by decide) ?_
            refine lv_goto (tgt := 274) hx hb dX12_readClause_270 (by decide) ?_
            refine lv_iconst (v := 1) hx hb dX12_readClause_274 (by decide) ?_
            refine lv_aload_n hx hb dX12_readClause_275 rfl (lv_at hl 1 rfl) ?_
            refine gM_12_34 hx hb ht hown hK hP m_1173 (v := n52) rfl dX12_readClause_276 ?_
            refine vp_callSi (W.runV (As := [.int 1, .int 1, .int n52]) (rest := []) ⟨hx, hb, hml, hown, ht⟩ (c_X12_want_1 l dC dI h g ca (u2 (u2 (u2 iv 12 34 n52) 12 37 n6) 12 38 n7) lv (u2 (u2 (u2 fa 12 26 f1) 12 30 f2) 12 27 f9) la (IX_a (c := 12) (k := 27) (IX_a (c := 12) (k := 30) (IX_a (c := 12) (k := 26) (IX_i (c := 12) (k := 38) (IX_i (c := 12) (k := 37) (IX_i (c := 12) (k := 34) hI (show inb (0, 200) n52 from ⟨by omega, by omega⟩)) (show inb (0, 200) n6 from ⟨by omega, by omega⟩)) (show inb (0, 200) n7 from ⟨by omega, by omega⟩)) hf1) hf2) hf9) 1 n52) (kV 3 ht m_1472 m_1474 m_50 m_89 m_1475 rfl rfl hd_X12_want_v ⟨Nat.le_of_ble_eq_true rfl, Nat.le_of_ble_eq_true rfl⟩) (vR hP hK (rM_12 hK hP)) rfl rfl hl.1 rfl (lv_room (Nat.le_of_ble_eq_true rfl)) dX12_readClause_279 ⟨Nat.le_of_ble_eq_true rfl, Nat.le_of_ble_eq_true rfl⟩) (fun r58 hr58 => ?_)
            rcases hr58 with ⟨rfl, fr58⟩ | ⟨rfl, fr58⟩
            · skip
              have fr58 : (((iv 12 35) : Int32).toInt = 0) := fr58
              exfalso; omega
            · skip
              have fr58 : ¬ (((iv 12 35) : Int32).toInt = 0) := fr58
              refine lv_if_eq (tgt := 295) hx hb dX12_readClause_282 (by decide) (fun c59 => ?_) (fun c59 => ?_)
              · skip
                have hP9 : va_P (dC, dI) classes (WM h g ca (u2 (u2 (u2 (u2 (u2 iv 12 34 n52) 12 35 (iv 12 35)) 12 36 (iv 12 36)) 12 37 n6) 12 38 n7) lv (u2 (u2 (u2 (u2 fa 12 26 f1) 12 27 f9) 12 28 (fa 12 28)) 12 30 f2) la) H := hP
                have hD9 : va_D A (WM h g ca (u2 (u2 (u2 (u2 (u2 iv 12 34 n52) 12 35 (iv 12 35)) 12 36 (iv 12 36)) 12 37 n6) 12 38 n7) lv (u2 (u2 (u2 (u2 fa 12 26 f1) 12 27 f9) 12 28 (fa 12 28)) 12 30 f2) la) := hD
                exact W.vret hx hb hr (fun t ht9 hW => ⟨⟨((u2 (u2 (u2 (u2 (u2 iv 12 34 n52) 12 35 (iv 12 35)) 12 36 (iv 12 36)) 12 37 n6) 12 38 n7), lv, (u2 (u2 (u2 (u2 fa 12 26 f1) 12 27 f9) 12 28 (fa 12 28)) 12 30 f2), la), rfl, ⟨f1, f9, (fa 12 28), f2, n52, (iv 12 35), (iv 12 36), n6, n7, hf2, (show inb (0, 200) n52 from ⟨by omega, by omega⟩), (hI.1 12 35), (show inb (0, 200) n6 from ⟨by omega, by omega⟩), (show inb (0, 200) n7 from ⟨by omega, by omega⟩), (show (iv 12 34).toInt ≤ (n52 : Int32).toInt from by omega), (show ∀ j : Nat, j ≠ k.toNatClampNeg → f1 j = (fa 12 26) j ∧ f9 j = (fa 12 27) j ∧ (fa 12 28) j = (fa 12 28) j from fun j hj => ⟨(by rw [ef1, upd_ne hj]), (by rw [ef9, upd_ne hj]), rfl⟩), (show (((iv 12 35) : Int32).toInt ≠ 0 ∨ gd3 (f1 k.toNatClampNeg) (f9 k.toNatClampNeg) ((fa 12 28) k.toNatClampNeg)) from Or.inl (by omega)), rfl⟩, by rw [ht9]; exact hP9, hD9⟩, hS.F ht9⟩) hS.2.2 dX12_readClause_295
              · exact absurd rfl c59
        · exact absurd rfl c50
set_option maxHeartbeats 4000000 in
set_option maxRecDepth 100000 in
/-- X12_readClause -/
theorem c_X12_readClause_1 (l : Launch) (dC : Nat → ClassId) (dI : Nat → Nat → Nat) (sz : Nat) (h : Nat) (g : Nat → Nat → Nat) (ca : Nat → Nat → ClassId) (iv : Nat → Nat → Int32) (lv : Nat → Nat → Int64) (fa : Nat → Nat → Nat → Int32) (la : Nat → Nat → Nat → Int64) (hI : IX iv fa) (k : Int32) (h_k : 0 ≤ k.toInt ∧ k.toInt ≤ 95) : Met l yX12_readClause (wc yX12_readClause cX12_readClause 4 none) ({ frames := 2, cells := 0, slots := 0, locals := 46 } : Room) (pW (dC, dI) classes (WM h g ca iv lv fa la) (TM ca) sz [.ref h, .int 1, .int k]) (va_Qv (fun (u : SS) => ∃ (na_12_26 : Nat → Int32) (na_12_28 : Nat → Int32) (na_12_30 : Nat → Int32) (ni_12_34 : Int32) (ni_12_35 : Int32) (ni_12_36 : Int32) (ni_12_37 : Int32) (ni_12_38 : Int32), (∀ j, inb (bA 12 30 j) (na_12_30 j)) ∧ inb (bI 12 34) ni_12_34 ∧ inb (bI 12 35) ni_12_35 ∧ inb (bI 12 37) ni_12_37 ∧ inb (bI 12 38) ni_12_38 ∧ ((iv 12 34).toInt ≤ (ni_12_34).toInt) ∧ (∀ j : Nat, j ≠ k.toNatClampNeg → na_12_26 j = (fa 12 26) j ∧ (fa 12 27) j = (fa 12 27) j ∧ na_12_28 j = (fa 12 28) j) ∧ (((ni_12_35).toInt ≠ 0 ∨ gd3 (na_12_26 k.toNatClampNeg) ((fa 12 27) k.toNatClampNeg) (na_12_28 k.toNatClampNeg))) ∧ u = ((u2 (u2 (u2 (u2 (u2 iv 12 34 ni_12_34) 12 35 ni_12_35) 12 36 ni_12_36) 12 37 ni_12_37) 12 38 ni_12_38), lv, (u2 (u2 (u2 fa 12 26 na_12_26) 12 28 na_12_28) 12 30 na_12_30), la)) (bM (dC, dI) h g ca (va_A (WM h g ca iv lv fa la) sz)) (va_A (WM h g ca iv lv fa la) sz)) 0 0 (va_A (WM h g ca iv lv fa la) sz) := by
  refine Met.ofW (cc := cX12_readClause) (maxL := 4) (ret := none) (by decide) rfl ?_
  intro p e s m args below meth c s₁ B hml hv
  obtain ⟨rfl, hsz, hP, hK, hD0⟩ := hv
  have hx := B.exec
  have hb := B.bytes
  have hr := B.returns
  have ht := tb_tl (atoms_spec (ws := wc yX12_readClause cX12_readClause 4 none) B.pre)
  have hown : s.vm.findClass RX12 = some m.cls := findClass_of_methodNamed B.named
  have hlocks := B.notSynchronized
  subst hsz
  have hD := hD0.self (sz := s.heap.size)
  generalize hAe : va_A (WM h g ca iv lv fa la) s.heap.size = A at hD ⊢
  have hA : ∀ q : Nat, s.heap.size ≤ q → A q := fun q h => by rw [← hAe]; exact Or.inr h
  have hS : va_S A s.heap s.heap [] := va_S.rf
  have hl := lv_entry [.ref h, .int 1, .int k] (n := 4) (Nat.le_of_ble_eq_true rfl)
  rw [lg_entry_eq]
  generalize (lg_sl [.ref h, .int 1, .int k] ++ List.replicate (4 - (lg_sl [.ref h, .int 1, .int k]).length) Slot.unset).toArray = ls at hl ⊢
  have hl : lv_has ls 4 [(0, .ref h), (1, .int 1), (2, .int k)] := hl
  refine lv_aload_n hx hb dX12_readClause_0 rfl (lv_at hl 0 rfl) ?_
  refine gM_12_26 hx hb ht hown hK hP m_1165 dX12_readClause_1 ?_
  refine lv_iload_n hx hb dX12_readClause_4 rfl (lv_at hl 2 rfl) ?_
  refine lv_iload_n hx hb dX12_readClause_5 rfl (lv_at hl 1 rfl) ?_
  refine tM_12_26 hx hb hK hP hD hS (f0 := (fa 12 26)) rfl (i := k) (x := 1) (vp_in_iff.mpr ⟨by omega, by omega⟩) dX12_readClause_6 (fun f1 ef1 H locs hP hD hS => ?_)
  have hf1 : ∀ j, inb (bA 12 26 j) (f1 j) := fun j => full_i _
  refine lv_aload_n hx hb dX12_readClause_7 rfl (lv_at hl 0 rfl) ?_
  refine gM_12_30 hx hb ht hown hK hP m_1169 dX12_readClause_8 ?_
  refine lv_iload_n hx hb dX12_readClause_11 rfl (lv_at hl 2 rfl) ?_
  refine lv_iconst (v := 0) hx hb dX12_readClause_12 (by decide) ?_
  refine tM_12_30 hx hb hK hP hD hS (f0 := (fa 12 30)) rfl (i := k) (x := 0) (vp_in_iff.mpr ⟨by omega, by omega⟩) dX12_readClause_13 (fun f2 ef2 H locs hP hD hS => ?_)
  have hf2 : ∀ j, inb (bA 12 30 j) (f2 j) := by rw [ef2]; exact upd_b (b := bA 12 30) (hI.2 12 30) (show inb (0, 8) 0 from ⟨by decide, by decide⟩)
  refine lv_iload_n hx hb dX12_readClause_14 rfl (lv_at hl 1 rfl) ?_
  refine lv_if_ne (tgt := 89) hx hb dX12_readClause_15 (by decide) (fun c3 => ?_) (fun c3 => ?_)
  · skip
    refine lv_iload_n hx hb dX12_readClause_89 rfl (lv_at hl 1 rfl) ?_
    refine lv_iconst (v := 1) hx hb dX12_readClause_90 (by decide) ?_
    refine lv_icmp_ne (tgt := 202) hx hb dX12_readClause_91 (by decide) (fun c4 => ?_) (fun c4 => ?_)
    · exact absurd rfl c4
    · skip
      refine lv_aload_n hx hb dX12_readClause_94 rfl (lv_at hl 0 rfl) ?_
      have i_12_34 : 0 ≤ (iv 12 34).toInt ∧ (iv 12 34).toInt ≤ 200 := hI.1 12 34
      have hFc := free_all hD hS hA
      refine va_callv (va_runV (As := []) (rest := []) ⟨hx, hb, hml, hown, ht⟩ (c_X12_takeWord l dC dI H.size h g ca iv lv (u2 (u2 fa 12 26 f1) 12 30 f2) la (IX_a (c := 12) (k := 30) (IX_a (c := 12) (k := 26) hI hf1) hf2)) (kV 0 ht m_1462 m_1464 m_48 m_89 m_1465 rfl rfl hd_X12_takeWord_v ⟨Nat.le_of_ble_eq_true rfl, Nat.le_of_ble_eq_true rfl⟩) (vW hP hK hD (rM_12 hK hP)) rfl rfl hl.1 rfl (lv_room (Nat.le_of_ble_eq_true rfl)) dX12_readClause_95 ⟨Nat.le_of_ble_eq_true rfl, Nat.le_of_ble_eq_true rfl⟩) hS (fun q _ h => hFc q h) hFc (fun u t H1 locs ht9 hvm hr5 hB hz1 hk1 hS => ?_)
      obtain ⟨n6, n7, n8, hn6, hn7, hn8, xr5_0, xr5_1, rfl⟩ := hr5
      have hn6 : 0 ≤ n6.toInt ∧ n6.toInt ≤ 200 := hn6
      have hn7 : 0 ≤ n7.toInt ∧ n7.toInt ≤ 200 := hn7
      have hn8 : 0 ≤ n8.toInt ∧ n8.toInt ≤ 200 := hn8
      obtain ⟨hP, hD⟩ := hB
      rw [ht9] at hP
      generalize H1 = H at hP hS ⊢
      have hP : va_P (dC, dI) classes (WM h g ca (u2 (u2 (u2 iv 12 34 n6) 12 37 n7) 12 38 n8) lv (u2 (u2 fa 12 26 f1) 12 30 f2) la) H := hP
      have hD : va_D A (WM h g ca (u2 (u2 (u2 iv 12 34 n6) 12 37 n7) 12 38 n8) lv (u2 (u2 fa 12 26 f1) 12 30 f2) la) := (show va_D _ (WM h g ca (u2 (u2 (u2 iv 12 34 n6) 12 37 n7) 12 38 n8) lv (u2 (u2 fa 12 26 f1) 12 30 f2) la) from hD).weaken (fun _ _ _ h => hFc _ h)
      have xr5_0 : ((iv 12 34) : Int32).toInt ≤ (n7 : Int32).toInt := xr5_0
      have xr5_1 : (n7 : Int32).toInt + (n8 : Int32).toInt = (n6 : Int32).toInt := xr5_1
      refine lv_aload_n hx hb dX12_readClause_98 rfl (lv_at hl 0 rfl) ?_
      refine gM_12_28 hx hb ht hown hK hP m_1167 dX12_readClause_99 ?_
      refine lv_iload_n hx hb dX12_readClause_102 rfl (lv_at hl 2 rfl) ?_
      refine lv_aload_n hx hb dX12_readClause_103 rfl (lv_at hl 0 rfl) ?_
      refine lv_iconst (v := 4) hx hb dX12_readClause_104 (by decide) ?_
      refine lv_bipush (v := 109) hx hb dX12_readClause_105 (by decide) ?_
      refine lv_bipush (v := 101) hx hb dX12_readClause_107 (by decide) ?_
      refine lv_bipush (v := 97) hx hb dX12_readClause_109 (by decide) ?_
      refine lv_bipush (v := 110) hx hb dX12_readClause_111 (by decide) ?_
      refine lv_iconst (v := 0) hx hb dX12_readClause_113 (by decide) ?_
      refine lv_iconst (v := 0) hx hb dX12_readClause_114 (by decide) ?_
      refine vp_callSi (W.runV (As := [.int 4, .int 109, .int 101, .int 97, .int 110, .int 0, .int 0]) (rest := [.int k, .ref (g 12 28)]) ⟨hx, hb, hml, hown, ht⟩ (c_X12_isWord l dC dI h g ca (u2 (u2 (u2 iv 12 34 n6) 12 37 n7) 12 38 n8) lv (u2 (u2 fa 12 26 f1) 12 30 f2) la (IX_a (c := 12) (k := 30) (IX_a (c := 12) (k := 26) (IX_i (c := 12) (k := 38) (IX_i (c := 12) (k := 37) (IX_i (c := 12) (k := 34) hI (show inb (0, 200) n6 from ⟨by omega, by omega⟩)) (show inb (0, 200) n7 from ⟨by omega, by omega⟩)) (show inb (0, 200) n8 from ⟨by omega, by omega⟩)) hf1) hf2) 4 109 101 97 110 0 0 ⟨by decide, by decide⟩ (show (n7 : Int32).toInt + (n8 : Int32).toInt ≤ 200 from by omega)) (kV 7 ht m_1468 m_1470 m_49 m_89 m_1471 rfl rfl hd_X12_isWord_v ⟨Nat.le_of_ble_eq_true rfl, Nat.le_of_ble_eq_true rfl⟩) (vR hP hK (rM_12 hK hP)) rfl rfl hl.1 rfl (lv_room (Nat.le_of_ble_eq_true rfl)) dX12_readClause_115 ⟨Nat.le_of_ble_eq_true rfl, Nat.le_of_ble_eq_true rfl⟩) (fun r9 hr9 => ?_)
      obtain ⟨hr9, xr9_0⟩ := hr9
      have : (4 : Int32).toInt = 4 := (by decide)
      have xr9_0 : ((r9 : Int32).toInt = 0 ∨ (n8 : Int32).toInt = (4 : Int32).toInt) := xr9_0
      refine lv_if_eq (tgt := 125) hx hb dX12_readClause_118 (by decide) (fun c10 => ?_) (fun c10 => ?_)
      · have fc10 := z_eq (rfl : (r9).toInt = _) (by decide : (0 : Int32).toInt = 0) c10
        refine lv_aload_n hx hb dX12_readClause_125 rfl (lv_at hl 0 rfl) ?_
        refine lv_iconst (v := 5) hx hb dX12_readClause_126 (by decide) ?_
        refine lv_bipush (v := 108) hx hb dX12_readClause_127 (by decide) ?_
        refine lv_bipush (v := 101) hx hb dX12_readClause_129 (by decide) ?_
        refine lv_bipush (v := 97) hx hb dX12_readClause_131 (by decide) ?_
        refine lv_bipush (v := 115) hx hb dX12_readClause_133 (by decide) ?_
        refine lv_bipush (v := 116) hx hb dX12_readClause_135 (by decide) ?_
        refine lv_iconst (v := 0) hx hb dX12_readClause_137 (by decide) ?_
        refine vp_callSi (W.runV (As := [.int 5, .int 108, .int 101, .int 97, .int 115, .int 116, .int 0]) (rest := [.int k, .ref (g 12 28)]) ⟨hx, hb, hml, hown, ht⟩ (c_X12_isWord l dC dI h g ca (u2 (u2 (u2 iv 12 34 n6) 12 37 n7) 12 38 n8) lv (u2 (u2 fa 12 26 f1) 12 30 f2) la (IX_a (c := 12) (k := 30) (IX_a (c := 12) (k := 26) (IX_i (c := 12) (k := 38) (IX_i (c := 12) (k := 37) (IX_i (c := 12) (k := 34) hI (show inb (0, 200) n6 from ⟨by omega, by omega⟩)) (show inb (0, 200) n7 from ⟨by omega, by omega⟩)) (show inb (0, 200) n8 from ⟨by omega, by omega⟩)) hf1) hf2) 5 108 101 97 115 116 0 ⟨by decide, by decide⟩ (show (n7 : Int32).toInt + (n8 : Int32).toInt ≤ 200 from by omega)) (kV 7 ht m_1468 m_1470 m_49 m_89 m_1471 rfl rfl hd_X12_isWord_v ⟨Nat.le_of_ble_eq_true rfl, Nat.le_of_ble_eq_true rfl⟩) (vR hP hK (rM_12 hK hP)) rfl rfl hl.1 rfl (lv_room (Nat.le_of_ble_eq_true rfl)) dX12_readClause_138 ⟨Nat.le_of_ble_eq_true rfl, Nat.le_of_ble_eq_true rfl⟩) (fun r11 hr11 => ?_)
        obtain ⟨hr11, xr11_0⟩ := hr11
        have : (5 : Int32).toInt = 5 := (by decide)
        have xr11_0 : ((r11 : Int32).toInt = 0 ∨ (n8 : Int32).toInt = (5 : Int32).toInt) := xr11_0
        refine lv_if_eq (tgt := 148) hx hb dX12_readClause_141 (by decide) (fun c12 => ?_) (fun c12 => ?_)
        · have fc12 := z_eq (rfl : (r11).toInt = _) (by decide : (0 : Int32).toInt = 0) c12
          refine lv_aload_n hx hb dX12_readClause_148 rfl (lv_at hl 0 rfl) ?_
          refine lv_bipush (v := 6) hx hb dX12_readClause_149 (by decide) ?_
          refine lv_bipush (v := 109) hx hb dX12_readClause_151 (by decide) ?_
          refine lv_bipush (v := 105) hx hb dX12_readClause_153 (by decide) ?_
          refine lv_bipush (v := 100) hx hb dX12_readClause_155 (by decide) ?_
          refine lv_bipush (v := 100) hx hb dX12_readClause_157 (by decide) ?_
          refine lv_bipush (v := 108) hx hb dX12_readClause_159 (by decide) ?_
          refine lv_bipush (v := 101) hx hb dX12_readClause_161 (by decide) ?_
          refine vp_callSi (W.runV (As := [.int 6, .int 109, .int 105, .int 100, .int 100, .int 108, .int 101]) (rest := [.int k, .ref (g 12 28)]) ⟨hx, hb, hml, hown, ht⟩ (c_X12_isWord l dC dI h g ca (u2 (u2 (u2 iv 12 34 n6) 12 37 n7) 12 38 n8) lv (u2 (u2 fa 12 26 f1) 12 30 f2) la (IX_a (c := 12) (k := 30) (IX_a (c := 12) (k := 26) (IX_i (c := 12) (k := 38) (IX_i (c := 12) (k := 37) (IX_i (c := 12) (k := 34) hI (show inb (0, 200) n6 from ⟨by omega, by omega⟩)) (show inb (0, 200) n7 from ⟨by omega, by omega⟩)) (show inb (0, 200) n8 from ⟨by omega, by omega⟩)) hf1) hf2) 6 109 105 100 100 108 101 ⟨by decide, by decide⟩ (show (n7 : Int32).toInt + (n8 : Int32).toInt ≤ 200 from by omega)) (kV 7 ht m_1468 m_1470 m_49 m_89 m_1471 rfl rfl hd_X12_isWord_v ⟨Nat.le_of_ble_eq_true rfl, Nat.le_of_ble_eq_true rfl⟩) (vR hP hK (rM_12 hK hP)) rfl rfl hl.1 rfl (lv_room (Nat.le_of_ble_eq_true rfl)) dX12_readClause_163 ⟨Nat.le_of_ble_eq_true rfl, Nat.le_of_ble_eq_true rfl⟩) (fun r13 hr13 => ?_)
          obtain ⟨hr13, xr13_0⟩ := hr13
          have : (6 : Int32).toInt = 6 := (by decide)
          have xr13_0 : ((r13 : Int32).toInt = 0 ∨ (n8 : Int32).toInt = (6 : Int32).toInt) := xr13_0
          refine lv_if_eq (tgt := 173) hx hb dX12_readClause_166 (by decide) (fun c14 => ?_) (fun c14 => ?_)
          · have fc14 := z_eq (rfl : (r13).toInt = _) (by decide : (0 : Int32).toInt = 0) c14
            refine lv_iconst (v := (-1)) hx hb dX12_readClause_173 (by decide) ?_
            refine tM_12_28 hx hb hK hP hD hS (f0 := (fa 12 28)) rfl (i := k) (x := (-1)) (vp_in_iff.mpr ⟨by omega, by omega⟩) dX12_readClause_174 (fun f15 ef15 H locs hP hD hS => ?_)
            have hf15 : ∀ j, inb (bA 12 28 j) (f15 j) := fun j => full_i _
            refine lv_aload_n hx hb dX12_readClause_175 rfl (lv_at hl 0 rfl) ?_
            refine lv_aload_n hx hb dX12_readClause_176 rfl (lv_at hl 0 rfl) ?_
            refine gM_12_28 hx hb ht hown hK hP m_1167 dX12_readClause_177 ?_
            refine lv_iload_n hx hb dX12_readClause_180 rfl (lv_at hl 2 rfl) ?_
            refine lM_12_28 hx hb hK hP (f := f15) rfl (vp_in_iff.mpr ⟨by omega, by omega⟩) dX12_readClause_181 ?_
            refine lv_topi (fun v16 ev16 => ?_)
            refine lv_if_lt (tgt := 189) hx hb dX12_readClause_182 (by decide) (fun c17 => ?_) (fun c17 => ?_)
            · have fc17 := z_lt (rfl : (v16).toInt = _) (by decide : (0 : Int32).toInt = 0) c17
              refine lv_iconst (v := 0) hx hb dX12_readClause_189 (by decide) ?_
              refine lv_iconst (v := 1) hx hb dX12_readClause_190 (by decide) ?_
              refine lv_aload_n hx hb dX12_readClause_191 rfl (lv_at hl 0 rfl) ?_
              refine gM_12_37 hx hb ht hown hK hP m_1176 (v := n7) rfl dX12_readClause_192 ?_
              have hFc := free_all hD hS hA
              refine va_calli (va_runV (As := [.int 0, .int 1, .int n7]) (rest := []) ⟨hx, hb, hml, hown, ht⟩ (c_X12_want_0 l dC dI H.size h g ca (u2 (u2 (u2 iv 12 34 n6) 12 37 n7) 12 38 n8) lv (u2 (u2 (u2 fa 12 26 f1) 12 30 f2) 12 28 f15) la (IX_a (c := 12) (k := 28) (IX_a (c := 12) (k := 30) (IX_a (c := 12) (k := 26) (IX_i (c := 12) (k := 38) (IX_i (c := 12) (k := 37) (IX_i (c := 12) (k := 34) hI (show inb (0, 200) n6 from ⟨by omega, by omega⟩)) (show inb (0, 200) n7 from ⟨by omega, by omega⟩)) (show inb (0, 200) n8 from ⟨by omega, by omega⟩)) hf1) hf2) hf15) 1 n7 ⟨by decide, by decide⟩) (kV 3 ht m_1472 m_1474 m_50 m_89 m_1475 rfl rfl hd_X12_want_v ⟨Nat.le_of_ble_eq_true rfl, Nat.le_of_ble_eq_true rfl⟩) (vW hP hK hD (rM_12 hK hP)) rfl rfl hl.1 rfl (lv_room (Nat.le_of_ble_eq_true rfl)) dX12_readClause_195 ⟨Nat.le_of_ble_eq_true rfl, Nat.le_of_ble_eq_true rfl⟩) hS (fun q _ h => hFc q h) hFc (fun r18 u t H1 locs ht9 hvm hr18 hB hz1 hk1 hS => ?_)
              obtain ⟨n19, n20, hn19, xr18_0, hr18, rfl⟩ := hr18
              have hn19 : 0 ≤ n19.toInt ∧ n19.toInt ≤ 5 := hn19
              obtain ⟨hP, hD⟩ := hB
              rw [ht9] at hP
              generalize H1 = H at hP hS ⊢
              have hP : va_P (dC, dI) classes (WM h g ca (u2 (u2 (u2 (u2 (u2 iv 12 34 n6) 12 37 n7) 12 38 n8) 12 35 n19) 12 36 n20) lv (u2 (u2 (u2 fa 12 26 f1) 12 30 f2) 12 28 f15) la) H := hP
              have hD : va_D A (WM h g ca (u2 (u2 (u2 (u2 (u2 iv 12 34 n6) 12 37 n7) 12 38 n8) 12 35 n19) 12 36 n20) lv (u2 (u2 (u2 fa 12 26 f1) 12 30 f2) 12 28 f15) la) := (show va_D _ (WM h g ca (u2 (u2 (u2 (u2 (u2 iv 12 34 n6) 12 37 n7) 12 38 n8) 12 35 n19) 12 36 n20) lv (u2 (u2 (u2 fa 12 26 f1) 12 30 f2) 12 28 f15) la) from hD).weaken (fun _ _ _ h => hFc _ h)
              have xr18_0 : 1 ≤ (n19 : Int32).toInt := xr18_0
              obtain rfl : 0 = r18 := hr18.symm
              refine lv_istore_n (lv' := [(3, .int 0), (0, .ref h), (1, .int 1), (2, .int k)]) hx hb dX12_readClause_198 rfl hl (by decide) rfl (fun ls hl => ?_)
              refine lv_goto (tgt := 257) hx hb dX12_readClause_199 (by decide) ?_
              refine lv_aload_n hx hb dX12_readClause_257 rfl (lv_at hl 1 rfl) ?_
              have hFc := free_all hD hS hA
              refine va_calli (va_runV (As := []) (rest := []) ⟨hx, hb, hml, hown, ht⟩ (c_X12_here_x l dC dI H.size h g ca (u2 (u2 (u2 (u2 (u2 iv 12 34 n6) 12 37 n7) 12 38 n8) 12 35 n19) 12 36 n20) lv (u2 (u2 (u2 fa 12 26 f1) 12 30 f2) 12 28 f15) la (IX_a (c := 12) (k := 28) (IX_a (c := 12) (k := 30) (IX_a (c := 12) (k := 26) (IX_i (c := 12) (k := 36) (IX_i (c := 12) (k := 35) (IX_i (c := 12) (k := 38) (IX_i (c := 12) (k := 37) (IX_i (c := 12) (k := 34) hI (show inb (0, 200) n6 from ⟨by omega, by omega⟩)) (show inb (0, 200) n7 from ⟨by omega, by omega⟩)) (show inb (0, 200) n8 from ⟨by omega, by omega⟩)) (show inb (0, 5) n19 from ⟨by omega, by omega⟩)) (full_i _)) hf1) hf2) hf15)) (kV 0 ht m_1458 m_1460 m_47 m_89 m_1461 rfl rfl hd_X12_here_v ⟨Nat.le_of_ble_eq_true rfl, Nat.le_of_ble_eq_true rfl⟩) (vW hP hK hD (rM_12 hK hP)) rfl rfl hl.1 rfl (lv_room (Nat.le_of_ble_eq_true rfl)) dX12_readClause_258 ⟨Nat.le_of_ble_eq_true rfl, Nat.le_of_ble_eq_true rfl⟩) hS (fun q _ h => hFc q h) hFc (fun r21 u t H1 locs ht9 hvm hr21 hB hz1 hk1 hS => ?_)
              obtain ⟨n22, hn22, xr21_0, xr21_1, hr21, rfl⟩ := hr21
              have hn22 : 0 ≤ n22.toInt ∧ n22.toInt ≤ 200 := hn22
              obtain ⟨hP, hD⟩ := hB
              rw [ht9] at hP
              generalize H1 = H at hP hS ⊢
              have hP : va_P (dC, dI) classes (WM h g ca (u2 (u2 (u2 (u2 (u2 iv 12 34 n22) 12 37 n7) 12 38 n8) 12 35 n19) 12 36 n20) lv (u2 (u2 (u2 fa 12 26 f1) 12 30 f2) 12 28 f15) la) H := hP
              have hD : va_D A (WM h g ca (u2 (u2 (u2 (u2 (u2 iv 12 34 n22) 12 37 n7) 12 38 n8) 12 35 n19) 12 36 n20) lv (u2 (u2 (u2 fa 12 26 f1) 12 30 f2) 12 28 f15) la) := (show va_D _ (WM h g ca (u2 (u2 (u2 (u2 (u2 iv 12 34 n22) 12 37 n7) 12 38 n8) 12 35 n19) 12 36 n20) lv (u2 (u2 (u2 fa 12 26 f1) 12 30 f2) 12 28 f15) la) from hD).weaken (fun _ _ _ h => hFc _ h)
              have xr21_0 : (n6 : Int32).toInt ≤ (n22 : Int32).toInt := xr21_0
              have i_12_33 : 0 ≤ (iv 12 33).toInt ∧ (iv 12 33).toInt ≤ 200 := hI.1 12 33
              have xr21_1 : ((r21 : Int32).toInt = -1 ∨ (n22 : Int32).toInt + 1 ≤ ((iv 12 33) : Int32).toInt) := xr21_1
              refine lv_istore_n (lv' := [(3, .int r21), (0, .ref h), (1, .int 1), (2, .int k)]) hx hb dX12_readClause_261 rfl hl (by decide) rfl (fun ls hl => ?_)
              refine lv_aload_n hx hb dX12_readClause_262 rfl (lv_at hl 1 rfl) ?_
              refine lv_iload_n hx hb dX12_readClause_263 rfl (lv_at hl 0 rfl) ?_
              refine lv_bipush (v := 59) hx hb dX12_readClause_264 (by decide) ?_
              refine lv_icmp_ne (tgt := 273) hx hb dX12_readClause_266 (by decide) (fun c23 => ?_) (fun c23 => ?_)
              · have fc23 := z_ne (rfl : (r21).toInt = _) (by decide : (59 : Int32).toInt = 59) c23
                refine lv_iconst (v := 0) hx hb dX12_readClause_273 (by decide) ?_
                refine lv_iconst (v := 1) hx hb dX12_readClause_274 (by decide) ?_
                refine lv_aload_n hx hb dX12_readClause_275 rfl (lv_at hl 1 rfl) ?_
                refine gM_12_34 hx hb ht hown hK hP m_1173 (v := n22) rfl dX12_readClause_276 ?_
                have hFc := free_all hD hS hA
                refine va_calli (va_runV (As := [.int 0, .int 1, .int n22]) (rest := []) ⟨hx, hb, hml, hown, ht⟩ (c_X12_want_0 l dC dI H.size h g ca (u2 (u2 (u2 (u2 (u2 iv 12 34 n22) 12 37 n7) 12 38 n8) 12 35 n19) 12 36 n20) lv (u2 (u2 (u2 fa 12 26 f1) 12 30 f2) 12 28 f15) la (IX_a (c := 12) (k := 28) (IX_a (c := 12) (k := 30) (IX_a (c := 12) (k := 26) (IX_i (c := 12) (k := 36) (IX_i (c := 12) (k := 35) (IX_i (c := 12) (k := 38) (IX_i (c := 12) (k := 37) (IX_i (c := 12) (k := 34) hI (show inb (0, 200) n22 from ⟨by omega, by omega⟩)) (show inb (0, 200) n7 from ⟨by omega, by omega⟩)) (show inb (0, 200) n8 from ⟨by omega, by omega⟩)) (show inb (0, 5) n19 from ⟨by omega, by omega⟩)) (full_i _)) hf1) hf2) hf15) 1 n22 ⟨by decide, by decide⟩) (kV 3 ht m_1472 m_1474 m_50 m_89 m_1475 rfl rfl hd_X12_want_v ⟨Nat.le_of_ble_eq_true rfl, Nat.le_of_ble_eq_true rfl⟩) (vW hP hK hD (rM_12 hK hP)) rfl rfl hl.1 rfl (lv_room (Nat.le_of_ble_eq_true rfl)) dX12_readClause_279 ⟨Nat.le_of_ble_eq_true rfl, Nat.le_of_ble_eq_true rfl⟩) hS (fun q _ h => hFc q h) hFc (fun r24 u t H1 locs ht9 hvm hr24 hB hz1 hk1 hS => ?_)
                obtain ⟨n25, n26, hn25, xr24_0, hr24, rfl⟩ := hr24
                have hn25 : 0 ≤ n25.toInt ∧ n25.toInt ≤ 5 := hn25
                obtain ⟨hP, hD⟩ := hB
                rw [ht9] at hP
                generalize H1 = H at hP hS ⊢
                have hP : va_P (dC, dI) classes (WM h g ca (u2 (u2 (u2 (u2 (u2 iv 12 34 n22) 12 37 n7) 12 38 n8) 12 35 n25) 12 36 n26) lv (u2 (u2 (u2 fa 12 26 f1) 12 30 f2) 12 28 f15) la) H := hP
                have hD : va_D A (WM h g ca (u2 (u2 (u2 (u2 (u2 iv 12 34 n22) 12 37 n7) 12 38 n8) 12 35 n25) 12 36 n26) lv (u2 (u2 (u2 fa 12 26 f1) 12 30 f2) 12 28 f15) la) := (show va_D _ (WM h g ca (u2 (u2 (u2 (u2 (u2 iv 12 34 n22) 12 37 n7) 12 38 n8) 12 35 n25) 12 36 n26) lv (u2 (u2 (u2 fa 12 26 f1) 12 30 f2) 12 28 f15) la) from hD).weaken (fun _ _ _ h => hFc _ h)
                have xr24_0 : 1 ≤ (n25 : Int32).toInt := xr24_0
                obtain rfl : 0 = r24 := hr24.symm
                refine lv_if_eq (tgt := 295) hx hb dX12_readClause_282 (by decide) (fun c27 => ?_) (fun c27 => ?_)
                · skip
                  have hP9 : va_P (dC, dI) classes (WM h g ca (u2 (u2 (u2 (u2 (u2 iv 12 34 n22) 12 35 n25) 12 36 n26) 12 37 n7) 12 38 n8) lv (u2 (u2 (u2 fa 12 26 f1) 12 28 f15) 12 30 f2) la) H := hP
                  have hD9 : va_D A (WM h g ca (u2 (u2 (u2 (u2 (u2 iv 12 34 n22) 12 35 n25) 12 36 n26) 12 37 n7) 12 38 n8) lv (u2 (u2 (u2 fa 12 26 f1) 12 28 f15) 12 30 f2) la) := hD
                  exact W.vret hx hb hr (fun t ht9 hW => ⟨⟨((u2 (u2 (u2 (u2 (u2 iv 12 34 n22) 12 35 n25) 12 36 n26) 12 37 n7) 12 38 n8), lv, (u2 (u2 (u2 fa 12 26 f1) 12 28 f15) 12 30 f2), la), rfl, ⟨f1, f15, f2, n22, n25, n26, n7, n8, hf2, (show inb (0, 200) n22 from ⟨by omega, by omega⟩), (show inb (0, 5) n25 from ⟨by omega, by omega⟩), (show inb (0, 200) n7 from ⟨by omega, by omega⟩), (show inb (0, 200) n8 from ⟨by omega, by omega⟩), (show (iv 12 34).toInt ≤ (n22 : Int32).toInt from by omega), (show ∀ j : Nat, j ≠ k.toNatClampNeg → f1 j = (fa 12 26) j ∧ (fa 12 27) j = (fa 12 27) j ∧ f15 j = (fa 12 28) j from fun j hj => ⟨(by rw [ef1, upd_ne hj]), rfl, (by rw [ef15, upd_ne hj])⟩), (show ((n25 : Int32).toInt ≠ 0 ∨ gd3 (f1 k.toNatClampNeg) ((fa 12 27) k.toNatClampNeg) (f15 k.toNatClampNeg)) from (by
            have kc : (1 : Int32).toInt = 1 := by decide
            have kE : f1 k.toNatClampNeg = 1 := by rw [ef1]; exact upd_eq
            have fE : f15 k.toNatClampNeg = (-1) := by rw [ef15]; exact upd_eq
            have := congrArg Int32.toInt (ev16.trans fE)
            by_cases h0 : (n25 : Int32).toInt = 0
            · refine Or.inr ?_; rw [kE, fE]; unfold gd3; exact ⟨fun h => by omega, fun h h2 => by omega⟩
            · exact Or.inl h0)), rfl⟩, by rw [ht9]; exact hP9, hD9⟩, hS.F ht9⟩) hS.2.2 dX12_readClause_295
                · exact absurd rfl c27
              · have fc23 := z_eq (rfl : (r21).toInt = _) (by decide : (59 : Int32).toInt = 59) c23
                refine lv_iconst (v := 1) hx hb dX12_readClause_269 (by decide) ?_
                refine lv_goto (tgt := 274) hx hb dX12_readClause_270 (by decide) ?_
                refine lv_iconst (v := 1) hx hb dX12_readClause_274 (by decide) ?_
                refine lv_aload_n hx hb dX12_readClause_275 rfl (lv_at hl 1 rfl) ?_
                refine gM_12_34 hx hb ht hown hK hP m_1173 (v := n22) rfl dX12_readClause_276 ?_
                refine vp_callSi (W.runV (As := [.int 1, .int 1, .int n22]) (rest := []) ⟨hx, hb, hml, hown, ht⟩ (c_X12_want_1 l dC dI h g ca (u2 (u2 (u2 (u2 (u2 iv 12 34 n22) 12 37 n7) 12 38 n8) 12 35 n19) 12 36 n20) lv (u2 (u2 (u2 fa 12 26 f1) 12 30 f2) 12 28 f15) la (IX_a (c := 12) (k := 28) (IX_a (c := 12) (k := 30) (IX_a (c := 12) (k := 26) (IX_i (c := 12) (k := 36) (IX_i (c := 12) (k := 35) (IX_i (c := 12) (k := 38) (IX_i (c := 12) (k := 37) (IX_i (c := 12) (k := 34) hI (show inb (0, 200) n22 from ⟨by omega, by omega⟩)) (show inb (0, 200) n7 from ⟨by omega, by omega⟩)) (show inb (0, 200) n8 from ⟨by omega, by omega⟩)) (show inb (0, 5) n19 from ⟨by omega, by omega⟩)) (full_i _)) hf1) hf2) hf15) 1 n22) (kV 3 ht m_1472 m_1474 m_50 m_89 m_1475 rfl rfl hd_X12_want_v ⟨Nat.le_of_ble_eq_true rfl, Nat.le_of_ble_eq_true rfl⟩) (vR hP hK (rM_12 hK hP)) rfl rfl hl.1 rfl (lv_room (Nat.le_of_ble_eq_true rfl)) dX12_readClause_279 ⟨Nat.le_of_ble_eq_true rfl, Nat.le_of_ble_eq_true rfl⟩) (fun r28 hr28 => ?_)
                rcases hr28 with ⟨rfl, fr28⟩ | ⟨rfl, fr28⟩
                · skip
                  have fr28 : ((n19 : Int32).toInt = 0) := fr28
                  refine lv_if_eq (tgt := 295) hx hb dX12_readClause_282 (by decide) (fun c29 => ?_) (fun c29 => ?_)
                  · exact absurd c29 (by decide)
                  · skip
                    refine lv_aload_n hx hb dX12_readClause_285 rfl (lv_at hl 1 rfl) ?_
                    refine lv_dup hx hb dX12_readClause_286 rfl ?_
                    refine gM_12_34 hx hb ht hown hK hP m_1173 (v := n22) rfl dX12_readClause_287 ?_
                    refine lv_iconst (v := 1) hx hb dX12_readClause_290 (by decide) ?_
                    refine lv_iadd hx hb dX12_readClause_291 ?_
                    refine lv_topi (fun v30 ev30 => ?_)
                    have tv30 := z_add ev30 (rfl : (n22).toInt = _) (by decide : (1 : Int32).toInt = 1) (by omega) (by omega)
                    have : 0 ≤ (v30 : Int32).toInt ∧ (v30 : Int32).toInt ≤ 200 := ⟨by omega, by omega⟩
                    refine pM_12_34 (v := v30) hx hb ht hown hK hP hD hS m_1173 dX12_readClause_292 (fun H locs hP hD hS => ?_)
                    have hP : va_P (dC, dI) classes (WM h g ca (u2 (u2 (u2 (u2 (u2 iv 12 34 v30) 12 37 n7) 12 38 n8) 12 35 n19) 12 36 n20) lv (u2 (u2 (u2 fa 12 26 f1) 12 30 f2) 12 28 f15) la) H := hP
                    have hD : va_D A (WM h g ca (u2 (u2 (u2 (u2 (u2 iv 12 34 v30) 12 37 n7) 12 38 n8) 12 35 n19) 12 36 n20) lv (u2 (u2 (u2 fa 12 26 f1) 12 30 f2) 12 28 f15) la) := hD
                    have hP9 : va_P (dC, dI) classes (WM h g ca (u2 (u2 (u2 (u2 (u2 iv 12 34 v30) 12 35 n19) 12 36 n20) 12 37 n7) 12 38 n8) lv (u2 (u2 (u2 fa 12 26 f1) 12 28 f15) 12 30 f2) la) H := hP
                    have hD9 : va_D A (WM h g ca (u2 (u2 (u2 (u2 (u2 iv 12 34 v30) 12 35 n19) 12 36 n20) 12 37 n7) 12 38 n8) lv (u2 (u2 (u2 fa 12 26 f1) 12 28 f15) 12 30 f2) la) := hD
                    exact W.vret hx hb hr (fun t ht9 hW => ⟨⟨((u2 (u2 (u2 (u2 (u2 iv 12 34 v30) 12 35 n19) 12 36 n20) 12 37 n7) 12 38 n8), lv, (u2 (u2 (u2 fa 12 26 f1) 12 28 f15) 12 30 f2), la), rfl, ⟨f1, f15, f2, v30, n19, n20, n7, n8, hf2, (show inb (0, 200) v30 from ⟨by omega, by omega⟩), (show inb (0, 5) n19 from ⟨by omega, by omega⟩), (show inb (0, 200) n7 from ⟨by omega, by omega⟩), (show inb (0, 200) n8 from ⟨by omega, by omega⟩), (show (iv 12 34).toInt ≤ (v30 : Int32).toInt from by omega), (show ∀ j : Nat, j ≠ k.toNatClampNeg → f1 j = (fa 12 26) j ∧ (fa 12 27) j = (fa 12 27) j ∧ f15 j = (fa 12 28) j from fun j hj => ⟨(by rw [ef1, upd_ne hj]), rfl, (by rw [ef15, upd_ne hj])⟩), (show ((n19 : Int32).toInt ≠ 0 ∨ gd3 (f1 k.toNatClampNeg) ((fa 12 27) k.toNatClampNeg) (f15 k.toNatClampNeg)) from (by
            have kc : (1 : Int32).toInt = 1 := by decide
            have kE : f1 k.toNatClampNeg = 1 := by rw [ef1]; exact upd_eq
            have fE : f15 k.toNatClampNeg = (-1) := by rw [ef15]; exact upd_eq
            have := congrArg Int32.toInt (ev16.trans fE)
            by_cases h0 : (n19 : Int32).toInt = 0
            · refine Or.inr ?_; rw [kE, fE]; unfold gd3; exact ⟨fun h => by omega, fun h h2 => by omega⟩
            · exact Or.inl h0)), rfl⟩, by rw [ht9]; exact hP9, hD9⟩, hS.F ht9⟩) hS.2.2 dX12_readClause_295
                · skip
                  have fr28 : ¬ ((n19 : Int32).toInt = 0) := fr28
                  refine lv_if_eq (tgt := 295) hx hb dX12_readClause_282 (by decide) (fun c31 => ?_) (fun c31 => ?_)
                  · skip
                    have hP9 : va_P (dC, dI) classes (WM h g ca (u2 (u2 (u2 (u2 (u2 iv 12 34 n22) 12 35 n19) 12 36 n20) 12 37 n7) 12 38 n8) lv (u2 (u2 (u2 fa 12 26 f1) 12 28 f15) 12 30 f2) la) H := hP
                    have hD9 : va_D A (WM h g ca (u2 (u2 (u2 (u2 (u2 iv 12 34 n22) 12 35 n19) 12 36 n20) 12 37 n7) 12 38 n8) lv (u2 (u2 (u2 fa 12 26 f1) 12 28 f15) 12 30 f2) la) := hD
                    exact W.vret hx hb hr (fun t ht9 hW => ⟨⟨((u2 (u2 (u2 (u2 (u2 iv 12 34 n22) 12 35 n19) 12 36 n20) 12 37 n7) 12 38 n8), lv, (u2 (u2 (u2 fa 12 26 f1) 12 28 f15) 12 30 f2), la), rfl, ⟨f1, f15, f2, n22, n19, n20, n7, n8, hf2, (show inb (0, 200) n22 from ⟨by omega, by omega⟩), (show inb (0, 5) n19 from ⟨by omega, by omega⟩), (show inb (0, 200) n7 from ⟨by omega, by omega⟩), (show inb (0, 200) n8 from ⟨by omega, by omega⟩), (show (iv 12 34).toInt ≤ (n22 : Int32).toInt from by omega), (show ∀ j : Nat, j ≠ k.toNatClampNeg → f1 j = (fa 12 26) j ∧ (fa 12 27) j = (fa 12 27) j ∧ f15 j = (fa 12 28) j from fun j hj => ⟨(by rw [ef1, upd_ne hj]), rfl, (by rw [ef15, upd_ne hj])⟩), (show ((n19 : Int32).toInt ≠ 0 ∨ gd3 (f1 k.toNatClampNeg) ((fa 12 27) k.toNatClampNeg) (f15 k.toNatClampNeg)) from Or.inl (by omega)), rfl⟩, by rw [ht9]; exact hP9, hD9⟩, hS.F ht9⟩) hS.2.2 dX12_readClause_295
                  · exact absurd rfl c31
            · have fc17 := z_nlt (rfl : (v16).toInt = _) (by decide : (0 : Int32).toInt = 0) c17
              refine lv_iconst (v := 1) hx hb dX12_readClause_185 (by decide) ?_
              refine lv_goto (tgt := 190) hx hb dX12_readClause_186 (by decide) ?_
              refine lv_iconst (v := 1) hx hb dX12_readClause_190 (by decide) ?_
              refine lv_aload_n hx hb dX12_readClause_191 rfl (lv_at hl 0 rfl) ?_
              refine gM_12_37 hx hb ht hown hK hP m_1176 (v := n7) rfl dX12_readClause_192 ?_
              refine vp_callSi (W.runV (As := [.int 1, .int 1, .int n7]) (rest := []) ⟨hx, hb, hml, hown, ht⟩ (c_X12_want_1 l dC dI h g ca (u2 (u2 (u2 iv 12 34 n6) 12 37 n7) 12 38 n8) lv (u2 (u2 (u2 fa 12 26 f1) 12 30 f2) 12 28 f15) la (IX_a (c := 12) (k := 28) (IX_a (c := 12) (k := 30) (IX_a (c := 12) (k := 26) (IX_i (c := 12) (k := 38) (IX_i (c := 12) (k := 37) (IX_i (c := 12) (k := 34) hI (show inb (0, 200) n6 from ⟨by omega, by omega⟩)) (show inb (0, 200) n7 from ⟨by omega, by omega⟩)) (show inb (0, 200) n8 from ⟨by omega, by omega⟩)) hf1) hf2) hf15) 1 n7) (kV 3 ht m_1472 m_1474 m_50 m_89 m_1475 rfl rfl hd_X12_want_v ⟨Nat.le_of_ble_eq_true rfl, Nat.le_of_ble_eq_true rfl⟩) (vR hP hK (rM_12 hK hP)) rfl rfl hl.1 rfl (lv_room (Nat.le_of_ble_eq_true rfl)) dX12_readClause_195 ⟨Nat.le_of_ble_eq_true rfl, Nat.le_of_ble_eq_true rfl⟩) (fun r32 hr32 => ?_)
              rcases hr32 with ⟨rfl, fr32⟩ | ⟨rfl, fr32⟩
              have i_12_35 : 0 ≤ (iv 12 35).toInt ∧ (iv 12 35).toInt ≤ 5 := hI.1 12 35
              · skip
                have i_12_35 : 0 ≤ (iv 12 35).toInt ∧ (iv 12 35).toInt ≤ 5 := hI.1 12 35
                have fr32 : (((iv 12 35) : Int32).toInt = 0) := fr32
                refine lv_istore_n (lv' := [(3, .int 1), (0, .ref h), (1, .int 1), (2, .int k)]) hx hb dX12_readClause_198 rfl hl (by decide) rfl (fun ls hl => ?_)
                refine lv_goto (tgt := 257) hx hb dX12_readClause_199 (by decide) ?_
                refine lv_aload_n hx hb dX12_readClause_257 rfl (lv_at hl 1 rfl) ?_
                have hFc := free_all hD hS hA
                refine va_calli (va_runV (As := []) (rest := []) ⟨hx, hb, hml, hown, ht⟩ (c_X12_here_x l dC dI H.size h g ca (u2 (u2 (u2 iv 12 34 n6) 12 37 n7) 12 38 n8) lv (u2 (u2 (u2 fa 12 26 f1) 12 30 f2) 12 28 f15) la (IX_a (c := 12) (k := 28) (IX_a (c := 12) (k := 30) (IX_a (c := 12) (k := 26) (IX_i (c := 12) (k := 38) (IX_i (c := 12) (k := 37) (IX_i (c := 12) (k := 34) hI (show inb (0, 200) n6 from ⟨by omega, by omega⟩)) (show inb (0, 200) n7 from ⟨by omega, by omega⟩)) (show inb (0, 200) n8 from ⟨by omega, by omega⟩)) hf1) hf2) hf15)) (kV 0 ht m_1458 m_1460 m_47 m_89 m_1461 rfl rfl hd_X12_here_v ⟨Nat.le_of_ble_eq_true rfl, Nat.le_of_ble_eq_true rfl⟩) (vW hP hK hD (rM_12 hK hP)) rfl rfl hl.1 rfl (lv_room (Nat.le_of_ble_eq_true rfl)) dX12_readClause_258 ⟨Nat.le_of_ble_eq_true rfl, Nat.le_of_ble_eq_true rfl⟩) hS (fun q _ h => hFc q h) hFc (fun r33 u t H1 locs ht9 hvm hr33 hB hz1 hk1 hS => ?_)
                obtain ⟨n34, hn34, xr33_0, xr33_1, hr33, rfl⟩ := hr33
                have hn34 : 0 ≤ n34.toInt ∧ n34.toInt ≤ 200 := hn34
                obtain ⟨hP, hD⟩ := hB
                rw [ht9] at hP
                generalize H1 = H at hP hS ⊢
                have hP : va_P (dC, dI) classes (WM h g ca (u2 (u2 (u2 iv 12 34 n34) 12 37 n7) 12 38 n8) lv (u2 (u2 (u2 fa 12 26 f1) 12 30 f2) 12 28 f15) la) H := hP
                have hD : va_D A (WM h g ca (u2 (u2 (u2 iv 12 34 n34) 12 37 n7) 12 38 n8) lv (u2 (u2 (u2 fa 12 26 f1) 12 30 f2) 12 28 f15) la) := (show va_D _ (WM h g ca (u2 (u2 (u2 iv 12 34 n34) 12 37 n7) 12 38 n8) lv (u2 (u2 (u2 fa 12 26 f1) 12 30 f2) 12 28 f15) la) from hD).weaken (fun _ _ _ h => hFc _ h)
                have xr33_0 : (n6 : Int32).toInt ≤ (n34 : Int32).toInt := xr33_0
                have i_12_33 : 0 ≤ (iv 12 33).toInt ∧ (iv 12 33).toInt ≤ 200 := hI.1 12 33
                have xr33_1 : ((r33 : Int32).toInt = -1 ∨ (n34 : Int32).toInt + 1 ≤ ((iv 12 33) : Int32).toInt) := xr33_1
                refine lv_istore_n (lv' := [(3, .int r33), (0, .ref h), (1, .int 1), (2, .int k)]) hx hb dX12_readClause_261 rfl hl (by decide) rfl (fun ls hl => ?_)
                refine lv_aload_n hx hb dX12_readClause_262 rfl (lv_at hl 1 rfl) ?_
                refine lv_iload_n hx hb dX12_readClause_263 rfl (lv_at hl 0 rfl) ?_
                refine lv_bipush (v := 59) hx hb dX12_readClause_264 (by decide) ?_
                refine lv_icmp_ne (tgt := 273) hx hb dX12_readClause_266 (by decide) (fun c35 => ?_) (fun c35 => ?_)
                · have fc35 := z_ne (rfl : (r33).toInt = _) (by decide : (59 : Int32).toInt = 59) c35
                  refine lv_iconst (v := 0) hx hb dX12_readClause_273 (by decide) ?_
                  refine lv_iconst (v := 1) hx hb dX12_readClause_274 (by decide) ?_
                  refine lv_aload_n hx hb dX12_readClause_275 rfl (lv_at hl 1 rfl) ?_
                  refine gM_12_34 hx hb ht hown hK hP m_1173 (v := n34) rfl dX12_readClause_276 ?_
                  have hFc := free_all hD hS hA
                  refine va_calli (va_runV (As := [.int 0, .int 1, .int n34]) (rest := []) ⟨hx, hb, hml, hown, ht⟩ (c_X12_want_0 l dC dI H.size h g ca (u2 (u2 (u2 iv 12 34 n34) 12 37 n7) 12 38 n8) lv (u2 (u2 (u2 fa 12 26 f1) 12 30 f2) 12 28 f15) la (IX_a (c := 12) (k := 28) (IX_a (c := 12) (k := 30) (IX_a (c := 12) (k := 26) (IX_i (c := 12) (k := 38) (IX_i (c := 12) (k := 37) (IX_i (c := 12) (k := 34) hI (show inb (0, 200) n34 from ⟨by omega, by omega⟩)) (show inb (0, 200) n7 from ⟨by omega, by omega⟩)) (show inb (0, 200) n8 from ⟨by omega, by omega⟩)) hf1) hf2) hf15) 1 n34 ⟨by decide, by decide⟩) (kV 3 ht m_1472 m_1474 m_50 m_89 m_1475 rfl rfl hd_X12_want_v ⟨Nat.le_of_ble_eq_true rfl, Nat.le_of_ble_eq_true rfl⟩) (vW hP hK hD (rM_12 hK hP)) rfl rfl hl.1 rfl (lv_room (Nat.le_of_ble_eq_true rfl)) dX12_readClause_279 ⟨Nat.le_of_ble_eq_true rfl, Nat.le_of_ble_eq_true rfl⟩) hS (fun q _ h => hFc q h) hFc (fun r36 u t H1 locs ht9 hvm hr36 hB hz1 hk1 hS => ?_)
                  obtain ⟨n37, n38, hn37, xr36_0, hr36, rfl⟩ := hr36
                  have hn37 : 0 ≤ n37.toInt ∧ n37.toInt ≤ 5 := hn37
                  obtain ⟨hP, hD⟩ := hB
                  rw [ht9] at hP
                  generalize H1 = H at hP hS ⊢
                  have hP : va_P (dC, dI) classes (WM h g ca (u2 (u2 (u2 (u2 (u2 iv 12 34 n34) 12 37 n7) 12 38 n8) 12 35 n37) 12 36 n38) lv (u2 (u2 (u2 fa 12 26 f1) 12 30 f2) 12 28 f15) la) H := hP
                  have hD : va_D A (WM h g ca (u2 (u2 (u2 (u2 (u2 iv 12 34 n34) 12 37 n7) 12 38 n8) 12 35 n37) 12 36 n38) lv (u2 (u2 (u2 fa 12 26 f1) 12 30 f2) 12 28 f15) la) := (show va_D _ (WM h g ca (u2 (u2 (u2 (u2 (u2 iv 12 34 n34) 12 37 n7) 12 38 n8) 12 35 n37) 12 36 n38) lv (u2 (u2 (u2 fa 12 26 f1) 12 30 f2) 12 28 f15) la) from hD).weaken (fun _ _ _ h => hFc _ h)
                  have xr36_0 : 1 ≤ (n37 : Int32).toInt := xr36_0
                  obtain rfl : 0 = r36 := hr36.symm
                  refine lv_if_eq (tgt := 295) hx hb dX12_readClause_282 (by decide) (fun c39 => ?_) (fun c39 => ?_)
                  · skip
                    have hP9 : va_P (dC, dI) classes (WM h g ca (u2 (u2 (u2 (u2 (u2 iv 12 34 n34) 12 35 n37) 12 36 n38) 12 37 n7) 12 38 n8) lv (u2 (u2 (u2 fa 12 26 f1) 12 28 f15) 12 30 f2) la) H := hP
                    have hD9 : va_D A (WM h g ca (u2 (u2 (u2 (u2 (u2 iv 12 34 n34) 12 35 n37) 12 36 n38) 12 37 n7) 12 38 n8) lv (u2 (u2 (u2 fa 12 26 f1) 12 28 f15) 12 30 f2) la) := hD
                    exact W.vret hx hb hr (fun t ht9 hW => ⟨⟨((u2 (u2 (u2 (u2 (u2 iv 12 34 n34) 12 35 n37) 12 36 n38) 12 37 n7) 12 38 n8), lv, (u2 (u2 (u2 fa 12 26 f1) 12 28 f15) 12 30 f2), la), rfl, ⟨f1, f15, f2, n34, n37, n38, n7, n8, hf2, (show inb (0, 200) n34 from ⟨by omega, by omega⟩), (show inb (0, 5) n37 from ⟨by omega, by omega⟩), (show inb (0, 200) n7 from ⟨by omega, by omega⟩), (show inb (0, 200) n8 from ⟨by omega, by omega⟩), (show (iv 12 34).toInt ≤ (n34 : Int32).toInt from by omega), (show ∀ j : Nat, j ≠ k.toNatClampNeg → f1 j = (fa 12 26) j ∧ (fa 12 27) j = (fa 12 27) j ∧ f15 j = (fa 12 28) j from fun j hj => ⟨(by rw [ef1, upd_ne hj]), rfl, (by rw [ef15, upd_ne hj])⟩), (show ((n37 : Int32).toInt ≠ 0 ∨ gd3 (f1 k.toNatClampNeg) ((fa 12 27) k.toNatClampNeg) (f15 k.toNatClampNeg)) from (by
            have kc : (1 : Int32).toInt = 1 := by decide
            have kE : f1 k.toNatClampNeg = 1 := by rw [ef1]; exact upd_eq
            have fE : f15 k.toNatClampNeg = (-1) := by rw [ef15]; exact upd_eq
            have := congrArg Int32.toInt (ev16.trans fE)
            by_cases h0 : (n37 : Int32).toInt = 0
            · refine Or.inr ?_; rw [kE, fE]; unfold gd3; exact ⟨fun h => by omega, fun h h2 => by omega⟩
            · exact Or.inl h0)), rfl⟩, by rw [ht9]; exact hP9, hD9⟩, hS.F ht9⟩) hS.2.2 dX12_readClause_295
                  · exact absurd rfl c39
                · have fc35 := z_eq (rfl : (r33).toInt = _) (by decide : (59 : Int32).toInt = 59) c35
                  refine lv_iconst (v := 1) hx hb dX12_readClause_269 (by decide) ?_
                  refine lv_goto (tgt := 274) hx hb dX12_readClause_270 (by decide) ?_
                  refine lv_iconst (v := 1) hx hb dX12_readClause_274 (by decide) ?_
                  refine lv_aload_n hx hb dX12_readClause_275 rfl (lv_at hl 1 rfl) ?_
                  refine gM_12_34 hx hb ht hown hK hP m_1173 (v := n34) rfl dX12_readClause_276 ?_
                  refine vp_callSi (W.runV (As := [.int 1, .int 1, .int n34]) (rest := []) ⟨hx, hb, hml, hown, ht⟩ (c_X12_want_1 l dC dI h g ca (u2 (u2 (u2 iv 12 34 n34) 12 37 n7) 12 38 n8) lv (u2 (u2 (u2 fa 12 26 f1) 12 30 f2) 12 28 f15) la (IX_a (c := 12) (k := 28) (IX_a (c := 12) (k := 30) (IX_a (c := 12) (k := 26) (IX_i (c := 12) (k := 38) (IX_i (c := 12) (k := 37) (IX_i (c := 12) (k := 34) hI (show inb (0, 200) n34 from ⟨by omega, by omega⟩)) (show inb (0, 200) n7 from ⟨by omega, by omega⟩)) (show inb (0, 200) n8 from ⟨by omega, by omega⟩)) hf1) hf2) hf15) 1 n34) (kV 3 ht m_1472 m_1474 m_50 m_89 m_1475 rfl rfl hd_X12_want_v ⟨Nat.le_of_ble_eq_true rfl, Nat.le_of_ble_eq_true rfl⟩) (vR hP hK (rM_12 hK hP)) rfl rfl hl.1 rfl (lv_room (Nat.le_of_ble_eq_true rfl)) dX12_readClause_279 ⟨Nat.le_of_ble_eq_true rfl, Nat.le_of_ble_eq_true rfl⟩) (fun r40 hr40 => ?_)
                  rcases hr40 with ⟨rfl, fr40⟩ | ⟨rfl, fr40⟩
                  · skip
                    have fr40 : (((iv 12 35) : Int32).toInt = 0) := fr40
                    refine lv_if_eq (tgt := 295) hx hb dX12_readClause_282 (by decide) (fun c41 => ?_) (fun c41 => ?_)
                    · exact absurd c41 (by decide)
                    · skip
                      refine lv_aload_n hx hb dX12_readClause_285 rfl (lv_at hl 1 rfl) ?_
                      refine lv_dup hx hb dX12_readClause_286 rfl ?_
                      refine gM_12_34 hx hb ht hown hK hP m_1173 (v := n34) rfl dX12_readClause_287 ?_
                      refine lv_iconst (v := 1) hx hb dX12_readClause_290 (by decide) ?_
                      refine lv_iadd hx hb dX12_readClause_291 ?_
                      refine lv_topi (fun v42 ev42 => ?_)
                      have tv42 := z_add ev42 (rfl : (n34).toInt = _) (by decide : (1 : Int32).toInt = 1) (by omega) (by omega)
                      have : 0 ≤ (v42 : Int32).toInt ∧ (v42 : Int32).toInt ≤ 200 := ⟨by omega, by omega⟩
                      refine pM_12_34 (v := v42) hx hb ht hown hK hP hD hS m_1173 dX12_readClause_292 (fun H locs hP hD hS => ?_)
                      have hP : va_P (dC, dI) classes (WM h g ca (u2 (u2 (u2 iv 12 34 v42) 12 37 n7) 12 38 n8) lv (u2 (u2 (u2 fa 12 26 f1) 12 30 f2) 12 28 f15) la) H := hP
                      have hD : va_D A (WM h g ca (u2 (u2 (u2 iv 12 34 v42) 12 37 n7) 12 38 n8) lv (u2 (u2 (u2 fa 12 26 f1) 12 30 f2) 12 28 f15) la) := hD
                      have hP9 : va_P (dC, dI) classes (WM h g ca (u2 (u2 (u2 (u2 (u2 iv 12 34 v42) 12 35 (iv 12 35)) 12 36 (iv 12 36)) 12 37 n7) 12 38 n8) lv (u2 (u2 (u2 fa 12 26 f1) 12 28 f15) 12 30 f2) la) H := hP
                      have hD9 : va_D A (WM h g ca (u2 (u2 (u2 (u2 (u2 iv 12 34 v42) 12 35 (iv 12 35)) 12 36 (iv 12 36)) 12 37 n7) 12 38 n8) lv (u2 (u2 (u2 fa 12 26 f1) 12 28 f15) 12 30 f2) la) := hD
                      exact W.vret hx hb hr (fun t ht9 hW => ⟨⟨((u2 (u2 (u2 (u2 (u2 iv 12 34 v42) 12 35 (iv 12 35)) 12 36 (iv 12 36)) 12 37 n7) 12 38 n8), lv, (u2 (u2 (u2 fa 12 26 f1) 12 28 f15) 12 30 f2), la), rfl, ⟨f1, f15, f2, v42, (iv 12 35), (iv 12 36), n7, n8, hf2, (show inb (0, 200) v42 from ⟨by omega, by omega⟩), (hI.1 12 35), (show inb (0, 200) n7 from ⟨by omega, by omega⟩), (show inb (0, 200) n8 from ⟨by omega, by omega⟩), (show (iv 12 34).toInt ≤ (v42 : Int32).toInt from by omega), (show ∀ j : Nat, j ≠ k.toNatClampNeg → f1 j = (fa 12 26) j ∧ (fa 12 27) j = (fa 12 27) j ∧ f15 j = (fa 12 28) j from fun j hj => ⟨(by rw [ef1, upd_ne hj]), rfl, (by rw [ef15, upd_ne hj])⟩), (show (((iv 12 35) : Int32).toInt ≠ 0 ∨ gd3 (f1 k.toNatClampNeg) ((fa 12 27) k.toNatClampNeg) (f15 k.toNatClampNeg)) from (by
            have kc : (1 : Int32).toInt = 1 := by decide
            have kE : f1 k.toNatClampNeg = 1 := by rw [ef1]; exact upd_eq
            have fE : f15 k.toNatClampNeg = (-1) := by rw [ef15]; exact upd_eq
            have := congrArg Int32.toInt (ev16.trans fE)
            by_cases h0 : ((iv 12 35) : Int32).toInt = 0
            · refine Or.inr ?_; rw [kE, fE]; unfold gd3; exact ⟨fun h => by omega, fun h h2 => by omega⟩
            · exact Or.inl h0)), rfl⟩, by rw [ht9]; exact hP9, hD9⟩, hS.F ht9⟩) hS.2.2 dX12_readClause_295
                  · skip
                    have fr40 : ¬ (((iv 12 35) : Int32).toInt = 0) := fr40
                    exfalso; omega
              · skip
                have fr32 : ¬ (((iv 12 35) : Int32).toInt = 0) := fr32
                refine lv_istore_n (lv' := [(3, .int 0), (0, .ref h), (1, .int 1), (2, .int k)]) hx hb dX12_readClause_198 rfl hl (by decide) rfl (fun ls hl => ?_)
                refine lv_goto (tgt := 257) hx hb dX12_readClause_199 (by decide) ?_
                refine lv_aload_n hx hb dX12_readClause_257 rfl (lv_at hl 1 rfl) ?_
                have hFc := free_all hD hS hA
                refine va_calli (va_runV (As := []) (rest := []) ⟨hx, hb, hml, hown, ht⟩ (c_X12_here_x l dC dI H.size h g ca (u2 (u2 (u2 iv 12 34 n6) 12 37 n7) 12 38 n8) lv (u2 (u2 (u2 fa 12 26 f1) 12 30 f2) 12 28 f15) la (IX_a (c := 12) (k := 28) (IX_a (c := 12) (k := 30) (IX_a (c := 12) (k := 26) (IX_i (c := 12) (k := 38) (IX_i (c := 12) (k := 37) (IX_i (c := 12) (k := 34) hI (show inb (0, 200) n6 from ⟨by omega, by omega⟩)) (show inb (0, 200) n7 from ⟨by omega, by omega⟩)) (show inb (0, 200) n8 from ⟨by omega, by omega⟩)) hf1) hf2) hf15)) (kV 0 ht m_1458 m_1460 m_47 m_89 m_1461 rfl rfl hd_X12_here_v ⟨Nat.le_of_ble_eq_true rfl, Nat.le_of_ble_eq_true rfl⟩) (vW hP hK hD (rM_12 hK hP)) rfl rfl hl.1 rfl (lv_room (Nat.le_of_ble_eq_true rfl)) dX12_readClause_258 ⟨Nat.le_of_ble_eq_true rfl, Nat.le_of_ble_eq_true rfl⟩) hS (fun q _ h => hFc q h) hFc (fun r43 u t H1 locs ht9 hvm hr43 hB hz1 hk1 hS => ?_)
                obtain ⟨n44, hn44, xr43_0, xr43_1, hr43, rfl⟩ := hr43
                have hn44 : 0 ≤ n44.toInt ∧ n44.toInt ≤ 200 := hn44
                obtain ⟨hP, hD⟩ := hB
                rw [ht9] at hP
                generalize H1 = H at hP hS ⊢
                have hP : va_P (dC, dI) classes (WM h g ca (u2 (u2 (u2 iv 12 34 n44) 12 37 n7) 12 38 n8) lv (u2 (u2 (u2 fa 12 26 f1) 12 30 f2) 12 28 f15) la) H := hP
                have hD : va_D A (WM h g ca (u2 (u2 (u2 iv 12 34 n44) 12 37 n7) 12 38 n8) lv (u2 (u2 (u2 fa 12 26 f1) 12 30 f2) 12 28 f15) la) := (show va_D _ (WM h g ca (u2 (u2 (u2 iv 12 34 n44) 12 37 n7) 12 38 n8) lv (u2 (u2 (u2 fa 12 26 f1) 12 30 f2) 12 28 f15) la) from hD).weaken (fun _ _ _ h => hFc _ h)
                have xr43_0 : (n6 : Int32).toInt ≤ (n44 : Int32).toInt := xr43_0
                have i_12_33 : 0 ≤ (iv 12 33).toInt ∧ (iv 12 33).toInt ≤ 200 := hI.1 12 33
                have xr43_1 : ((r43 : Int32).toInt = -1 ∨ (n44 : Int32).toInt + 1 ≤ ((iv 12 33) : Int32).toInt) := xr43_1
                refine lv_istore_n (lv' := [(3, .int r43), (0, .ref h), (1, .int 1), (2, .int k)]) hx hb dX12_readClause_261 rfl hl (by decide) rfl (fun ls hl => ?_)
                refine lv_aload_n hx hb dX12_readClause_262 rfl (lv_at hl 1 rfl) ?_
                refine lv_iload_n hx hb dX12_readClause_263 rfl (lv_at hl 0 rfl) ?_
                refine lv_bipush (v := 59) hx hb dX12_readClause_264 (by decide) ?_
                refine lv_icmp_ne (tgt := 273) hx hb dX12_readClause_266 (by decide) (fun c45 => ?_) (fun c45 => ?_)
                · have fc45 := z_ne (rfl : (r43).toInt = _) (by decide : (59 : Int32).toInt = 59) c45
                  refine lv_iconst (v := 0) hx hb dX12_readClause_273 (by decide) ?_
                  refine lv_iconst (v := 1) hx hb dX12_readClause_274 (by decide) ?_
                  refine lv_aload_n hx hb dX12_readClause_275 rfl (lv_at hl 1 rfl) ?_
                  refine gM_12_34 hx hb ht hown hK hP m_1173 (v := n44) rfl dX12_readClause_276 ?_
                  have hFc := free_all hD hS hA
                  refine va_calli (va_runV (As := [.int 0, .int 1, .int n44]) (rest := []) ⟨hx, hb, hml, hown, ht⟩ (c_X12_want_0 l dC dI H.size h g ca (u2 (u2 (u2 iv 12 34 n44) 12 37 n7) 12 38 n8) lv (u2 (u2 (u2 fa 12 26 f1) 12 30 f2) 12 28 f15) la (IX_a (c := 12) (k := 28) (IX_a (c := 12) (k := 30) (IX_a (c := 12) (k := 26) (IX_i (c := 12) (k := 38) (IX_i (c := 12) (k := 37) (IX_i (c := 12) (k := 34) hI (show inb (0, 200) n44 from ⟨by omega, by omega⟩)) (show inb (0, 200) n7 from ⟨by omega, by omega⟩)) (show inb (0, 200) n8 from ⟨by omega, by omega⟩)) hf1) hf2) hf15) 1 n44 ⟨by decide, by decide⟩) (kV 3 ht m_1472 m_1474 m_50 m_89 m_1475 rfl rfl hd_X12_want_v ⟨Nat.le_of_ble_eq_true rfl, Nat.le_of_ble_eq_true rfl⟩) (vW hP hK hD (rM_12 hK hP)) rfl rfl hl.1 rfl (lv_room (Nat.le_of_ble_eq_true rfl)) dX12_readClause_279 ⟨Nat.le_of_ble_eq_true rfl, Nat.le_of_ble_eq_true rfl⟩) hS (fun q _ h => hFc q h) hFc (fun r46 u t H1 locs ht9 hvm hr46 hB hz1 hk1 hS => ?_)
                  obtain ⟨n47, n48, hn47, xr46_0, hr46, rfl⟩ := hr46
                  have hn47 : 0 ≤ n47.toInt ∧ n47.toInt ≤ 5 := hn47
                  obtain ⟨hP, hD⟩ := hB
                  rw [ht9] at hP
                  generalize H1 = H at hP hS ⊢
                  have hP : va_P (dC, dI) classes (WM h g ca (u2 (u2 (u2 (u2 (u2 iv 12 34 n44) 12 37 n7) 12 38 n8) 12 35 n47) 12 36 n48) lv (u2 (u2 (u2 fa 12 26 f1) 12 30 f2) 12 28 f15) la) H := hP
                  have hD : va_D A (WM h g ca (u2 (u2 (u2 (u2 (u2 iv 12 34 n44) 12 37 n7) 12 38 n8) 12 35 n47) 12 36 n48) lv (u2 (u2 (u2 fa 12 26 f1) 12 30 f2) 12 28 f15) la) := (show va_D _ (WM h g ca (u2 (u2 (u2 (u2 (u2 iv 12 34 n44) 12 37 n7) 12 38 n8) 12 35 n47) 12 36 n48) lv (u2 (u2 (u2 fa 12 26 f1) 12 30 f2) 12 28 f15) la) from hD).weaken (fun _ _ _ h => hFc _ h)
                  have xr46_0 : 1 ≤ (n47 : Int32).toInt := xr46_0
                  obtain rfl : 0 = r46 := hr46.symm
                  refine lv_if_eq (tgt := 295) hx hb dX12_readClause_282 (by decide) (fun c49 => ?_) (fun c49 => ?_)
                  · skip
                    have hP9 : va_P (dC, dI) classes (WM h g ca (u2 (u2 (u2 (u2 (u2 iv 12 34 n44) 12 35 n47) 12 36 n48) 12 37 n7) 12 38 n8) lv (u2 (u2 (u2 fa 12 26 f1) 12 28 f15) 12 30 f2) la) H := hP
                    have hD9 : va_D A (WM h g ca (u2 (u2 (u2 (u2 (u2 iv 12 34 n44) 12 35 n47) 12 36 n48) 12 37 n7) 12 38 n8) lv (u2 (u2 (u2 fa 12 26 f1) 12 28 f15) 12 30 f2) la) := hD
                    exact W.vret hx hb hr (fun t ht9 hW => ⟨⟨((u2 (u2 (u2 (u2 (u2 iv 12 34 n44) 12 35 n47) 12 36 n48) 12 37 n7) 12 38 n8), lv, (u2 (u2 (u2 fa 12 26 f1) 12 28 f15) 12 30 f2), la), rfl, ⟨f1, f15, f2, n44, n47, n48, n7, n8, hf2, (show inb (0, 200) n44 from ⟨by omega, by omega⟩), (show inb (0, 5) n47 from ⟨by omega, by omega⟩), (show inb (0, 200) n7 from ⟨by omega, by omega⟩), (show inb (0, 200) n8 from ⟨by omega, by omega⟩), (show (iv 12 34).toInt ≤ (n44 : Int32).toInt from by omega), (show ∀ j : Nat, j ≠ k.toNatClampNeg → f1 j = (fa 12 26) j ∧ (fa 12 27) j = (fa 12 27) j ∧ f15 j = (fa 12 28) j from fun j hj => ⟨(by rw [ef1, upd_ne hj]), rfl, (by rw [ef15, upd_ne hj])⟩), (show ((n47 : Int32).toInt ≠ 0 ∨ gd3 (f1 k.toNatClampNeg) ((fa 12 27) k.toNatClampNeg) (f15 k.toNatClampNeg)) from (by
            have kc : (1 : Int32).toInt = 1 := by decide
            have kE : f1 k.toNatClampNeg = 1 := by rw [ef1]; exact upd_eq
            have fE : f15 k.toNatClampNeg = (-1) := by rw [ef15]; exact upd_eq
            have := congrArg Int32.toInt (ev16.trans fE)
            by_cases h0 : (n47 : Int32).toInt = 0
            · refine Or.inr ?_; rw [kE, fE]; unfold gd3; exact ⟨fun h => by omega, fun h h2 => by omega⟩
            · exact Or.inl h0)), rfl⟩, by rw [ht9]; exact hP9, hD9⟩, hS.F ht9⟩) hS.2.2 dX12_readClause_295
                  · exact absurd rfl c49
                · have fc45 := z_eq (rfl : (r43).toInt = _) (by decide : (59 : Int32).toInt = 59) c45
                  refine lv_iconst (v := 1) hx hb dX12_readClause_269 (by decide) ?_
                  refine lv_goto (tgt := 274) hx hb dX12_readClause_270 (by decide) ?_
                  refine lv_iconst (v := 1) hx hb dX12_readClause_274 (by decide) ?_
                  refine lv_aload_n hx hb dX12_readClause_275 rfl (lv_at hl 1 rfl) ?_
                  refine gM_12_34 hx hb ht hown hK hP m_1173 (v := n44) rfl dX12_readClause_276 ?_
                  refine vp_callSi (W.runV (As := [.int 1, .int 1, .int n44]) (rest := []) ⟨hx, hb, hml, hown, ht⟩ (c_X12_want_1 l dC dI h g ca (u2 (u2 (u2 iv 12 34 n44) 12 37 n7) 12 38 n8) lv (u2 (u2 (u2 fa 12 26 f1) 12 30 f2) 12 28 f15) la (IX_a (c := 12) (k := 28) (IX_a (c := 12) (k := 30) (IX_a (c := 12) (k := 26) (IX_i (c := 12) (k := 38) (IX_i (c := 12) (k := 37) (IX_i (c := 12) (k := 34) hI (show inb (0, 200) n44 from ⟨by omega, by omega⟩)) (show inb (0, 200) n7 from ⟨by omega, by omega⟩)) (show inb (0, 200) n8 from ⟨by omega, by omega⟩)) hf1) hf2) hf15) 1 n44) (kV 3 ht m_1472 m_1474 m_50 m_89 m_1475 rfl rfl hd_X12_want_v ⟨Nat.le_of_ble_eq_true rfl, Nat.le_of_ble_eq_true rfl⟩) (vR hP hK (rM_12 hK hP)) rfl rfl hl.1 rfl (lv_room (Nat.le_of_ble_eq_true rfl)) dX12_readClause_279 ⟨Nat.le_of_ble_eq_true rfl, Nat.le_of_ble_eq_true rfl⟩) (fun r50 hr50 => ?_)
                  rcases hr50 with ⟨rfl, fr50⟩ | ⟨rfl, fr50⟩
                  · skip
                    have fr50 : (((iv 12 35) : Int32).toInt = 0) := fr50
                    exfalso; omega
                  · skip
                    have fr50 : ¬ (((iv 12 35) : Int32).toInt = 0) := fr50
                    refine lv_if_eq (tgt := 295) hx hb dX12_readClause_282 (by decide) (fun c51 => ?_) (fun c51 => ?_)
                    · skip
                      have hP9 : va_P (dC, dI) classes (WM h g ca (u2 (u2 (u2 (u2 (u2 iv 12 34 n44) 12 35 (iv 12 35)) 12 36 (iv 12 36)) 12 37 n7) 12 38 n8) lv (u2 (u2 (u2 fa 12 26 f1) 12 28 f15) 12 30 f2) la) H := hP
                      have hD9 : va_D A (WM h g ca (u2 (u2 (u2 (u2 (u2 iv 12 34 n44) 12 35 (iv 12 35)) 12 36 (iv 12 36)) 12 37 n7) 12 38 n8) lv (u2 (u2 (u2 fa 12 26 f1) 12 28 f15) 12 30 f2) la) := hD
                      exact W.vret hx hb hr (fun t ht9 hW => ⟨⟨((u2 (u2 (u2 (u2 (u2 iv 12 34 n44) 12 35 (iv 12 35)) 12 36 (iv 12 36)) 12 37 n7) 12 38 n8), lv, (u2 (u2 (u2 fa 12 26 f1) 12 28 f15) 12 30 f2), la), rfl, ⟨f1, f15, f2, n44, (iv 12 35), (iv 12 36), n7, n8, hf2, (show inb (0, 200) n44 from ⟨by omega, by omega⟩), (hI.1 12 35), (show inb (0, 200) n7 from ⟨by omega, by omega⟩), (show inb (0, 200) n8 from ⟨by omega, by omega⟩), (show (iv 12 34).toInt ≤ (n44 : Int32).toInt from by omega), (show ∀ j : Nat, j ≠ k.toNatClampNeg → f1 j = (fa 12 26) j ∧ (fa 12 27) j = (fa 12 27) j ∧ f15 j = (fa 12 28) j from fun j hj => ⟨(by rw [ef1, upd_ne hj]), rfl, (by rw [ef15, upd_ne hj])⟩), (show (((iv 12 35) : Int32).toInt ≠ 0 ∨ gd3 (f1 k.toNatClampNeg) ((fa 12 27) k.toNatClampNeg) (f15 k.toNatClampNeg)) from Or.inl (by omega)), rfl⟩, by rw [ht9]; exact hP9, hD9⟩, hS.F ht9⟩) hS.2.2 dX12_readClause_295
                    · exact absurd rfl c51
          · have fc14 := z_ne (rfl : (r13).toInt = _) (by decide : (0 : Int32).toInt = 0) c14
            refine lv_iconst (v := 2) hx hb dX12_readClause_169 (by decide) ?_
            refine lv_goto (tgt := 174) hx hb dX12_readClause_170 (by decide) ?_
            refine tM_12_28 hx hb hK hP hD hS (f0 := (fa 12 28)) rfl (i := k) (x := 2) (vp_in_iff.mpr ⟨by omega, by omega⟩) dX12_readClause_174 (fun f52 ef52 H locs hP hD hS => ?_)
            have hf52 : ∀ j, inb (bA 12 28 j) (f52 j) := fun j => full_i _
            refine lv_aload_n hx hb dX12_readClause_175 rfl (lv_at hl 0 rfl) ?_
            refine lv_aload_n hx hb dX12_readClause_176 rfl (lv_at hl 0 rfl) ?_
            refine gM_12_28 hx hb ht hown hK hP m_1167 dX12_readClause_177 ?_
            refine lv_iload_n hx hb dX12_readClause_180 rfl (lv_at hl 2 rfl) ?_
            refine lM_12_28 hx hb hK hP (f := f52) rfl (vp_in_iff.mpr ⟨by omega, by omega⟩) dX12_readClause_181 ?_
            refine lv_topi (fun v53 ev53 => ?_)
            refine lv_if_lt (tgt := 189) hx hb dX12_readClause_182 (by decide) (fun c54 => ?_) (fun c54 => ?_)
            · have fc54 := z_lt (rfl : (v53).toInt = _) (by decide : (0 : Int32).toInt = 0) c54
              refine lv_iconst (v := 0) hx hb dX12_readClause_189 (by decide) ?_
              refine lv_iconst (v := 1) hx hb dX12_readClause_190 (by decide) ?_
              refine lv_aload_n hx hb dX12_readClause_191 rfl (lv_at hl 0 rfl) ?_
              refine gM_12_37 hx hb ht hown hK hP m_1176 (v := n7) rfl dX12_readClause_192 ?_
              have hFc := free_all hD hS hA
              refine va_calli (va_runV (As := [.int 0, .int 1, .int n7]) (rest := []) ⟨hx, hb, hml, hown, ht⟩ (c_X12_want_0 l dC dI H.size h g ca (u2 (u2 (u2 iv 12 34 n6) 12 37 n7) 12 38 n8) lv (u2 (u2 (u2 fa 12 26 f1) 12 30 f2) 12 28 f52) la (IX_a (c := 12) (k := 28) (IX_a (c := 12) (k := 30) (IX_a (c := 12) (k := 26) (IX_i (c := 12) (k := 38) (IX_i (c := 12) (k := 37) (IX_i (c := 12) (k := 34) hI (show inb (0, 200) n6 from ⟨by omega, by omega⟩)) (show inb (0, 200) n7 from ⟨by omega, by omega⟩)) (show inb (0, 200) n8 from ⟨by omega, by omega⟩)) hf1) hf2) hf52) 1 n7 ⟨by decide, by decide⟩) (kV 3 ht m_1472 m_1474 m_50 m_89 m_1475 rfl rfl hd_X12_want_v ⟨Nat.le_of_ble_eq_true rfl, Nat.le_of_ble_eq_true rfl⟩) (vW hP hK hD (rM_12 hK hP)) rfl rfl hl.1 rfl (lv_room (Nat.le_of_ble_eq_true rfl)) dX12_readClause_195 ⟨Nat.le_of_ble_eq_true rfl, Nat.le_of_ble_eq_true rfl⟩) hS (fun q _ h => hFc q h) hFc (fun r55 u t H1 locs ht9 hvm hr55 hB hz1 hk1 hS => ?_)
              obtain ⟨n56, n57, hn56, xr55_0, hr55, rfl⟩ := hr55
              have hn56 : 0 ≤ n56.toInt ∧ n56.toInt ≤ 5 := hn56
              obtain ⟨hP, hD⟩ := hB
              rw [ht9] at hP
              generalize H1 = H at hP hS ⊢
              have hP : va_P (dC, dI) classes (WM h g ca (u2 (u2 (u2 (u2 (u2 iv 12 34 n6) 12 37 n7) 12 38 n8) 12 35 n56) 12 36 n57) lv (u2 (u2 (u2 fa 12 26 f1) 12 30 f2) 12 28 f52) la) H := hP
              have hD : va_D A (WM h g ca (u2 (u2 (u2 (u2 (u2 iv 12 34 n6) 12 37 n7) 12 38 n8) 12 35 n56) 12 36 n57) lv (u2 (u2 (u2 fa 12 26 f1) 12 30 f2) 12 28 f52) la) := (show va_D _ (WM h g ca (u2 (u2 (u2 (u2 (u2 iv 12 34 n6) 12 37 n7) 12 38 n8) 12 35 n56) 12 36 n57) lv (u2 (u2 (u2 fa 12 26 f1) 12 30 f2) 12 28 f52) la) from hD).weaken (fun _ _ _ h => hFc _ h)
              have xr55_0 : 1 ≤ (n56 : Int32).toInt := xr55_0
              obtain rfl : 0 = r55 := hr55.symm
              refine lv_istore_n (lv' := [(3, .int 0), (0, .ref h), (1, .int 1), (2, .int k)]) hx hb dX12_readClause_198 rfl hl (by decide) rfl (fun ls hl => ?_)
              refine lv_goto (tgt := 257) hx hb dX12_readClause_199 (by decide) ?_
              refine lv_aload_n hx hb dX12_readClause_257 rfl (lv_at hl 1 rfl) ?_
              have hFc := free_all hD hS hA
              refine va_calli (va_runV (As := []) (rest := []) ⟨hx, hb, hml, hown, ht⟩ (c_X12_here_x l dC dI H.size h g ca (u2 (u2 (u2 (u2 (u2 iv 12 34 n6) 12 37 n7) 12 38 n8) 12 35 n56) 12 36 n57) lv (u2 (u2 (u2 fa 12 26 f1) 12 30 f2) 12 28 f52) la (IX_a (c := 12) (k := 28) (IX_a (c := 12) (k := 30) (IX_a (c := 12) (k := 26) (IX_i (c := 12) (k := 36) (IX_i (c := 12) (k := 35) (IX_i (c := 12) (k := 38) (IX_i (c := 12) (k := 37) (IX_i (c := 12) (k := 34) hI (show inb (0, 200) n6 from ⟨by omega, by omega⟩)) (show inb (0, 200) n7 from ⟨by omega, by omega⟩)) (show inb (0, 200) n8 from ⟨by omega, by omega⟩)) (show inb (0, 5) n56 from ⟨by omega, by omega⟩)) (full_i _)) hf1) hf2) hf52)) (kV 0 ht m_1458 m_1460 m_47 m_89 m_1461 rfl rfl hd_X12_here_v ⟨Nat.le_of_ble_eq_true rfl, Nat.le_of_ble_eq_true rfl⟩) (vW hP hK hD (rM_12 hK hP)) rfl rfl hl.1 rfl (lv_room (Nat.le_of_ble_eq_true rfl)) dX12_readClause_258 ⟨Nat.le_of_ble_eq_true rfl, Nat.le_of_ble_eq_true rfl⟩) hS (fun q _ h => hFc q h) hFc (fun r58 u t H1 locs ht9 hvm hr58 hB hz1 hk1 hS => ?_)
              obtain ⟨n59, hn59, xr58_0, xr58_1, hr58, rfl⟩ := hr58
              have hn59 : 0 ≤ n59.toInt ∧ n59.toInt ≤ 200 := hn59
              obtain ⟨hP, hD⟩ := hB
              rw [ht9] at hP
              generalize H1 = H at hP hS ⊢
              have hP : va_P (dC, dI) classes (WM h g ca (u2 (u2 (u2 (u2 (u2 iv 12 34 n59) 12 37 n7) 12 38 n8) 12 35 n56) 12 36 n57) lv (u2 (u2 (u2 fa 12 26 f1) 12 30 f2) 12 28 f52) la) H := hP
              have hD : va_D A (WM h g ca (u2 (u2 (u2 (u2 (u2 iv 12 34 n59) 12 37 n7) 12 38 n8) 12 35 n56) 12 36 n57) lv (u2 (u2 (u2 fa 12 26 f1) 12 30 f2) 12 28 f52) la) := (show va_D _ (WM h g ca (u2 (u2 (u2 (u2 (u2 iv 12 34 n59) 12 37 n7) 12 38 n8) 12 35 n56) 12 36 n57) lv (u2 (u2 (u2 fa 12 26 f1) 12 30 f2) 12 28 f52) la) from hD).weaken (fun _ _ _ h => hFc _ h)
              have xr58_0 : (n6 : Int32).toInt ≤ (n59 : Int32).toInt := xr58_0
              have i_12_33 : 0 ≤ (iv 12 33).toInt ∧ (iv 12 33).toInt ≤ 200 := hI.1 12 33
              have xr58_1 : ((r58 : Int32).toInt = -1 ∨ (n59 : Int32).toInt + 1 ≤ ((iv 12 33) : Int32).toInt) := xr58_1
              refine lv_istore_n (lv' := [(3, .int r58), (0, .ref h), (1, .int 1), (2, .int k)]) hx hb dX12_readClause_261 rfl hl (by decide) rfl (fun ls hl => ?_)
              refine lv_aload_n hx hb dX12_readClause_262 rfl (lv_at hl 1 rfl) ?_
              refine lv_iload_n hx hb dX12_readClause_263 rfl (lv_at hl 0 rfl) ?_
              refine lv_bipush (v := 59) hx hb dX12_readClause_264 (by decide) ?_
              refine lv_icmp_ne (tgt := 273) hx hb dX12_readClause_266 (by decide) (fun c60 => ?_) (fun c60 => ?_)
              · have fc60 := z_ne (rfl : (r58).toInt = _) (by decide : (59 : Int32).toInt = 59) c60
                refine lv_iconst (v := 0) hx hb dX12_readClause_273 (by decide) ?_
                refine lv_iconst (v := 1) hx hb dX12_readClause_274 (by decide) ?_
                refine lv_aload_n hx hb dX12_readClause_275 rfl (lv_at hl 1 rfl) ?_
                refine gM_12_34 hx hb ht hown hK hP m_1173 (v := n59) rfl dX12_readClause_276 ?_
                have hFc := free_all hD hS hA
                refine va_calli (va_runV (As := [.int 0, .int 1, .int n59]) (rest := []) ⟨hx, hb, hml, hown, ht⟩ (c_X12_want_0 l dC dI H.size h g ca (u2 (u2 (u2 (u2 (u2 iv 12 34 n59) 12 37 n7) 12 38 n8) 12 35 n56) 12 36 n57) lv (u2 (u2 (u2 fa 12 26 f1) 12 30 f2) 12 28 f52) la (IX_a (c := 12) (k := 28) (IX_a (c := 12) (k := 30) (IX_a (c := 12) (k := 26) (IX_i (c := 12) (k := 36) (IX_i (c := 12) (k := 35) (IX_i (c := 12) (k := 38) (IX_i (c := 12) (k := 37) (IX_i (c := 12) (k := 34) hI (show inb (0, 200) n59 from ⟨by omega, by omega⟩)) (show inb (0, 200) n7 from ⟨by omega, by omega⟩)) (show inb (0, 200) n8 from ⟨by omega, by omega⟩)) (show inb (0, 5) n56 from ⟨by omega, by omega⟩)) (full_i _)) hf1) hf2) hf52) 1 n59 ⟨by decide, by decide⟩) (kV 3 ht m_1472 m_1474 m_50 m_89 m_1475 rfl rfl hd_X12_want_v ⟨Nat.le_of_ble_eq_true rfl, Nat.le_of_ble_eq_true rfl⟩) (vW hP hK hD (rM_12 hK hP)) rfl rfl hl.1 rfl (lv_room (Nat.le_of_ble_eq_true rfl)) dX12_readClause_279 ⟨Nat.le_of_ble_eq_true rfl, Nat.le_of_ble_eq_true rfl⟩) hS (fun q _ h => hFc q h) hFc (fun r61 u t H1 locs ht9 hvm hr61 hB hz1 hk1 hS => ?_)
                obtain ⟨n62, n63, hn62, xr61_0, hr61, rfl⟩ := hr61
                have hn62 : 0 ≤ n62.toInt ∧ n62.toInt ≤ 5 := hn62
                obtain ⟨hP, hD⟩ := hB
                rw [ht9] at hP
                generalize H1 = H at hP hS ⊢
                have hP : va_P (dC, dI) classes (WM h g ca (u2 (u2 (u2 (u2 (u2 iv 12 34 n59) 12 37 n7) 12 38 n8) 12 35 n62) 12 36 n63) lv (u2 (u2 (u2 fa 12 26 f1) 12 30 f2) 12 28 f52) la) H := hP
                have hD : va_D A (WM h g ca (u2 (u2 (u2 (u2 (u2 iv 12 34 n59) 12 37 n7) 12 38 n8) 12 35 n62) 12 36 n63) lv (u2 (u2 (u2 fa 12 26 f1) 12 30 f2) 12 28 f52) la) := (show va_D _ (WM h g ca (u2 (u2 (u2 (u2 (u2 iv 12 34 n59) 12 37 n7) 12 38 n8) 12 35 n62) 12 36 n63) lv (u2 (u2 (u2 fa 12 26 f1) 12 30 f2) 12 28 f52) la) from hD).weaken (fun _ _ _ h => hFc _ h)
                have xr61_0 : 1 ≤ (n62 : Int32).toInt := xr61_0
                obtain rfl : 0 = r61 := hr61.symm
                refine lv_if_eq (tgt := 295) hx hb dX12_readClause_282 (by decide) (fun c64 => ?_) (fun c64 => ?_)
                · skip
                  have hP9 : va_P (dC, dI) classes (WM h g ca (u2 (u2 (u2 (u2 (u2 iv 12 34 n59) 12 35 n62) 12 36 n63) 12 37 n7) 12 38 n8) lv (u2 (u2 (u2 fa 12 26 f1) 12 28 f52) 12 30 f2) la) H := hP
                  have hD9 : va_D A (WM h g ca (u2 (u2 (u2 (u2 (u2 iv 12 34 n59) 12 35 n62) 12 36 n63) 12 37 n7) 12 38 n8) lv (u2 (u2 (u2 fa 12 26 f1) 12 28 f52) 12 30 f2) la) := hD
                  exact W.vret hx hb hr (fun t ht9 hW => ⟨⟨((u2 (u2 (u2 (u2 (u2 iv 12 34 n59) 12 35 n62) 12 36 n63) 12 37 n7) 12 38 n8), lv, (u2 (u2 (u2 fa 12 26 f1) 12 28 f52) 12 30 f2), la), rfl, ⟨f1, f52, f2, n59, n62, n63, n7, n8, hf2, (show inb (0, 200) n59 from ⟨by omega, by omega⟩), (show inb (0, 5) n62 from ⟨by omega, by omega⟩), (show inb (0, 200) n7 from ⟨by omega, by omega⟩), (show inb (0, 200) n8 from ⟨by omega, by omega⟩), (show (iv 12 34).toInt ≤ (n59 : Int32).toInt from by omega), (show ∀ j : Nat, j ≠ k.toNatClampNeg → f1 j = (fa 12 26) j ∧ (fa 12 27) j = (fa 12 27) j ∧ f52 j = (fa 12 28) j from fun j hj => ⟨(by rw [ef1, upd_ne hj]), rfl, (by rw [ef52, upd_ne hj])⟩), (show ((n62 : Int32).toInt ≠ 0 ∨ gd3 (f1 k.toNatClampNeg) ((fa 12 27) k.toNatClampNeg) (f52 k.toNatClampNeg)) from (by
            have kc : (1 : Int32).toInt = 1 := by decide
            have kE : f1 k.toNatClampNeg = 1 := by rw [ef1]; exact upd_eq
            have fE : f52 k.toNatClampNeg = 2 := by rw [ef52]; exact upd_eq
            have := congrArg Int32.toInt (ev53.trans fE)
            by_cases h0 : (n62 : Int32).toInt = 0
            · refine Or.inr ?_; rw [kE, fE]; unfold gd3; exact ⟨fun h => by omega, fun h h2 => by omega⟩
            · exact Or.inl h0)), rfl⟩, by rw [ht9]; exact hP9, hD9⟩, hS.F ht9⟩) hS.2.2 dX12_readClause_295
                · exact absurd rfl c64
              · have fc60 := z_eq (rfl : (r58).toInt = _) (by decide : (59 : Int32).toInt = 59) c60
                refine lv_iconst (v := 1) hx hb dX12_readClause_269 (by decide) ?_
                refine lv_goto (tgt := 274) hx hb dX12_readClause_270 (by decide) ?_
                refine lv_iconst (v := 1) hx hb dX12_readClause_274 (by decide) ?_
                refine lv_aload_n hx hb dX12_readClause_275 rfl (lv_at hl 1 rfl) ?_
                refine gM_12_34 hx hb ht hown hK hP m_1173 (v := n59) rfl dX12_readClause_276 ?_
                refine vp_callSi (W.runV (As := [.int 1, .int 1, .int n59]) (rest := []) ⟨hx, hb, hml, hown, ht⟩ (c_X12_want_1 l dC dI h g ca (u2 (u2 (u2 (u2 (u2 iv 12 34 n59) 12 37 n7) 12 38 n8) 12 35 n56) 12 36 n57) lv (u2 (u2 (u2 fa 12 26 f1) 12 30 f2) 12 28 f52) la (IX_a (c := 12) (k := 28) (IX_a (c := 12) (k := 30) (IX_a (c := 12) (k := 26) (IX_i (c := 12) (k := 36) (IX_i (c := 12) (k := 35) (IX_i (c := 12) (k := 38) (IX_i (c := 12) (k := 37) (IX_i (c := 12) (k := 34) hI (show inb (0, 200) n59 from ⟨by omega, by omega⟩)) (show inb (0, 200) n7 from ⟨by omega, by omega⟩)) (show inb (0, 200) n8 from ⟨by omega, by omega⟩)) (show inb (0, 5) n56 from ⟨by omega, by omega⟩)) (full_i _)) hf1) hf2) hf52) 1 n59) (kV 3 ht m_1472 m_1474 m_50 m_89 m_1475 rfl rfl hd_X12_want_v ⟨Nat.le_of_ble_eq_true rfl, Nat.le_of_ble_eq_true rfl⟩) (vR hP hK (rM_12 hK hP)) rfl rfl hl.1 rfl (lv_room (Nat.le_of_ble_eq_true rfl)) dX12_readClause_279 ⟨Nat.le_of_ble_eq_true rfl, Nat.le_of_ble_eq_true rfl⟩) (fun r65 hr65 => ?_)
                rcases hr65 with ⟨rfl, fr65⟩ | ⟨rfl, fr65⟩
                · skip
                  have fr65 : ((n56 : Int32).toInt = 0) := fr65
                  refine lv_if_eq (tgt := 295) hx hb dX12_readClause_282 (by decide) (fun c66 => ?_) (fun c66 => ?_)
                  · exact absurd c66 (by decide)
                  · skip
                    refine lv_aload_n hx hb dX12_readClause_285 rfl (lv_at hl 1 rfl) ?_
                    refine lv_dup hx hb dX12_readClause_286 rfl ?_
                    refine gM_12_34 hx hb ht hown hK hP m_1173 (v := n59) rfl dX12_readClause_287 ?_
                    refine lv_iconst (v := 1) hx hb dX12_readClause_290 (by decide) ?_
                    refine lv_iadd hx hb dX12_readClause_291 ?_
                    refine lv_topi (fun v67 ev67 => ?_)
                    have tv67 := z_add ev67 (rfl : (n59).toInt = _) (by decide : (1 : Int32).toInt = 1) (by omega) (by omega)
                    have : 0 ≤ (v67 : Int32).toInt ∧ (v67 : Int32).toInt ≤ 200 := ⟨by omega, by omega⟩
                    refine pM_12_34 (v := v67) hx hb ht hown hK hP hD hS m_1173 dX12_readClause_292 (fun H locs hP hD hS => ?_)
                    have hP : va_P (dC, dI) classes (WM h g ca (u2 (u2 (u2 (u2 (u2 iv 12 34 v67) 12 37 n7) 12 38 n8) 12 35 n56) 12 36 n57) lv (u2 (u2 (u2 fa 12 26 f1) 12 30 f2) 12 28 f52) la) H := hP
                    have hD : va_D A (WM h g ca (u2 (u2 (u2 (u2 (u2 iv 12 34 v67) 12 37 n7) 12 38 n8) 12 35 n56) 12 36 n57) lv (u2 (u2 (u2 fa 12 26 f1) 12 30 f2) 12 28 f52) la) := hD
                    have hP9 : va_P (dC, dI) classes (WM h g ca (u2 (u2 (u2 (u2 (u2 iv 12 34 v67) 12 35 n56) 12 36 n57) 12 37 n7) 12 38 n8) lv (u2 (u2 (u2 fa 12 26 f1) 12 28 f52) 12 30 f2) la) H := hP
                    have hD9 : va_D A (WM h g ca (u2 (u2 (u2 (u2 (u2 iv 12 34 v67) 12 35 n56) 12 36 n57) 12 37 n7) 12 38 n8) lv (u2 (u2 (u2 fa 12 26 f1) 12 28 f52) 12 30 f2) la) := hD
                    exact W.vret hx hb hr (fun t ht9 hW => ⟨⟨((u2 (u2 (u2 (u2 (u2 iv 12 34 v67) 12 35 n56) 12 36 n57) 12 37 n7) 12 38 n8), lv, (u2 (u2 (u2 fa 12 26 f1) 12 28 f52) 12 30 f2), la), rfl, ⟨f1, f52, f2, v67, n56, n57, n7, n8, hf2, (show inb (0, 200) v67 from ⟨by omega, by omega⟩), (show inb (0, 5) n56 from ⟨by omega, by omega⟩), (show inb (0, 200) n7 from ⟨by omega, by omega⟩), (show inb (0, 200) n8 from ⟨by omega, by omega⟩), (show (iv 12 34).toInt ≤ (v67 : Int32).toInt from by omega), (show ∀ j : Nat, j ≠ k.toNatClampNeg → f1 j = (fa 12 26) j ∧ (fa 12 27) j = (fa 12 27) j ∧ f52 j = (fa 12 28) j from fun j hj => ⟨(by rw [ef1, upd_ne hj]), rfl, (by rw [ef52, upd_ne hj])⟩), (show ((n56 : Int32).toInt ≠ 0 ∨ gd3 (f1 k.toNatClampNeg) ((fa 12 27) k.toNatClampNeg) (f52 k.toNatClampNeg)) from (by
            have kc : (1 : Int32).toInt = 1 := by decide
            have kE : f1 k.toNatClampNeg = 1 := by rw [ef1]; exact upd_eq
            have fE : f52 k.toNatClampNeg = 2 := by rw [ef52]; exact upd_eq
            have := congrArg Int32.toInt (ev53.trans fE)
            by_cases h0 : (n56 : Int32).toInt = 0
            · refine Or.inr ?_; rw [kE, fE]; unfold gd3; exact ⟨fun h => by omega, fun h h2 => by omega⟩
            · exact Or.inl h0)), rfl⟩, by rw [ht9]; exact hP9, hD9⟩, hS.F ht9⟩) hS.2.2 dX12_readClause_295
                · skip
                  have fr65 : ¬ ((n56 : Int32).toInt = 0) := fr65
                  refine lv_if_eq (tgt := 295) hx hb dX12_readClause_282 (by decide) (fun c68 => ?_) (fun c68 => ?_)
                  · skip
                    have hP9 : va_P (dC, dI) classes (WM h g ca (u2 (u2 (u2 (u2 (u2 iv 12 34 n59) 12 35 n56) 12 36 n57) 12 37 n7) 12 38 n8) lv (u2 (u2 (u2 fa 12 26 f1) 12 28 f52) 12 30 f2) la) H := hP
                    have hD9 : va_D A (WM h g ca (u2 (u2 (u2 (u2 (u2 iv 12 34 n59) 12 35 n56) 12 36 n57) 12 37 n7) 12 38 n8) lv (u2 (u2 (u2 fa 12 26 f1) 12 28 f52) 12 30 f2) la) := hD
                    exact W.vret hx hb hr (fun t ht9 hW => ⟨⟨((u2 (u2 (u2 (u2 (u2 iv 12 34 n59) 12 35 n56) 12 36 n57) 12 37 n7) 12 38 n8), lv, (u2 (u2 (u2 fa 12 26 f1) 12 28 f52) 12 30 f2), la), rfl, ⟨f1, f52, f2, n59, n56, n57, n7, n8, hf2, (show inb (0, 200) n59 from ⟨by omega, by omega⟩), (show inb (0, 5) n56 from ⟨by omega, by omega⟩), (show inb (0, 200) n7 from ⟨by omega, by omega⟩), (show inb (0, 200) n8 from ⟨by omega, by omega⟩), (show (iv 12 34).toInt ≤ (n59 : Int32).toInt from by omega), (show ∀ j : Nat, j ≠ k.toNatClampNeg → f1 j = (fa 12 26) j ∧ (fa 12 27) j = (fa 12 27) j ∧ f52 j = (fa 12 28) j from fun j hj => ⟨(by rw [ef1, upd_ne hj]), rfl, (by rw [ef52, upd_ne hj])⟩), (show ((n56 : Int32).toInt ≠ 0 ∨ gd3 (f1 k.toNatClampNeg) ((fa 12 27) k.toNatClampNeg) (f52 k.toNatClampNeg)) from Or.inl (by omega)), rfl⟩, by rw [ht9]; exact hP9, hD9⟩, hS.F ht9⟩) hS.2.2 dX12_readClause_295
                  · exact absurd rfl c68
            · have fc54 := z_nlt (rfl : (v53).toInt = _) (by decide : (0 : Int32).toInt = 0) c54
              refine lv_iconst (v := 1) hx hb dX12_readClause_185 (by decide) ?_
              refine lv_goto (tgt := 190) hx hb dX12_readClause_186 (by decide) ?_
              refine lv_iconst (v := 1) hx hb dX12_readClause_190 (by decide) ?_
              refine lv_aload_n hx hb dX12_readClause_191 rfl (lv_at hl 0 rfl) ?_
              refine gM_12_37 hx hb ht hown hK hP m_1176 (v := n7) rfl dX12_readClause_192 ?_
              refine vp_callSi (W.runV (As := [.int 1, .int 1, .int n7]) (rest := []) ⟨hx, hb, hml, hown, ht⟩ (c_X12_want_1 l dC dI h g ca (u2 (u2 (u2 iv 12 34 n6) 12 37 n7) 12 38 n8) lv (u2 (u2 (u2 fa 12 26 f1) 12 30 f2) 12 28 f52) la (IX_a (c := 12) (k := 28) (IX_a (c := 12) (k := 30) (IX_a (c := 12) (k := 26) (IX_i (c := 12) (k := 38) (IX_i (c := 12) (k := 37) (IX_i (c := 12) (k := 34) hI (show inb (0, 200) n6 from ⟨by omega, by omega⟩)) (show inb (0, 200) n7 from ⟨by omega, by omega⟩)) (show inb (0, 200) n8 from ⟨by omega, by omega⟩)) hf1) hf2) hf52) 1 n7) (kV 3 ht m_1472 m_1474 m_50 m_89 m_1475 rfl rfl hd_X12_want_v ⟨Nat.le_of_ble_eq_true rfl, Nat.le_of_ble_eq_true rfl⟩) (vR hP hK (rM_12 hK hP)) rfl rfl hl.1 rfl (lv_room (Nat.le_of_ble_eq_true rfl)) dX12_readClause_195 ⟨Nat.le_of_ble_eq_true rfl, Nat.le_of_ble_eq_true rfl⟩) (fun r69 hr69 => ?_)
              rcases hr69 with ⟨rfl, fr69⟩ | ⟨rfl, fr69⟩
              have i_12_35 : 0 ≤ (iv 12 35).toInt ∧ (iv 12 35).toInt ≤ 5 := hI.1 12 35
              · skip
                have i_12_35 : 0 ≤ (iv 12 35).toInt ∧ (iv 12 35).toInt ≤ 5 := hI.1 12 35
                have fr69 : (((iv 12 35) : Int32).toInt = 0) := fr69
                refine lv_istore_n (lv' := [(3, .int 1), (0, .ref h), (1, .int 1), (2, .int k)]) hx hb dX12_readClause_198 rfl hl (by decide) rfl (fun ls hl => ?_)
                refine lv_goto (tgt := 257) hx hb dX12_readClause_199 (by decide) ?_
                refine lv_aload_n hx hb dX12_readClause_257 rfl (lv_at hl 1 rfl) ?_
                have hFc := free_all hD hS hA
                refine va_calli (va_runV (As := []) (rest := []) ⟨hx, hb, hml, hown, ht⟩ (c_X12_here_x l dC dI H.size h g ca (u2 (u2 (u2 iv 12 34 n6) 12 37 n7) 12 38 n8) lv (u2 (u2 (u2 fa 12 26 f1) 12 30 f2) 12 28 f52) la (IX_a (c := 12) (k := 28) (IX_a (c := 12) (k := 30) (IX_a (c := 12) (k := 26) (IX_i (c := 12) (k := 38) (IX_i (c := 12) (k := 37) (IX_i (c := 12) (k := 34) hI (show inb (0, 200) n6 from ⟨by omega, by omega⟩)) (show inb (0, 200) n7 from ⟨by omega, by omega⟩)) (show inb (0, 200) n8 from ⟨by omega, by omega⟩)) hf1) hf2) hf52)) (kV 0 ht m_1458 m_1460 m_47 m_89 m_1461 rfl rfl hd_X12_here_v ⟨Nat.le_of_ble_eq_true rfl, Nat.le_of_ble_eq_true rfl⟩) (vW hP hK hD (rM_12 hK hP)) rfl rfl hl.1 rfl (lv_room (Nat.le_of_ble_eq_true rfl)) dX12_readClause_258 ⟨Nat.le_of_ble_eq_true rfl, Nat.le_of_ble_eq_true rfl⟩) hS (fun q _ h => hFc q h) hFc (fun r70 u t H1 locs ht9 hvm hr70 hB hz1 hk1 hS => ?_)
                obtain ⟨n71, hn71, xr70_0, xr70_1, hr70, rfl⟩ := hr70
                have hn71 : 0 ≤ n71.toInt ∧ n71.toInt ≤ 200 := hn71
                obtain ⟨hP, hD⟩ := hB
                rw [ht9] at hP
                generalize H1 = H at hP hS ⊢
                have hP : va_P (dC, dI) classes (WM h g ca (u2 (u2 (u2 iv 12 34 n71) 12 37 n7) 12 38 n8) lv (u2 (u2 (u2 fa 12 26 f1) 12 30 f2) 12 28 f52) la) H := hP
                have hD : va_D A (WM h g ca (u2 (u2 (u2 iv 12 34 n71) 12 37 n7) 12 38 n8) lv (u2 (u2 (u2 fa 12 26 f1) 12 30 f2) 12 28 f52) la) := (show va_D _ (WM h g ca (u2 (u2 (u2 iv 12 34 n71) 12 37 n7) 12 38 n8) lv (u2 (u2 (u2 fa 12 26 f1) 12 30 f2) 12 28 f52) la) from hD).weaken (fun _ _ _ h => hFc _ h)
                have xr70_0 : (n6 : Int32).toInt ≤ (n71 : Int32).toInt := xr70_0
                have i_12_33 : 0 ≤ (iv 12 33).toInt ∧ (iv 12 33).toInt ≤ 200 := hI.1 12 33
                have xr70_1 : ((r70 : Int32).toInt = -1 ∨ (n71 : Int32).toInt + 1 ≤ ((iv 12 33) : Int32).toInt) := xr70_1
                refine lv_istore_n (lv' := [(3, .int r70), (0, .ref h), (1, .int 1), (2, .int k)]) hx hb dX12_readClause_261 rfl hl (by decide) rfl (fun ls hl => ?_)
                refine lv_aload_n hx hb dX12_readClause_262 rfl (lv_at hl 1 rfl) ?_
                refine lv_iload_n hx hb dX12_readClause_263 rfl (lv_at hl 0 rfl) ?_
                refine lv_bipush (v := 59) hx hb dX12_readClause_264 (by decide) ?_
                refine lv_icmp_ne (tgt := 273) hx hb dX12_readClause_266 (by decide) (fun c72 => ?_) (fun c72 => ?_)
                · have fc72 := z_ne (rfl : (r70).toInt = _) (by decide : (59 : Int32).toInt = 59) c72
                  refine lv_iconst (v := 0) hx hb dX12_readClause_273 (by decide) ?_
                  refine lv_iconst (v := 1) hx hb dX12_readClause_274 (by decide) ?_
                  refine lv_aload_n hx hb dX12_readClause_275 rfl (lv_at hl 1 rfl) ?_
                  refine gM_12_34 hx hb ht hown hK hP m_1173 (v := n71) rfl dX12_readClause_276 ?_
                  have hFc := free_all hD hS hA
                  refine va_calli (va_runV (As := [.int 0, .int 1, .int n71]) (rest := []) ⟨hx, hb, hml, hown, ht⟩ (c_X12_want_0 l dC dI H.size h g ca (u2 (u2 (u2 iv 12 34 n71) 12 37 n7) 12 38 n8) lv (u2 (u2 (u2 fa 12 26 f1) 12 30 f2) 12 28 f52) la (IX_a (c := 12) (k := 28) (IX_a (c := 12) (k := 30) (IX_a (c := 12) (k := 26) (IX_i (c := 12) (k := 38) (IX_i (c := 12) (k := 37) (IX_i (c := 12) (k := 34) hI (show inb (0, 200) n71 from ⟨by omega, by omega⟩)) (show inb (0, 200) n7 from ⟨by omega, by omega⟩)) (show inb (0, 200) n8 from ⟨by omega, by omega⟩)) hf1) hf2) hf52) 1 n71 ⟨by decide, by decide⟩) (kV 3 ht m_1472 m_1474 m_50 m_89 m_1475 rfl rfl hd_X12_want_v ⟨Nat.le_of_ble_eq_true rfl, Nat.le_of_ble_eq_true rfl⟩) (vW hP hK hD (rM_12 hK hP)) rfl rfl hl.1 rfl (lv_room (Nat.le_of_ble_eq_true rfl)) dX12_readClause_279 ⟨Nat.le_of_ble_eq_true rfl, Nat.le_of_ble_eq_true rfl⟩) hS (fun q _ h => hFc q h) hFc (fun r73 u t H1 locs ht9 hvm hr73 hB hz1 hk1 hS => ?_)
                  obtain ⟨n74, n75, hn74, xr73_0, hr73, rfl⟩ := hr73
                  have hn74 : 0 ≤ n74.toInt ∧ n74.toInt ≤ 5 := hn74
                  obtain ⟨hP, hD⟩ := hB
                  rw [ht9] at hP
                  generalize H1 = H at hP hS ⊢
                  have hP : va_P (dC, dI) classes (WM h g ca (u2 (u2 (u2 (u2 (u2 iv 12 34 n71) 12 37 n7) 12 38 n8) 12 35 n74) 12 36 n75) lv (u2 (u2 (u2 fa 12 26 f1) 12 30 f2) 12 28 f52) la) H := hP
                  have hD : va_D A (WM h g ca (u2 (u2 (u2 (u2 (u2 iv 12 34 n71) 12 37 n7) 12 38 n8) 12 35 n74) 12 36 n75) lv (u2 (u2 (u2 fa 12 26 f1) 12 30 f2) 12 28 f52) la) := (show va_D _ (WM h g ca (u2 (u2 (u2 (u2 (u2 iv 12 34 n71) 12 37 n7) 12 38 n8) 12 35 n74) 12 36 n75) lv (u2 (u2 (u2 fa 12 26 f1) 12 30 f2) 12 28 f52) la) from hD).weaken (fun _ _ _ h => hFc _ h)
                  have xr73_0 : 1 ≤ (n74 : Int32).toInt := xr73_0
                  obtain rfl : 0 = r73 := hr73.symm
                  refine lv_if_eq (tgt := 295) hx hb dX12_readClause_282 (by decide) (fun c76 => ?_) (fun c76 => ?_)
                  · skip
                    have hP9 : va_P (dC, dI) classes (WM h g ca (u2 (u2 (u2 (u2 (u2 iv 12 34 n71) 12 35 n74) 12 36 n75) 12 37 n7) 12 38 n8) lv (u2 (u2 (u2 fa 12 26 f1) 12 28 f52) 12 30 f2) la) H := hP
                    have hD9 : va_D A (WM h g ca (u2 (u2 (u2 (u2 (u2 iv 12 34 n71) 12 35 n74) 12 36 n75) 12 37 n7) 12 38 n8) lv (u2 (u2 (u2 fa 12 26 f1) 12 28 f52) 12 30 f2) la) := hD
                    exact W.vret hx hb hr (fun t ht9 hW => ⟨⟨((u2 (u2 (u2 (u2 (u2 iv 12 34 n71) 12 35 n74) 12 36 n75) 12 37 n7) 12 38 n8), lv, (u2 (u2 (u2 fa 12 26 f1) 12 28 f52) 12 30 f2), la), rfl, ⟨f1, f52, f2, n71, n74, n75, n7, n8, hf2, (show inb (0, 200) n71 from ⟨by omega, by omega⟩), (show inb (0, 5) n74 from ⟨by omega, by omega⟩), (show inb (0, 200) n7 from ⟨by omega, by omega⟩), (show inb (0, 200) n8 from ⟨by omega, by omega⟩), (show (iv 12 34).toInt ≤ (n71 : Int32).toInt from by omega), (show ∀ j : Nat, j ≠ k.toNatClampNeg → f1 j = (fa 12 26) j ∧ (fa 12 27) j = (fa 12 27) j ∧ f52 j = (fa 12 28) j from fun j hj => ⟨(by rw [ef1, upd_ne hj]), rfl, (by rw [ef52, upd_ne hj])⟩), (show ((n74 : Int32).toInt ≠ 0 ∨ gd3 (f1 k.toNatClampNeg) ((fa 12 27) k.toNatClampNeg) (f52 k.toNatClampNeg)) from (by
            have kc : (1 : Int32).toInt = 1 := by decide
            have kE : f1 k.toNatClampNeg = 1 := by rw [ef1]; exact upd_eq
            have fE : f52 k.toNatClampNeg = 2 := by rw [ef52]; exact upd_eq
            have := congrArg Int32.toInt (ev53.trans fE)
            by_cases h0 : (n74 : Int32).toInt = 0
            · refine Or.inr ?_; rw [kE, fE]; unfold gd3; exact ⟨fun h => by omega, fun h h2 => by omega⟩
            · exact Or.inl h0)), rfl⟩, by rw [ht9]; exact hP9, hD9⟩, hS.F ht9⟩) hS.2.2 dX12_readClause_295
                  · exact absurd rfl c76
                · have fc72 := z_eq (rfl : (r70).toInt = _) (by decide : (59 : Int32).toInt = 59) c72
                  refine lv_iconst (v := 1) hx hb dX12_readClause_269 (by decide) ?_
                  refine lv_goto (tgt := 274) hx hb dX12_readClause_270 (by decide) ?_
                  refine lv_iconst (v := 1) hx hb dX12_readClause_274 (by decide) ?_
                  refine lv_aload_n hx hb dX12_readClause_275 rfl (lv_at hl 1 rfl) ?_
                  refine gM_12_34 hx hb ht hown hK hP m_1173 (v := n71) rfl dX12_readClause_276 ?_
                  refine vp_callSi (W.runV (As := [.int 1, .int 1, .int n71]) (rest := []) ⟨hx, hb, hml, hown, ht⟩ (c_X12_want_1 l dC dI h g ca (u2 (u2 (u2 iv 12 34 n71) 12 37 n7) 12 38 n8) lv (u2 (u2 (u2 fa 12 26 f1) 12 30 f2) 12 28 f52) la (IX_a (c := 12) (k := 28) (IX_a (c := 12) (k := 30) (IX_a (c := 12) (k := 26) (IX_i (c := 12) (k := 38) (IX_i (c := 12) (k := 37) (IX_i (c := 12) (k := 34) hI (show inb (0, 200) n71 from ⟨by omega, by omega⟩)) (show inb (0, 200) n7 from ⟨by omega, by omega⟩)) (show inb (0, 200) n8 from ⟨by omega, by omega⟩)) hf1) hf2) hf52) 1 n71) (kV 3 ht m_1472 m_1474 m_50 m_89 m_1475 rfl rfl hd_X12_want_v ⟨Nat.le_of_ble_eq_true rfl, Nat.le_of_ble_eq_true rfl⟩) (vR hP hK (rM_12 hK hP)) rfl rfl hl.1 rfl (lv_room (Nat.le_of_ble_eq_true rfl)) dX12_readClause_279 ⟨Nat.le_of_ble_eq_true rfl, Nat.le_of_ble_eq_true rfl⟩) (fun r77 hr77 => ?_)
                  rcases hr77 with ⟨rfl, fr77⟩ | ⟨rfl, fr77⟩
                  · skip
                    have fr77 : (((iv 12 35) : Int32).toInt = 0) := fr77
                    refine lv_if_eq (tgt := 295) hx hb dX12_readClause_282 (by decide) (fun c78 => ?_) (fun c78 => ?_)
                    · exact absurd c78 (by decide)
                    · skip
                      refine lv_aload_n hx hb dX12_readClause_285 rfl (lv_at hl 1 rfl) ?_
                      refine lv_dup hx hb dX12_readClause_286 rfl ?_
                      refine gM_12_34 hx hb ht hown hK hP m_1173 (v := n71) rfl dX12_readClause_287 ?_
                      refine lv_iconst (v := 1) hx hb dX12_readClause_290 (by decide) ?_
                      refine lv_iadd hx hb dX12_readClause_291 ?_
                      refine lv_topi (fun v79 ev79 => ?_)
                      have tv79 := z_add ev79 (rfl : (n71).toInt = _) (by decide : (1 : Int32).toInt = 1) (by omega) (by omega)
                      have : 0 ≤ (v79 : Int32).toInt ∧ (v79 : Int32).toInt ≤ 200 := ⟨by omega, by omega⟩
                      refine pM_12_34 (v := v79) hx hb ht hown hK hP hD hS m_1173 dX12_readClause_292 (fun H locs hP hD hS => ?_)
                      have hP : va_P (dC, dI) classes (WM h g ca (u2 (u2 (u2 iv 12 34 v79) 12 37 n7) 12 38 n8) lv (u2 (u2 (u2 fa 12 26 f1) 12 30 f2) 12 28 f52) la) H := hP
                      have hD : va_D A (WM h g ca (u2 (u2 (u2 iv 12 34 v79) 12 37 n7) 12 38 n8) lv (u2 (u2 (u2 fa 12 26 f1) 12 30 f2) 12 28 f52) la) := hD
                      have hP9 : va_P (dC, dI) classes (WM h g ca (u2 (u2 (u2 (u2 (u2 iv 12 34 v79) 12 35 (iv 12 35)) 12 36 (iv 12 36)) 12 37 n7) 12 38 n8) lv (u2 (u2 (u2 fa 12 26 f1) 12 28 f52) 12 30 f2) la) H := hP
                      have hD9 : va_D A (WM h g ca (u2 (u2 (u2 (u2 (u2 iv 12 34 v79) 12 35 (iv 12 35)) 12 36 (iv 12 36)) 12 37 n7) 12 38 n8) lv (u2 (u2 (u2 fa 12 26 f1) 12 28 f52) 12 30 f2) la) := hD
                      exact W.vret hx hb hr (fun t ht9 hW => ⟨⟨((u2 (u2 (u2 (u2 (u2 iv 12 34 v79) 12 35 (iv 12 35)) 12 36 (iv 12 36)) 12 37 n7) 12 38 n8), lv, (u2 (u2 (u2 fa 12 26 f1) 12 28 f52) 12 30 f2), la), rfl, ⟨f1, f52, f2, v79, (iv 12 35), (iv 12 36), n7, n8, hf2, (show inb (0, 200) v79 from ⟨by omega, by omega⟩), (hI.1 12 35), (show inb (0, 200) n7 from ⟨by omega, by omega⟩), (show inb (0, 200) n8 from ⟨by omega, by omega⟩), (show (iv 12 34).toInt ≤ (v79 : Int32).toInt from by omega), (show ∀ j : Nat, j ≠ k.toNatClampNeg → f1 j = (fa 12 26) j ∧ (fa 12 27) j = (fa 12 27) j ∧ f52 j = (fa 12 28) j from fun j hj => ⟨(by rw [ef1, upd_ne hj]), rfl, (by rw [ef52, upd_ne hj])⟩), (show (((iv 12 35) : Int32).toInt ≠ 0 ∨ gd3 (f1 k.toNatClampNeg) ((fa 12 27) k.toNatClampNeg) (f52 k.toNatClampNeg)) from (by
            have kc : (1 : Int32).toInt = 1 := by decide
            have kE : f1 k.toNatClampNeg = 1 := by rw [ef1]; exact upd_eq
            have fE : f52 k.toNatClampNeg = 2 := by rw [ef52]; exact upd_eq
            have := congrArg Int32.toInt (ev53.trans fE)
            by_cases h0 : ((iv 12 35) : Int32).toInt = 0
            · refine Or.inr ?_; rw [kE, fE]; unfold gd3; exact ⟨fun h => by omega, fun h h2 => by omega⟩
            · exact Or.inl h0)), rfl⟩, by rw [ht9]; exact hP9, hD9⟩, hS.F ht9⟩) hS.2.2 dX12_readClause_295
                  · skip
                    have fr77 : ¬ (((iv 12 35) : Int32).toInt = 0) := fr77
                    exfalso; omega
              · skip
                have fr69 : ¬ (((iv 12 35) : Int32).toInt = 0) := fr69
                refine lv_istore_n (lv' := [(3, .int 0), (0, .ref h), (1, .int 1), (2, .int k)]) hx hb dX12_readClause_198 rfl hl (by decide) rfl (fun ls hl => ?_)
                refine lv_goto (tgt := 257) hx hb dX12_readClause_199 (by decide) ?_
                refine lv_aload_n hx hb dX12_readClause_257 rfl (lv_at hl 1 rfl) ?_
                have hFc := free_all hD hS hA
                refine va_calli (va_runV (As := []) (rest := []) ⟨hx, hb, hml, hown, ht⟩ (c_X12_here_x l dC dI H.size h g ca (u2 (u2 (u2 iv 12 34 n6) 12 37 n7) 12 38 n8) lv (u2 (u2 (u2 fa 12 26 f1) 12 30 f2) 12 28 f52) la (IX_a (c := 12) (k := 28) (IX_a (c := 12) (k := 30) (IX_a (c := 12) (k := 26) (IX_i (c := 12) (k := 38) (IX_i (c := 12) (k := 37) (IX_i (c := 12) (k := 34) hI (show inb (0, 200) n6 from ⟨by omega, by omega⟩)) (show inb (0, 200) n7 from ⟨by omega, by omega⟩)) (show inb (0, 200) n8 from ⟨by omega, by omega⟩)) hf1) hf2) hf52)) (kV 0 ht m_1458 m_1460 m_47 m_89 m_1461 rfl rfl hd_X12_here_v ⟨Nat.le_of_ble_eq_true rfl, Nat.le_of_ble_eq_true rfl⟩) (vW hP hK hD (rM_12 hK hP)) rfl rfl hl.1 rfl (lv_room (Nat.le_of_ble_eq_true rfl)) dX12_readClause_258 ⟨Nat.le_of_ble_eq_true rfl, Nat.le_of_ble_eq_true rfl⟩) hS (fun q _ h => hFc q h) hFc (fun r80 u t H1 locs ht9 hvm hr80 hB hz1 hk1 hS => ?_)
                obtain ⟨n81, hn81, xr80_0, xr80_1, hr80, rfl⟩ := hr80
                have hn81 : 0 ≤ n81.toInt ∧ n81.toInt ≤ 200 := hn81
                obtain ⟨hP, hD⟩ := hB
                rw [ht9] at hP
                generalize H1 = H at hP hS ⊢
                have hP : va_P (dC, dI) classes (WM h g ca (u2 (u2 (u2 iv 12 34 n81) 12 37 n7) 12 38 n8) lv (u2 (u2 (u2 fa 12 26 f1) 12 30 f2) 12 28 f52) la) H := hP
                have hD : va_D A (WM h g ca (u2 (u2 (u2 iv 12 34 n81) 12 37 n7) 12 38 n8) lv (u2 (u2 (u2 fa 12 26 f1) 12 30 f2) 12 28 f52) la) := (show va_D _ (WM h g ca (u2 (u2 (u2 iv 12 34 n81) 12 37 n7) 12 38 n8) lv (u2 (u2 (u2 fa 12 26 f1) 12 30 f2) 12 28 f52) la) from hD).weaken (fun _ _ _ h => hFc _ h)
                have xr80_0 : (n6 : Int32).toInt ≤ (n81 : Int32).toInt := xr80_0
                have i_12_33 : 0 ≤ (iv 12 33).toInt ∧ (iv 12 33).toInt ≤ 200 := hI.1 12 33
                have xr80_1 : ((r80 : Int32).toInt = -1 ∨ (n81 : Int32).toInt + 1 ≤ ((iv 12 33) : Int32).toInt) := xr80_1
                refine lv_istore_n (lv' := [(3, .int r80), (0, .ref h), (1, .int 1), (2, .int k)]) hx hb dX12_readClause_261 rfl hl (by decide) rfl (fun ls hl => ?_)
                refine lv_aload_n hx hb dX12_readClause_262 rfl (lv_at hl 1 rfl) ?_
                refine lv_iload_n hx hb dX12_readClause_263 rfl (lv_at hl 0 rfl) ?_
                refine lv_bipush (v := 59) hx hb dX12_readClause_264 (by decide) ?_
                refine lv_icmp_ne (tgt := 273) hx hb dX12_readClause_266 (by decide) (fun c82 => ?_) (fun c82 => ?_)
                · have fc82 := z_ne (rfl : (r80).toInt = _) (by decide : (59 : Int32).toInt = 59) c82
                  refine lv_iconst (v := 0) hx hb dX12_readClause_273 (by decide) ?_
                  refine lv_iconst (v := 1) hx hb dX12_readClause_274 (by decide) ?_
                  refine lv_aload_n hx hb dX12_readClause_275 rfl (lv_at hl 1 rfl) ?_
                  refine gM_12_34 hx hb ht hown hK hP m_1173 (v := n81) rfl dX12_readClause_276 ?_
                  have hFc := free_all hD hS hA
                  refine va_calli (va_runV (As := [.int 0, .int 1, .int n81]) (rest := []) ⟨hx, hb, hml, hown, ht⟩ (c_X12_want_0 l dC dI H.size h g ca (u2 (u2 (u2 iv 12 34 n81) 12 37 n7) 12 38 n8) lv (u2 (u2 (u2 fa 12 26 f1) 12 30 f2) 12 28 f52) la (IX_a (c := 12) (k := 28) (IX_a (c := 12) (k := 30) (IX_a (c := 12) (k := 26) (IX_i (c := 12) (k := 38) (IX_i (c := 12) (k := 37) (IX_i (c := 12) (k := 34) hI (show inb (0, 200) n81 from ⟨by omega, by omega⟩)) (show inb (0, 200) n7 from ⟨by omega, by omega⟩)) (show inb (0, 200) n8 from ⟨by omega, by omega⟩)) hf1) hf2) hf52) 1 n81 ⟨by decide, by decide⟩) (kV 3 ht m_1472 m_1474 m_50 m_89 m_1475 rfl rfl hd_X12_want_v ⟨Nat.le_of_ble_eq_true rfl, Nat.le_of_ble_eq_true rfl⟩) (vW hP hK hD (rM_12 hK hP)) rfl rfl hl.1 rfl (lv_room (Nat.le_of_ble_eq_true rfl)) dX12_readClause_279 ⟨Nat.le_of_ble_eq_true rfl, Nat.le_of_ble_eq_true rfl⟩) hS (fun q _ h => hFc q h) hFc (fun r83 u t H1 locs ht9 hvm hr83 hB hz1 hk1 hS => ?_)
                  obtain ⟨n84, n85, hn84, xr83_0, hr83, rfl⟩ := hr83
                  have hn84 : 0 ≤ n84.toInt ∧ n84.toInt ≤ 5 := hn84
                  obtain ⟨hP, hD⟩ := hB
                  rw [ht9] at hP
                  generalize H1 = H at hP hS ⊢
                  have hP : va_P (dC, dI) classes (WM h g ca (u2 (u2 (u2 (u2 (u2 iv 12 34 n81) 12 37 n7) 12 38 n8) 12 35 n84) 12 36 n85) lv (u2 (u2 (u2 fa 12 26 f1) 12 30 f2) 12 28 f52) la) H := hP
                  have hD : va_D A (WM h g ca (u2 (u2 (u2 (u2 (u2 iv 12 34 n81) 12 37 n7) 12 38 n8) 12 35 n84) 12 36 n85) lv (u2 (u2 (u2 fa 12 26 f1) 12 30 f2) 12 28 f52) la) := (show va_D _ (WM h g ca (u2 (u2 (u2 (u2 (u2 iv 12 34 n81) 12 37 n7) 12 38 n8) 12 35 n84) 12 36 n85) lv (u2 (u2 (u2 fa 12 26 f1) 12 30 f2) 12 28 f52) la) from hD).weaken (fun _ _ _ h => hFc _ h)
                  have xr83_0 : 1 ≤ (n84 : Int32).toInt := xr83_0
                  obtain rfl : 0 = r83 := hr83.symm
                  refine lv_if_eq (tgt := 295) hx hb dX12_readClause_282 (by decide) (fun c86 => ?_) (fun c86 => ?_)
                  · skip
                    have hP9 : va_P (dC, dI) classes (WM h g ca (u2 (u2 (u2 (u2 (u2 iv 12 34 n81) 12 35 n84) 12 36 n85) 12 37 n7) 12 38 n8) lv (u2 (u2 (u2 fa 12 26 f1) 12 28 f52) 12 30 f2) la) H := hP
                    have hD9 : va_D A (WM h g ca (u2 (u2 (u2 (u2 (u2 iv 12 34 n81) 12 35 n84) 12 36 n85) 12 37 n7) 12 38 n8) lv (u2 (u2 (u2 fa 12 26 f1) 12 28 f52) 12 30 f2) la) := hD
                    exact W.vret hx hb hr (fun t ht9 hW => ⟨⟨((u2 (u2 (u2 (u2 (u2 iv 12 34 n81) 12 35 n84) 12 36 n85) 12 37 n7) 12 38 n8), lv, (u2 (u2 (u2 fa 12 26 f1) 12 28 f52) 12 30 f2), la), rfl, ⟨f1, f52, f2, n81, n84, n85, n7, n8, hf2, (show inb (0, 200) n81 from ⟨by omega, by omega⟩), (show inb (0, 5) n84 from ⟨by omega, by omega⟩), (show inb (0, 200) n7 from ⟨by omega, by omega⟩), (show inb (0, 200) n8 from ⟨by omega, by omega⟩), (show (iv 12 34).toInt ≤ (n81 : Int32).toInt from by omega), (show ∀ j : Nat, j ≠ k.toNatClampNeg → f1 j = (fa 12 26) j ∧ (fa 12 27) j = (fa 12 27) j ∧ f52 j = (fa 12 28) j from fun j hj => ⟨(by rw [ef1, upd_ne hj]), rfl, (by rw [ef52, upd_ne hj])⟩), (show ((n84 : Int32).toInt ≠ 0 ∨ gd3 (f1 k.toNatClampNeg) ((fa 12 27) k.toNatClampNeg) (f52 k.toNatClampNeg)) from (by
            have kc : (1 : Int32).toInt = 1 := by decide
            have kE : f1 k.toNatClampNeg = 1 := by rw [ef1]; exact upd_eq
            have fE : f52 k.toNatClampNeg = 2 := by rw [ef52]; exact upd_eq
            have := congrArg Int32.toInt (ev53.trans fE)
            by_cases h0 : (n84 : Int32).toInt = 0
            · refine Or.inr ?_; rw [kE, fE]; unfold gd3; exact ⟨fun h => by omega, fun h h2 => by omega⟩
            · exact Or.inl h0)), rfl⟩, by rw [ht9]; exact hP9, hD9⟩, hS.F ht9⟩) hS.2.2 dX12_readClause_295
                  · exact absurd rfl c86
                · have fc82 := z_eq (rfl : (r80).toInt = _) (by decide : (59 : Int32).toInt = 59) c82
                  refine lv_iconst (v := 1) hx hb dX12_readClause_269 (by decide) ?_
                  refine lv_goto (tgt := 274) hx hb dX12_readClause_270 (by decide) ?_
                  refine lv_iconst (v := 1) hx hb dX12_readClause_274 (by decide) ?_
                  refine lv_aload_n hx hb dX12_readClause_275 rfl (lv_at hl 1 rfl) ?_
                  refine gM_12_34 hx hb ht hown hK hP m_1173 (v := n81) rfl dX12_readClause_276 ?_
                  refine vp_callSi (W.runV (As := [.int 1, .int 1, .int n81]) (rest := []) ⟨hx, hb, hml, hown, ht⟩ (c_X12_want_1 l dC dI h g ca (u2 (u2 (u2 iv 12 34 n81) 12 37 n7) 12 38 n8) lv (u2 (u2 (u2 fa 12 26 f1) 12 30 f2) 12 28 f52) la (IX_a (c := 12) (k := 28) (IX_a (c := 12) (k := 30) (IX_a (c := 12) (k := 26) (IX_i (c := 12) (k := 38) (IX_i (c := 12) (k := 37) (IX_i (c := 12) (k := 34) hI (show inb (0, 200) n81 from ⟨by omega, by omega⟩)) (show inb (0, 200) n7 from ⟨by omega, by omega⟩)) (show inb (0, 200) n8 from ⟨by omega, by omega⟩)) hf1) hf2) hf52) 1 n81) (kV 3 ht m_1472 m_1474 m_50 m_89 m_1475 rfl rfl hd_X12_want_v ⟨Nat.le_of_ble_eq_true rfl, Nat.le_of_ble_eq_true rfl⟩) (vR hP hK (rM_12 hK hP)) rfl rfl hl.1 rfl (lv_room (Nat.le_of_ble_eq_true rfl)) dX12_readClause_279 ⟨Nat.le_of_ble_eq_true rfl, Nat.le_of_ble_eq_true rfl⟩) (fun r87 hr87 => ?_)
                  rcases hr87 with ⟨rfl, fr87⟩ | ⟨rfl, fr87⟩
                  · skip
                    have fr87 : (((iv 12 35) : Int32).toInt = 0) := fr87
                    exfalso; omega
                  · skip
                    have fr87 : ¬ (((iv 12 35) : Int32).toInt = 0) := fr87
                    refine lv_if_eq (tgt := 295) hx hb dX12_readClause_282 (by decide) (fun c88 => ?_) (fun c88 => ?_)
                    · skip
                      have hP9 : va_P (dC, dI) classes (WM h g ca (u2 (u2 (u2 (u2 (u2 iv 12 34 n81) 12 35 (iv 12 35)) 12 36 (iv 12 36)) 12 37 n7) 12 38 n8) lv (u2 (u2 (u2 fa 12 26 f1) 12 28 f52) 12 30 f2) la) H := hP
                      have hD9 : va_D A (WM h g ca (u2 (u2 (u2 (u2 (u2 iv 12 34 n81) 12 35 (iv 12 35)) 12 36 (iv 12 36)) 12 37 n7) 12 38 n8) lv (u2 (u2 (u2 fa 12 26 f1) 12 28 f52) 12 30 f2) la) := hD
                      exact W.vret hx hb hr (fun t ht9 hW => ⟨⟨((u2 (u2 (u2 (u2 (u2 iv 12 34 n81) 12 35 (iv 12 35)) 12 36 (iv 12 36)) 12 37 n7) 12 38 n8), lv, (u2 (u2 (u2 fa 12 26 f1) 12 28 f52) 12 30 f2), la), rfl, ⟨f1, f52, f2, n81, (iv 12 35), (iv 12 36), n7, n8, hf2, (show inb (0, 200) n81 from ⟨by omega, by omega⟩), (hI.1 12 35), (show inb (0, 200) n7 from ⟨by omega, by omega⟩), (show inb (0, 200) n8 from ⟨by omega, by omega⟩), (show (iv 12 34).toInt ≤ (n81 : Int32).toInt from by omega), (show ∀ j : Nat, j ≠ k.toNatClampNeg → f1 j = (fa 12 26) j ∧ (fa 12 27) j = (fa 12 27) j ∧ f52 j = (fa 12 28) j from fun j hj => ⟨(by rw [ef1, upd_ne hj]), rfl, (by rw [ef52, upd_ne hj])⟩), (show (((iv 12 35) : Int32).toInt ≠ 0 ∨ gd3 (f1 k.toNatClampNeg) ((fa 12 27) k.toNatClampNeg) (f52 k.toNatClampNeg)) from Or.inl (by omega)), rfl⟩, by rw [ht9]; exact hP9, hD9⟩, hS.F ht9⟩) hS.2.2 dX12_readClause_295
                    · exact absurd rfl c88
        · have fc12 := z_ne (rfl : (r11).toInt = _) (by decide : (0 : Int32).toInt = 0) c12
          refine lv_iconst (v := 1) hx hb dX12_readClause_144 (by decide) ?_
          refine lv_goto (tgt := 174) hx hb dX12_readClause_145 (by decide) ?_
          refine tM_12_28 hx hb hK hP hD hS (f0 := (fa 12 28)) rfl (i := k) (x := 1) (vp_in_iff.mpr ⟨by omega, by omega⟩) dX12_readClause_174 (fun f89 ef89 H locs hP hD hS => ?_)
          have hf89 : ∀ j, inb (bA 12 28 j) (f89 j) := fun j => full_i _
          refine lv_aload_n hx hb dX12_readClause_175 rfl (lv_at hl 0 rfl) ?_
          refine lv_aload_n hx hb dX12_readClause_176 rfl (lv_at hl 0 rfl) ?_
          refine gM_12_28 hx hb ht hown hK hP m_1167 dX12_readClause_177 ?_
          refine lv_iload_n hx hb dX12_readClause_180 rfl (lv_at hl 2 rfl) ?_
          refine lM_12_28 hx hb hK hP (f := f89) rfl (vp_in_iff.mpr ⟨by omega, by omega⟩) dX12_readClause_181 ?_
          refine lv_topi (fun v90 ev90 => ?_)
          refine lv_if_lt (tgt := 189) hx hb dX12_readClause_182 (by decide) (fun c91 => ?_) (fun c91 => ?_)
          · have fc91 := z_lt (rfl : (v90).toInt = _) (by decide : (0 : Int32).toInt = 0) c91
            refine lv_iconst (v := 0) hx hb dX12_readClause_189 (by decide) ?_
            refine lv_iconst (v := 1) hx hb dX12_readClause_190 (by decide) ?_
            refine lv_aload_n hx hb dX12_readClause_191 rfl (lv_at hl 0 rfl) ?_
            refine gM_12_37 hx hb ht hown hK hP m_1176 (v := n7) rfl dX12_readClause_192 ?_
            have hFc := free_all hD hS hA
            refine va_calli (va_runV (As := [.int 0, .int 1, .int n7]) (rest := []) ⟨hx, hb, hml, hown, ht⟩ (c_X12_want_0 l dC dI H.size h g ca (u2 (u2 (u2 iv 12 34 n6) 12 37 n7) 12 38 n8) lv (u2 (u2 (u2 fa 12 26 f1) 12 30 f2) 12 28 f89) la (IX_a (c := 12) (k := 28) (IX_a (c := 12) (k := 30) (IX_a (c := 12) (k := 26) (IX_i (c := 12) (k := 38) (IX_i (c := 12) (k := 37) (IX_i (c := 12) (k := 34) hI (show inb (0, 200) n6 from ⟨by omega, by omega⟩)) (show inb (0, 200) n7 from ⟨by omega, by omega⟩)) (show inb (0, 200) n8 from ⟨by omega, by omega⟩)) hf1) hf2) hf89) 1 n7 ⟨by decide, by decide⟩) (kV 3 ht m_1472 m_1474 m_50 m_89 m_1475 rfl rfl hd_X12_want_v ⟨Nat.le_of_ble_eq_true rfl, Nat.le_of_ble_eq_true rfl⟩) (vW hP hK hD (rM_12 hK hP)) rfl rfl hl.1 rfl (lv_room (Nat.le_of_ble_eq_true rfl)) dX12_readClause_195 ⟨Nat.le_of_ble_eq_true rfl, Nat.le_of_ble_eq_true rfl⟩) hS (fun q _ h => hFc q h) hFc (fun r92 u t H1 locs ht9 hvm hr92 hB hz1 hk1 hS => ?_)
            obtain ⟨n93, n94, hn93, xr92_0, hr92, rfl⟩ := hr92
            have hn93 : 0 ≤ n93.toInt ∧ n93.toInt ≤ 5 := hn93
            obtain ⟨hP, hD⟩ := hB
            rw [ht9] at hP
            generalize H1 = H at hP hS ⊢
            have hP : va_P (dC, dI) classes (WM h g ca (u2 (u2 (u2 (u2 (u2 iv 12 34 n6) 12 37 n7) 12 38 n8) 12 35 n93) 12 36 n94) lv (u2 (u2 (u2 fa 12 26 f1) 12 30 f2) 12 28 f89) la) H := hP
            have hD : va_D A (WM h g ca (u2 (u2 (u2 (u2 (u2 iv 12 34 n6) 12 37 n7) 12 38 n8) 12 35 n93) 12 36 n94) lv (u2 (u2 (u2 fa 12 26 f1) 12 30 f2) 12 28 f89) la) := (show va_D _ (WM h g ca (u2 (u2 (u2 (u2 (u2 iv 12 34 n6) 12 37 n7) 12 38 n8) 12 35 n93) 12 36 n94) lv (u2 (u2 (u2 fa 12 26 f1) 12 30 f2) 12 28 f89) la) from hD).weaken (fun _ _ _ h => hFc _ h)
            have xr92_0 : 1 ≤ (n93 : Int32).toInt := xr92_0
            obtain rfl : 0 = r92 := hr92.symm
            refine lv_istore_n (lv' := [(3, .int 0), (0, .ref h), (1, .int 1), (2, .int k)]) hx hb dX12_readClause_198 rfl hl (by decide) rfl (fun ls hl => ?_)
            refine lv_goto (tgt := 257) hx hb dX12_readClause_199 (by decide) ?_
            refine lv_aload_n hx hb dX12_readClause_257 rfl (lv_at hl 1 rfl) ?_
            have hFc := free_all hD hS hA
            refine va_calli (va_runV (As := []) (rest := []) ⟨hx, hb, hml, hown, ht⟩ (c_X12_here_x l dC dI H.size h g ca (u2 (u2 (u2 (u2 (u2 iv 12 34 n6) 12 37 n7) 12 38 n8) 12 35 n93) 12 36 n94) lv (u2 (u2 (u2 fa 12 26 f1) 12 30 f2) 12 28 f89) la (IX_a (c := 12) (k := 28) (IX_a (c := 12) (k := 30) (IX_a (c := 12) (k := 26) (IX_i (c := 12) (k := 36) (IX_i (c := 12) (k := 35) (IX_i (c := 12) (k := 38) (IX_i (c := 12) (k := 37) (IX_i (c := 12) (k := 34) hI (show inb (0, 200) n6 from ⟨by omega, by omega⟩)) (show inb (0, 200) n7 from ⟨by omega, by omega⟩)) (show inb (0, 200) n8 from ⟨by omega, by omega⟩)) (show inb (0, 5) n93 from ⟨by omega, by omega⟩)) (full_i _)) hf1) hf2) hf89)) (kV 0 ht m_1458 m_1460 m_47 m_89 m_1461 rfl rfl hd_X12_here_v ⟨Nat.le_of_ble_eq_true rfl, Nat.le_of_ble_eq_true rfl⟩) (vW hP hK hD (rM_12 hK hP)) rfl rfl hl.1 rfl (lv_room (Nat.le_of_ble_eq_true rfl)) dX12_readClause_258 ⟨Nat.le_of_ble_eq_true rfl, Nat.le_of_ble_eq_true rfl⟩) hS (fun q _ h => hFc q h) hFc (fun r95 u t H1 locs ht9 hvm hr95 hB hz1 hk1 hS => ?_)
            obtain ⟨n96, hn96, xr95_0, xr95_1, hr95, rfl⟩ := hr95
            have hn96 : 0 ≤ n96.toInt ∧ n96.toInt ≤ 200 := hn96
            obtain ⟨hP, hD⟩ := hB
            rw [ht9] at hP
            generalize H1 = H at hP hS ⊢
            have hP : va_P (dC, dI) classes (WM h g ca (u2 (u2 (u2 (u2 (u2 iv 12 34 n96) 12 37 n7) 12 38 n8) 12 35 n93) 12 36 n94) lv (u2 (u2 (u2 fa 12 26 f1) 12 30 f2) 12 28 f89) la) H := hP
            have hD : va_D A (WM h g ca (u2 (u2 (u2 (u2 (u2 iv 12 34 n96) 12 37 n7) 12 38 n8) 12 35 n93) 12 36 n94) lv (u2 (u2 (u2 fa 12 26 f1) 12 30 f2) 12 28 f89) la) := (show va_D _ (WM h g ca (u2 (u2 (u2 (u2 (u2 iv 12 34 n96) 12 37 n7) 12 38 n8) 12 35 n93) 12 36 n94) lv (u2 (u2 (u2 fa 12 26 f1) 12 30 f2) 12 28 f89) la) from hD).weaken (fun _ _ _ h => hFc _ h)
            have xr95_0 : (n6 : Int32).toInt ≤ (n96 : Int32).toInt := xr95_0
            have i_12_33 : 0 ≤ (iv 12 33).toInt ∧ (iv 12 33).toInt ≤ 200 := hI.1 12 33
            have xr95_1 : ((r95 : Int32).toInt = -1 ∨ (n96 : Int32).toInt + 1 ≤ ((iv 12 33) : Int32).toInt) := xr95_1
            refine lv_istore_n (lv' := [(3, .int r95), (0, .ref h), (1, .int 1), (2, .int k)]) hx hb dX12_readClause_261 rfl hl (by decide) rfl (fun ls hl => ?_)
            refine lv_aload_n hx hb dX12_readClause_262 rfl (lv_at hl 1 rfl) ?_
            refine lv_iload_n hx hb dX12_readClause_263 rfl (lv_at hl 0 rfl) ?_
            refine lv_bipush (v := 59) hx hb dX12_readClause_264 (by decide) ?_
            refine lv_icmp_ne (tgt := 273) hx hb dX12_readClause_266 (by decide) (fun c97 => ?_) (fun c97 => ?_)
            · have fc97 := z_ne (rfl : (r95).toInt = _) (by decide : (59 : Int32).toInt = 59) c97
              refine lv_iconst (v := 0) hx hb dX12_readClause_273 (by decide) ?_
              refine lv_iconst (v := 1) hx hb dX12_readClause_274 (by decide) ?_
              refine lv_aload_n hx hb dX12_readClause_275 rfl (lv_at hl 1 rfl) ?_
              refine gM_12_34 hx hb ht hown hK hP m_1173 (v := n96) rfl dX12_readClause_276 ?_
              have hFc := free_all hD hS hA
              refine va_calli (va_runV (As := [.int 0, .int 1, .int n96]) (rest := []) ⟨hx, hb, hml, hown, ht⟩ (c_X12_want_0 l dC dI H.size h g ca (u2 (u2 (u2 (u2 (u2 iv 12 34 n96) 12 37 n7) 12 38 n8) 12 35 n93) 12 36 n94) lv (u2 (u2 (u2 fa 12 26 f1) 12 30 f2) 12 28 f89) la (IX_a (c := 12) (k := 28) (IX_a (c := 12) (k := 30) (IX_a (c := 12) (k := 26) (IX_i (c := 12) (k := 36) (IX_i (c := 12) (k := 35) (IX_i (c := 12) (k := 38) (IX_i (c := 12) (k := 37) (IX_i (c := 12) (k := 34) hI (show inb (0, 200) n96 from ⟨by omega, by omega⟩)) (show inb (0, 200) n7 from ⟨by omega, by omega⟩)) (show inb (0, 200) n8 from ⟨by omega, by omega⟩)) (show inb (0, 5) n93 from ⟨by omega, by omega⟩)) (full_i _)) hf1) hf2) hf89) 1 n96 ⟨by decide, by decide⟩) (kV 3 ht m_1472 m_1474 m_50 m_89 m_1475 rfl rfl hd_X12_want_v ⟨Nat.le_of_ble_eq_true rfl, Nat.le_of_ble_eq_true rfl⟩) (vW hP hK hD (rM_12 hK hP)) rfl rfl hl.1 rfl (lv_room (Nat.le_of_ble_eq_true rfl)) dX12_readClause_279 ⟨Nat.le_of_ble_eq_true rfl, Nat.le_of_ble_eq_true rfl⟩) hS (fun q _ h => hFc q h) hFc (fun r98 u t H1 locs ht9 hvm hr98 hB hz1 hk1 hS => ?_)
              obtain ⟨n99, n100, hn99, xr98_0, hr98, rfl⟩ := hr98
              have hn99 : 0 ≤ n99.toInt ∧ n99.toInt ≤ 5 := hn99
              obtain ⟨hP, hD⟩ := hB
              rw [ht9] at hP
              generalize H1 = H at hP hS ⊢
              have hP : va_P (dC, dI) classes (WM h g ca (u2 (u2 (u2 (u2 (u2 iv 12 34 n96) 12 37 n7) 12 38 n8) 12 35 n99) 12 36 n100) lv (u2 (u2 (u2 fa 12 26 f1) 12 30 f2) 12 28 f89) la) H := hP
              have hD : va_D A (WM h g ca (u2 (u2 (u2 (u2 (u2 iv 12 34 n96) 12 37 n7) 12 38 n8) 12 35 n99) 12 36 n100) lv (u2 (u2 (u2 fa 12 26 f1) 12 30 f2) 12 28 f89) la) := (show va_D _ (WM h g ca (u2 (u2 (u2 (u2 (u2 iv 12 34 n96) 12 37 n7) 12 38 n8) 12 35 n99) 12 36 n100) lv (u2 (u2 (u2 fa 12 26 f1) 12 30 f2) 12 28 f89) la) from hD).weaken (fun _ _ _ h => hFc _ h)
              have xr98_0 : 1 ≤ (n99 : Int32).toInt := xr98_0
              obtain rfl : 0 = r98 := hr98.symm
              refine lv_if_eq (tgt := 295) hx hb dX12_readClause_282 (by decide) (fun c101 => ?_) (fun c101 => ?_)
              · skip
                have hP9 : va_P (dC, dI) classes (WM h g ca (u2 (u2 (u2 (u2 (u2 iv 12 34 n96) 12 35 n99) 12 36 n100) 12 37 n7) 12 38 n8) lv (u2 (u2 (u2 fa 12 26 f1) 12 28 f89) 12 30 f2) la) H := hP
                have hD9 : va_D A (WM h g ca (u2 (u2 (u2 (u2 (u2 iv 12 34 n96) 12 35 n99) 12 36 n100) 12 37 n7) 12 38 n8) lv (u2 (u2 (u2 fa 12 26 f1) 12 28 f89) 12 30 f2) la) := hD
                exact W.vret hx hb hr (fun t ht9 hW => ⟨⟨((u2 (u2 (u2 (u2 (u2 iv 12 34 n96) 12 35 n99) 12 36 n100) 12 37 n7) 12 38 n8), lv, (u2 (u2 (u2 fa 12 26 f1) 12 28 f89) 12 30 f2), la), rfl, ⟨f1, f89, f2, n96, n99, n100, n7, n8, hf2, (show inb (0, 200) n96 from ⟨by omega, by omega⟩), (show inb (0, 5) n99 from ⟨by omega, by omega⟩), (show inb (0, 200) n7 from ⟨by omega, by omega⟩), (show inb (0, 200) n8 from ⟨by omega, by omega⟩), (show (iv 12 34).toInt ≤ (n96 : Int32).toInt from by omega), (show ∀ j : Nat, j ≠ k.toNatClampNeg → f1 j = (fa 12 26) j ∧ (fa 12 27) j = (fa 12 27) j ∧ f89 j = (fa 12 28) j from fun j hj => ⟨(by rw [ef1, upd_ne hj]), rfl, (by rw [ef89, upd_ne hj])⟩), (show ((n99 : Int32).toInt ≠ 0 ∨ gd3 (f1 k.toNatClampNeg) ((fa 12 27) k.toNatClampNeg) (f89 k.toNatClampNeg)) from (by
            have kc : (1 : Int32).toInt = 1 := by decide
            have kE : f1 k.toNatClampNeg = 1 := by rw [ef1]; exact upd_eq
            have fE : f89 k.toNatClampNeg = 1 := by rw [ef89]; exact upd_eq
            have := congrArg Int32.toInt (ev90.trans fE)
            by_cases h0 : (n99 : Int32).toInt = 0
            · refine Or.inr ?_; rw [kE, fE]; unfold gd3; exact ⟨fun h => by omega, fun h h2 => by omega⟩
            · exact Or.inl h0)), rfl⟩, by rw [ht9]; exact hP9, hD9⟩, hS.F ht9⟩) hS.2.2 dX12_readClause_295
              · exact absurd rfl c101
            · have fc97 := z_eq (rfl : (r95).toInt = _) (by decide : (59 : Int32).toInt = 59) c97
              refine lv_iconst (v := 1) hx hb dX12_readClause_269 (by decide) ?_
              refine lv_goto (tgt := 274) hx hb dX12_readClause_270 (by decide) ?_
              refine lv_iconst (v := 1) hx hb dX12_readClause_274 (by decide) ?_
              refine lv_aload_n hx hb dX12_readClause_275 rfl (lv_at hl 1 rfl) ?_
              refine gM_12_34 hx hb ht hown hK hP m_1173 (v := n96) rfl dX12_readClause_276 ?_
              refine vp_callSi (W.runV (As := [.int 1, .int 1, .int n96]) (rest := []) ⟨hx, hb, hml, hown, ht⟩ (c_X12_want_1 l dC dI h g ca (u2 (u2 (u2 (u2 (u2 iv 12 34 n96) 12 37 n7) 12 38 n8) 12 35 n93) 12 36 n94) lv (u2 (u2 (u2 fa 12 26 f1) 12 30 f2) 12 28 f89) la (IX_a (c := 12) (k := 28) (IX_a (c := 12) (k := 30) (IX_a (c := 12) (k := 26) (IX_i (c := 12) (k := 36) (IX_i (c := 12) (k := 35) (IX_i (c := 12) (k := 38) (IX_i (c := 12) (k := 37) (IX_i (c := 12) (k := 34) hI (show inb (0, 200) n96 from ⟨by omega, by omega⟩)) (show inb (0, 200) n7 from ⟨by omega, by omega⟩)) (show inb (0, 200) n8 from ⟨by omega, by omega⟩)) (show inb (0, 5) n93 from ⟨by omega, by omega⟩)) (full_i _)) hf1) hf2) hf89) 1 n96) (kV 3 ht m_1472 m_1474 m_50 m_89 m_1475 rfl rfl hd_X12_want_v ⟨Nat.le_of_ble_eq_true rfl, Nat.le_of_ble_eq_true rfl⟩) (vR hP hK (rM_12 hK hP)) rfl rfl hl.1 rfl (lv_room (Nat.le_of_ble_eq_true rfl)) dX12_readClause_279 ⟨Nat.le_of_ble_eq_true rfl, Nat.le_of_ble_eq_true rfl⟩) (fun r102 hr102 => ?_)
              rcases hr102 with ⟨rfl, fr102⟩ | ⟨rfl, fr102⟩
              · skip
                have fr102 : ((n93 : Int32).toInt = 0) := fr102
                refine lv_if_eq (tgt := 295) hx hb dX12_readClause_282 (by decide) (fun c103 => ?_) (fun c103 => ?_)
                · exact absurd c103 (by decide)
                · skip
                  refine lv_aload_n hx hb dX12_readClause_285 rfl (lv_at hl 1 rfl) ?_
                  refine lv_dup hx hb dX12_readClause_286 rfl ?_
                  refine gM_12_34 hx hb ht hown hK hP m_1173 (v := n96) rfl dX12_readClause_287 ?_
                  refine lv_iconst (v := 1) hx hb dX12_readClause_290 (by decide) ?_
                  refine lv_iadd hx hb dX12_readClause_291 ?_
                  refine lv_topi (fun v104 ev104 => ?_)
                  have tv104 := z_add ev104 (rfl : (n96).toInt = _) (by decide : (1 : Int32).toInt = 1) (by omega) (by omega)
                  have : 0 ≤ (v104 : Int32).toInt ∧ (v104 : Int32).toInt ≤ 200 := ⟨by omega, by omega⟩
                  refine pM_12_34 (v := v104) hx hb ht hown hK hP hD hS m_1173 dX12_readClause_292 (fun H locs hP hD hS => ?_)
                  have hP : va_P (dC, dI) classes (WM h g ca (u2 (u2 (u2 (u2 (u2 iv 12 34 v104) 12 37 n7) 12 38 n8) 12 35 n93) 12 36 n94) lv (u2 (u2 (u2 fa 12 26 f1) 12 30 f2) 12 28 f89) la) H := hP
                  have hD : va_D A (WM h g ca (u2 (u2 (u2 (u2 (u2 iv 12 34 v104) 12 37 n7) 12 38 n8) 12 35 n93) 12 36 n94) lv (u2 (u2 (u2 fa 12 26 f1) 12 30 f2) 12 28 f89) la) := hD
                  have hP9 : va_P (dC, dI) classes (WM h g ca (u2 (u2 (u2 (u2 (u2 iv 12 34 v104) 12 35 n93) 12 36 n94) 12 37 n7) 12 38 n8) lv (u2 (u2 (u2 fa 12 26 f1) 12 28 f89) 12 30 f2) la) H := hP
                  have hD9 : va_D A (WM h g ca (u2 (u2 (u2 (u2 (u2 iv 12 34 v104) 12 35 n93) 12 36 n94) 12 37 n7) 12 38 n8) lv (u2 (u2 (u2 fa 12 26 f1) 12 28 f89) 12 30 f2) la) := hD
                  exact W.vret hx hb hr (fun t ht9 hW => ⟨⟨((u2 (u2 (u2 (u2 (u2 iv 12 34 v104) 12 35 n93) 12 36 n94) 12 37 n7) 12 38 n8), lv, (u2 (u2 (u2 fa 12 26 f1) 12 28 f89) 12 30 f2), la), rfl, ⟨f1, f89, f2, v104, n93, n94, n7, n8, hf2, (show inb (0, 200) v104 from ⟨by omega, by omega⟩), (show inb (0, 5) n93 from ⟨by omega, by omega⟩), (show inb (0, 200) n7 from ⟨by omega, by omega⟩), (show inb (0, 200) n8 from ⟨by omega, by omega⟩), (show (iv 12 34).toInt ≤ (v104 : Int32).toInt from by omega), (show ∀ j : Nat, j ≠ k.toNatClampNeg → f1 j = (fa 12 26) j ∧ (fa 12 27) j = (fa 12 27) j ∧ f89 j = (fa 12 28) j from fun j hj => ⟨(by rw [ef1, upd_ne hj]), rfl, (by rw [ef89, upd_ne hj])⟩), (show ((n93 : Int32).toInt ≠ 0 ∨ gd3 (f1 k.toNatClampNeg) ((fa 12 27) k.toNatClampNeg) (f89 k.toNatClampNeg)) from (by
            have kc : (1 : Int32).toInt = 1 := by decide
            have kE : f1 k.toNatClampNeg = 1 := by rw [ef1]; exact upd_eq
            have fE : f89 k.toNatClampNeg = 1 := by rw [ef89]; exact upd_eq
            have := congrArg Int32.toInt (ev90.trans fE)
            by_cases h0 : (n93 : Int32).toInt = 0
            · refine Or.inr ?_; rw [kE, fE]; unfold gd3; exact ⟨fun h => by omega, fun h h2 => by omega⟩
            · exact Or.inl h0)), rfl⟩, by rw [ht9]; exact hP9, hD9⟩, hS.F ht9⟩) hS.2.2 dX12_readClause_295
              · skip
                have fr102 : ¬ ((n93 : Int32).toInt = 0) := fr102
                refine lv_if_eq (tgt := 295) hx hb dX12_readClause_282 (by decide) (fun c105 => ?_) (fun c105 => ?_)
                · skip
                  have hP9 : va_P (dC, dI) classes (WM h g ca (u2 (u2 (u2 (u2 (u2 iv 12 34 n96) 12 35 n93) 12 36 n94) 12 37 n7) 12 38 n8) lv (u2 (u2 (u2 fa 12 26 f1) 12 28 f89) 12 30 f2) la) H := hP
                  have hD9 : va_D A (WM h g ca (u2 (u2 (u2 (u2 (u2 iv 12 34 n96) 12 35 n93) 12 36 n94) 12 37 n7) 12 38 n8) lv (u2 (u2 (u2 fa 12 26 f1) 12 28 f89) 12 30 f2) la) := hD
                  exact W.vret hx hb hr (fun t ht9 hW => ⟨⟨((u2 (u2 (u2 (u2 (u2 iv 12 34 n96) 12 35 n93) 12 36 n94) 12 37 n7) 12 38 n8), lv, (u2 (u2 (u2 fa 12 26 f1) 12 28 f89) 12 30 f2), la), rfl, ⟨f1, f89, f2, n96, n93, n94, n7, n8, hf2, (show inb (0, 200) n96 from ⟨by omega, by omega⟩), (show inb (0, 5) n93 from ⟨by omega, by omega⟩), (show inb (0, 200) n7 from ⟨by omega, by omega⟩), (show inb (0, 200) n8 from ⟨by omega, by omega⟩), (show (iv 12 34).toInt ≤ (n96 : Int32).toInt from by omega), (show ∀ j : Nat, j ≠ k.toNatClampNeg → f1 j = (fa 12 26) j ∧ (fa 12 27) j = (fa 12 27) j ∧ f89 j = (fa 12 28) j from fun j hj => ⟨(by rw [ef1, upd_ne hj]), rfl, (by rw [ef89, upd_ne hj])⟩), (show ((n93 : Int32).toInt ≠ 0 ∨ gd3 (f1 k.toNatClampNeg) ((fa 12 27) k.toNatClampNeg) (f89 k.toNatClampNeg)) from Or.inl (by omega)), rfl⟩, by rw [ht9]; exact hP9, hD9⟩, hS.F ht9⟩) hS.2.2 dX12_readClause_295
                · exact absurd rfl c105
          · have fc91 := z_nlt (rfl : (v90).toInt = _) (by decide : (0 : Int32).toInt = 0) c91
            refine lv_iconst (v := 1) hx hb dX12_readClause_185 (by decide) ?_
            refine lv_goto (tgt := 190) hx hb dX12_readClause_186 (by decide) ?_
            refine lv_iconst (v := 1) hx hb dX12_readClause_190 (by decide) ?_
            refine lv_aload_n hx hb dX12_readClause_191 rfl (lv_at hl 0 rfl) ?_
            refine gM_12_37 hx hb ht hown hK hP m_1176 (v := n7) rfl dX12_readClause_192 ?_
            refine vp_callSi (W.runV (As := [.int 1, .int 1, .int n7]) (rest := []) ⟨hx, hb, hml, hown, ht⟩ (c_X12_want_1 l dC dI h g ca (u2 (u2 (u2 iv 12 34 n6) 12 37 n7) 12 38 n8) lv (u2 (u2 (u2 fa 12 26 f1) 12 30 f2) 12 28 f89) la (IX_a (c := 12) (k := 28) (IX_a (c := 12) (k := 30) (IX_a (c := 12) (k := 26) (IX_i (c := 12) (k := 38) (IX_i (c := 12) (k := 37) (IX_i (c := 12) (k := 34) hI (show inb (0, 200) n6 from ⟨by omega, by omega⟩)) (show inb (0, 200) n7 from ⟨by omega, by omega⟩)) (show inb (0, 200) n8 from ⟨by omega, by omega⟩)) hf1) hf2) hf89) 1 n7) (kV 3 ht m_1472 m_1474 m_50 m_89 m_1475 rfl rfl hd_X12_want_v ⟨Nat.le_of_ble_eq_true rfl, Nat.le_of_ble_eq_true rfl⟩) (vR hP hK (rM_12 hK hP)) rfl rfl hl.1 rfl (lv_room (Nat.le_of_ble_eq_true rfl)) dX12_readClause_195 ⟨Nat.le_of_ble_eq_true rfl, Nat.le_of_ble_eq_true rfl⟩) (fun r106 hr106 => ?_)
            rcases hr106 with ⟨rfl, fr106⟩ | ⟨rfl, fr106⟩
            have i_12_35 : 0 ≤ (iv 12 35).toInt ∧ (iv 12 35).toInt ≤ 5 := hI.1 12 35
            · skip
              have i_12_35 : 0 ≤ (iv 12 35).toInt ∧ (iv 12 35).toInt ≤ 5 := hI.1 12 35
              have fr106 : (((iv 12 35) : Int32).toInt = 0) := fr106
              refine lv_istore_n (lv' := [(3, .int 1), (0, .ref h), (1, .int 1), (2, .int k)]) hx hb dX12_readClause_198 rfl hl (by decide) rfl (fun ls hl => ?_)
              refine lv_goto (tgt := 257) hx hb dX12_readClause_199 (by decide) ?_
              refine lv_aload_n hx hb dX12_readClause_257 rfl (lv_at hl 1 rfl) ?_
              have hFc := free_all hD hS hA
              refine va_calli (va_runV (As := []) (rest := []) ⟨hx, hb, hml, hown, ht⟩ (c_X12_here_x l dC dI H.size h g ca (u2 (u2 (u2 iv 12 34 n6) 12 37 n7) 12 38 n8) lv (u2 (u2 (u2 fa 12 26 f1) 12 30 f2) 12 28 f89) la (IX_a (c := 12) (k := 28) (IX_a (c := 12) (k := 30) (IX_a (c := 12) (k := 26) (IX_i (c := 12) (k := 38) (IX_i (c := 12) (k := 37) (IX_i (c := 12) (k := 34) hI (show inb (0, 200) n6 from ⟨by omega, by omega⟩)) (show inb (0, 200) n7 from ⟨by omega, by omega⟩)) (show inb (0, 200) n8 from ⟨by omega, by omega⟩)) hf1) hf2) hf89)) (kV 0 ht m_1458 m_1460 m_47 m_89 m_1461 rfl rfl hd_X12_here_v ⟨Nat.le_of_ble_eq_true rfl, Nat.le_of_ble_eq_true rfl⟩) (vW hP hK hD (rM_12 hK hP)) rfl rfl hl.1 rfl (lv_room (Nat.le_of_ble_eq_true rfl)) dX12_readClause_258 ⟨Nat.le_of_ble_eq_true rfl, Nat.le_of_ble_eq_true rfl⟩) hS (fun q _ h => hFc q h) hFc (fun r107 u t H1 locs ht9 hvm hr107 hB hz1 hk1 hS => ?_)
              obtain ⟨n108, hn108, xr107_0, xr107_1, hr107, rfl⟩ := hr107
              have hn108 : 0 ≤ n108.toInt ∧ n108.toInt ≤ 200 := hn108
              obtain ⟨hP, hD⟩ := hB
              rw [ht9] at hP
              generalize H1 = H at hP hS ⊢
              have hP : va_P (dC, dI) classes (WM h g ca (u2 (u2 (u2 iv 12 34 n108) 12 37 n7) 12 38 n8) lv (u2 (u2 (u2 fa 12 26 f1) 12 30 f2) 12 28 f89) la) H := hP
              have hD : va_D A (WM h g ca (u2 (u2 (u2 iv 12 34 n108) 12 37 n7) 12 38 n8) lv (u2 (u2 (u2 fa 12 26 f1) 12 30 f2) 12 28 f89) la) := (show va_D _ (WM h g ca (u2 (u2 (u2 iv 12 34 n108) 12 37 n7) 12 38 n8) lv (u2 (u2 (u2 fa 12 26 f1) 12 30 f2) 12 28 f89) la) from hD).weaken (fun _ _ _ h => hFc _ h)
              have xr107_0 : (n6 : Int32).toInt ≤ (n108 : Int32).toInt := xr107_0
              have i_12_33 : 0 ≤ (iv 12 33).toInt ∧ (iv 12 33).toInt ≤ 200 := hI.1 12 33
              have xr107_1 : ((r107 : Int32).toInt = -1 ∨ (n108 : Int32).toInt + 1 ≤ ((iv 12 33) : Int32).toInt) := xr107_1
              refine lv_istore_n (lv' := [(3, .int r107), (0, .ref h), (1, .int 1), (2, .int k)]) hx hb dX12_readClause_261 rfl hl (by decide) rfl (fun ls hl => ?_)
              refine lv_aload_n hx hb dX12_readClause_262 rfl (lv_at hl 1 rfl) ?_
              refine lv_iload_n hx hb dX12_readClause_263 rfl (lv_at hl 0 rfl) ?_
              refine lv_bipush (v := 59) hx hb dX12_readClause_264 (by decide) ?_
              refine lv_icmp_ne (tgt := 273) hx hb dX12_readClause_266 (by decide) (fun c109 => ?_) (fun c109 => ?_)
              · have fc109 := z_ne (rfl : (r107).toInt = _) (by decide : (59 : Int32).toInt = 59) c109
                refine lv_iconst (v := 0) hx hb dX12_readClause_273 (by decide) ?_
                refine lv_iconst (v := 1) hx hb dX12_readClause_274 (by decide) ?_
                refine lv_aload_n hx hb dX12_readClause_275 rfl (lv_at hl 1 rfl) ?_
                refine gM_12_34 hx hb ht hown hK hP m_1173 (v := n108) rfl dX12_readClause_276 ?_
                have hFc := free_all hD hS hA
                refine va_calli (va_runV (As := [.int 0, .int 1, .int n108]) (rest := []) ⟨hx, hb, hml, hown, ht⟩ (c_X12_want_0 l dC dI H.size h g ca (u2 (u2 (u2 iv 12 34 n108) 12 37 n7) 12 38 n8) lv (u2 (u2 (u2 fa 12 26 f1) 12 30 f2) 12 28 f89) la (IX_a (c := 12) (k := 28) (IX_a (c := 12) (k := 30) (IX_a (c := 12) (k := 26) (IX_i (c := 12) (k := 38) (IX_i (c := 12) (k := 37) (IX_i (c := 12) (k := 34) hI (show inb (0, 200) n108 from ⟨by omega, by omega⟩)) (show inb (0, 200) n7 from ⟨by omega, by omega⟩)) (show inb (0, 200) n8 from ⟨by omega, by omega⟩)) hf1) hf2) hf89) 1 n108 ⟨by decide, by decide⟩) (kV 3 ht m_1472 m_1474 m_50 m_89 m_1475 rfl rfl hd_X12_want_v ⟨Nat.le_of_ble_eq_true rfl, Nat.le_of_ble_eq_true rfl⟩) (vW hP hK hD (rM_12 hK hP)) rfl rfl hl.1 rfl (lv_room (Nat.le_of_ble_eq_true rfl)) dX12_readClause_279 ⟨Nat.le_of_ble_eq_true rfl, Nat.le_of_ble_eq_true rfl⟩) hS (fun q _ h => hFc q h) hFc (fun r110 u t H1 locs ht9 hvm hr110 hB hz1 hk1 hS => ?_)
                obtain ⟨n111, n112, hn111, xr110_0, hr110, rfl⟩ := hr110
                have hn111 : 0 ≤ n111.toInt ∧ n111.toInt ≤ 5 := hn111
                obtain ⟨hP, hD⟩ := hB
                rw [ht9] at hP
                generalize H1 = H at hP hS ⊢
                have hP : va_P (dC, dI) classes (WM h g ca (u2 (u2 (u2 (u2 (u2 iv 12 34 n108) 12 37 n7) 12 38 n8) 12 35 n111) 12 36 n112) lv (u2 (u2 (u2 fa 12 26 f1) 12 30 f2) 12 28 f89) la) H := hP
                have hD : va_D A (WM h g ca (u2 (u2 (u2 (u2 (u2 iv 12 34 n108) 12 37 n7) 12 38 n8) 12 35 n111) 12 36 n112) lv (u2 (u2 (u2 fa 12 26 f1) 12 30 f2) 12 28 f89) la) := (show va_D _ (WM h g ca (u2 (u2 (u2 (u2 (u2 iv 12 34 n108) 12 37 n7) 12 38 n8) 12 35 n111) 12 36 n112) lv (u2 (u2 (u2 fa 12 26 f1) 12 30 f2) 12 28 f89) la) from hD).weaken (fun _ _ _ h => hFc _ h)
                have xr110_0 : 1 ≤ (n111 : Int32).toInt := xr110_0
                obtain rfl : 0 = r110 := hr110.symm
                refine lv_if_eq (tgt := 295) hx hb dX12_readClause_282 (by decide) (fun c113 => ?_) (fun c113 => ?_)
                · skip
                  have hP9 : va_P (dC, dI) classes (WM h g ca (u2 (u2 (u2 (u2 (u2 iv 12 34 n108) 12 35 n111) 12 36 n112) 12 37 n7) 12 38 n8) lv (u2 (u2 (u2 fa 12 26 f1) 12 28 f89) 12 30 f2) la) H := hP
                  have hD9 : va_D A (WM h g ca (u2 (u2 (u2 (u2 (u2 iv 12 34 n108) 12 35 n111) 12 36 n112) 12 37 n7) 12 38 n8) lv (u2 (u2 (u2 fa 12 26 f1) 12 28 f89) 12 30 f2) la) := hD
                  exact W.vret hx hb hr (fun t ht9 hW => ⟨⟨((u2 (u2 (u2 (u2 (u2 iv 12 34 n108) 12 35 n111) 12 36 n112) 12 37 n7) 12 38 n8), lv, (u2 (u2 (u2 fa 12 26 f1) 12 28 f89) 12 30 f2), la), rfl, ⟨f1, f89, f2, n108, n111, n112, n7, n8, hf2, (show inb (0, 200) n108 from ⟨by omega, by omega⟩), (show inb (0, 5) n111 from ⟨by omega, by omega⟩), (show inb (0, 200) n7 from ⟨by omega, by omega⟩), (show inb (0, 200) n8 from ⟨by omega, by omega⟩), (show (iv 12 34).toInt ≤ (n108 : Int32).toInt from by omega), (show ∀ j : Nat, j ≠ k.toNatClampNeg → f1 j = (fa 12 26) j ∧ (fa 12 27) j = (fa 12 27) j ∧ f89 j = (fa 12 28) j from fun j hj => ⟨(by rw [ef1, upd_ne hj]), rfl, (by rw [ef89, upd_ne hj])⟩), (show ((n111 : Int32).toInt ≠ 0 ∨ gd3 (f1 k.toNatClampNeg) ((fa 12 27) k.toNatClampNeg) (f89 k.toNatClampNeg)) from (by
            have kc : (1 : Int32).toInt = 1 := by decide
            have kE : f1 k.toNatClampNeg = 1 := by rw [ef1]; exact upd_eq
            have fE : f89 k.toNatClampNeg = 1 := by rw [ef89]; exact upd_eq
            have := congrArg Int32.toInt (ev90.trans fE)
            by_cases h0 : (n111 : Int32).toInt = 0
            · refine Or.inr ?_; rw [kE, fE]; unfold gd3; exact ⟨fun h => by omega, fun h h2 => by omega⟩
            · exact Or.inl h0)), rfl⟩, by rw [ht9]; exact hP9, hD9⟩, hS.F ht9⟩) hS.2.2 dX12_readClause_295
                · exact absurd rfl c113
              · have fc109 := z_eq (rfl : (r107).toInt = _) (by decide : (59 : Int32).toInt = 59) c109
                refine lv_iconst (v := 1) hx hb dX12_readClause_269 (by decide) ?_
                refine lv_goto (tgt := 274) hx hb dX12_readClause_270 (by decide) ?_
                refine lv_iconst (v := 1) hx hb dX12_readClause_274 (by decide) ?_
                refine lv_aload_n hx hb dX12_readClause_275 rfl (lv_at hl 1 rfl) ?_
                refine gM_12_34 hx hb ht hown hK hP m_1173 (v := n108) rfl dX12_readClause_276 ?_
                refine vp_callSi (W.runV (As := [.int 1, .int 1, .int n108]) (rest := []) ⟨hx, hb, hml, hown, ht⟩ (c_X12_want_1 l dC dI h g ca (u2 (u2 (u2 iv 12 34 n108) 12 37 n7) 12 38 n8) lv (u2 (u2 (u2 fa 12 26 f1) 12 30 f2) 12 28 f89) la (IX_a (c := 12) (k := 28) (IX_a (c := 12) (k := 30) (IX_a (c := 12) (k := 26) (IX_i (c := 12) (k := 38) (IX_i (c := 12) (k := 37) (IX_i (c := 12) (k := 34) hI (show inb (0, 200) n108 from ⟨by omega, by omega⟩)) (show inb (0, 200) n7 from ⟨by omega, by omega⟩)) (show inb (0, 200) n8 from ⟨by omega, by omega⟩)) hf1) hf2) hf89) 1 n108) (kV 3 ht m_1472 m_1474 m_50 m_89 m_1475 rfl rfl hd_X12_want_v ⟨Nat.le_of_ble_eq_true rfl, Nat.le_of_ble_eq_true rfl⟩) (vR hP hK (rM_12 hK hP)) rfl rfl hl.1 rfl (lv_room (Nat.le_of_ble_eq_true rfl)) dX12_readClause_279 ⟨Nat.le_of_ble_eq_true rfl, Nat.le_of_ble_eq_true rfl⟩) (fun r114 hr114 => ?_)
                rcases hr114 with ⟨rfl, fr114⟩ | ⟨rfl, fr114⟩
                · skip
                  have fr114 : (((iv 12 35) : Int32).toInt = 0) := fr114
                  refine lv_if_eq (tgt := 295) hx hb dX12_readClause_282 (by decide) (fun c115 => ?_) (fun c115 => ?_)
                  · exact absurd c115 (by decide)
                  · skip
                    refine lv_aload_n hx hb dX12_readClause_285 rfl (lv_at hl 1 rfl) ?_
                    refine lv_dup hx hb dX12_readClause_286 rfl ?_
                    refine gM_12_34 hx hb ht hown hK hP m_1173 (v := n108) rfl dX12_readClause_287 ?_
                    refine lv_iconst (v := 1) hx hb dX12_readClause_290 (by decide) ?_
                    refine lv_iadd hx hb dX12_readClause_291 ?_
                    refine lv_topi (fun v116 ev116 => ?_)
                    have tv116 := z_add ev116 (rfl : (n108).toInt = _) (by decide : (1 : Int32).toInt = 1) (by omega) (by omega)
                    have : 0 ≤ (v116 : Int32).toInt ∧ (v116 : Int32).toInt ≤ 200 := ⟨by omega, by omega⟩
                    refine pM_12_34 (v := v116) hx hb ht hown hK hP hD hS m_1173 dX12_readClause_292 (fun H locs hP hD hS => ?_)
                    have hP : va_P (dC, dI) classes (WM h g ca (u2 (u2 (u2 iv 12 34 v116) 12 37 n7) 12 38 n8) lv (u2 (u2 (u2 fa 12 26 f1) 12 30 f2) 12 28 f89) la) H := hP
                    have hD : va_D A (WM h g ca (u2 (u2 (u2 iv 12 34 v116) 12 37 n7) 12 38 n8) lv (u2 (u2 (u2 fa 12 26 f1) 12 30 f2) 12 28 f89) la) := hD
                    have hP9 : va_P (dC, dI) classes (WM h g ca (u2 (u2 (u2 (u2 (u2 iv 12 34 v116) 12 35 (iv 12 35)) 12 36 (iv 12 36)) 12 37 n7) 12 38 n8) lv (u2 (u2 (u2 fa 12 26 f1) 12 28 f89) 12 30 f2) la) H := hP
                    have hD9 : va_D A (WM h g ca (u2 (u2 (u2 (u2 (u2 iv 12 34 v116) 12 35 (iv 12 35)) 12 36 (iv 12 36)) 12 37 n7) 12 38 n8) lv (u2 (u2 (u2 fa 12 26 f1) 12 28 f89) 12 30 f2) la) := hD
                    exact W.vret hx hb hr (fun t ht9 hW => ⟨⟨((u2 (u2 (u2 (u2 (u2 iv 12 34 v116) 12 35 (iv 12 35)) 12 36 (iv 12 36)) 12 37 n7) 12 38 n8), lv, (u2 (u2 (u2 fa 12 26 f1) 12 28 f89) 12 30 f2), la), rfl, ⟨f1, f89, f2, v116, (iv 12 35), (iv 12 36), n7, n8, hf2, (show inb (0, 200) v116 from ⟨by omega, by omega⟩), (hI.1 12 35), (show inb (0, 200) n7 from ⟨by omega, by omega⟩), (show inb (0, 200) n8 from ⟨by omega, by omega⟩), (show (iv 12 34).toInt ≤ (v116 : Int32).toInt from by omega), (show ∀ j : Nat, j ≠ k.toNatClampNeg → f1 j = (fa 12 26) j ∧ (fa 12 27) j = (fa 12 27) j ∧ f89 j = (fa 12 28) j from fun j hj => ⟨(by rw [ef1, upd_ne hj]), rfl, (by rw [ef89, upd_ne hj])⟩), (show (((iv 12 35) : Int32).toInt ≠ 0 ∨ gd3 (f1 k.toNatClampNeg) ((fa 12 27) k.toNatClampNeg) (f89 k.toNatClampNeg)) from (by
            have kc : (1 : Int32).toInt = 1 := by decide
            have kE : f1 k.toNatClampNeg = 1 := by rw [ef1]; exact upd_eq
            have fE : f89 k.toNatClampNeg = 1 := by rw [ef89]; exact upd_eq
            have := congrArg Int32.toInt (ev90.trans fE)
            by_cases h0 : ((iv 12 35) : Int32).toInt = 0
            · refine Or.inr ?_; rw [kE, fE]; unfold gd3; exact ⟨fun h => by omega, fun h h2 => by omega⟩
            · exact Or.inl h0)), rfl⟩, by rw [ht9]; exact hP9, hD9⟩, hS.F ht9⟩) hS.2.2 dX12_readClause_295
                · skip
                  have fr114 : ¬ (((iv 12 35) : Int32).toInt = 0) := fr114
                  exfalso; omega
            · skip
              have fr106 : ¬ (((iv 12 35) : Int32).toInt = 0) := fr106
              refine lv_istore_n (lv' := [(3, .int 0), (0, .ref h), (1, .int 1), (2, .int k)]) hx hb dX12_readClause_198 rfl hl (by decide) rfl (fun ls hl => ?_)
              refine lv_goto (tgt := 257) hx hb dX12_readClause_199 (by decide) ?_
              refine lv_aload_n hx hb dX12_readClause_257 rfl (lv_at hl 1 rfl) ?_
              have hFc := free_all hD hS hA
              refine va_calli (va_runV (As := []) (rest := []) ⟨hx, hb, hml, hown, ht⟩ (c_X12_here_x l dC dI H.size h g ca (u2 (u2 (u2 iv 12 34 n6) 12 37 n7) 12 38 n8) lv (u2 (u2 (u2 fa 12 26 f1) 12 30 f2) 12 28 f89) la (IX_a (c := 12) (k := 28) (IX_a (c := 12) (k := 30) (IX_a (c := 12) (k := 26) (IX_i (c := 12) (k := 38) (IX_i (c := 12) (k := 37) (IX_i (c := 12) (k := 34) hI (show inb (0, 200) n6 from ⟨by omega, by omega⟩)) (show inb (0, 200) n7 from ⟨by omega, by omega⟩)) (show inb (0, 200) n8 from ⟨by omega, by omega⟩)) hf1) hf2) hf89)) (kV 0 ht m_1458 m_1460 m_47 m_89 m_1461 rfl rfl hd_X12_here_v ⟨Nat.le_of_ble_eq_true rfl, Nat.le_of_ble_eq_true rfl⟩) (vW hP hK hD (rM_12 hK hP)) rfl rfl hl.1 rfl (lv_room (Nat.le_of_ble_eq_true rfl)) dX12_readClause_258 ⟨Nat.le_of_ble_eq_true rfl, Nat.le_of_ble_eq_true rfl⟩) hS (fun q _ h => hFc q h) hFc (fun r117 u t H1 locs ht9 hvm hr117 hB hz1 hk1 hS => ?_)
              obtain ⟨n118, hn118, xr117_0, xr117_1, hr117, rfl⟩ := hr117
              have hn118 : 0 ≤ n118.toInt ∧ n118.toInt ≤ 200 := hn118
              obtain ⟨hP, hD⟩ := hB
              rw [ht9] at hP
              generalize H1 = H at hP hS ⊢
              have hP : va_P (dC, dI) classes (WM h g ca (u2 (u2 (u2 iv 12 34 n118) 12 37 n7) 12 38 n8) lv (u2 (u2 (u2 fa 12 26 f1) 12 30 f2) 12 28 f89) la) H := hP
              have hD : va_D A (WM h g ca (u2 (u2 (u2 iv 12 34 n118) 12 37 n7) 12 38 n8) lv (u2 (u2 (u2 fa 12 26 f1) 12 30 f2) 12 28 f89) la) := (show va_D _ (WM h g ca (u2 (u2 (u2 iv 12 34 n118) 12 37 n7) 12 38 n8) lv (u2 (u2 (u2 fa 12 26 f1) 12 30 f2) 12 28 f89) la) from hD).weaken (fun _ _ _ h => hFc _ h)
              have xr117_0 : (n6 : Int32).toInt ≤ (n118 : Int32).toInt := xr117_0
              have i_12_33 : 0 ≤ (iv 12 33).toInt ∧ (iv 12 33).toInt ≤ 200 := hI.1 12 33
              have xr117_1 : ((r117 : Int32).toInt = -1 ∨ (n118 : Int32).toInt + 1 ≤ ((iv 12 33) : Int32).toInt) := xr117_1
              refine lv_istore_n (lv' := [(3, .int r117), (0, .ref h), (1, .int 1), (2, .int k)]) hx hb dX12_readClause_261 rfl hl (by decide) rfl (fun ls hl => ?_)
              refine lv_aload_n hx hb dX12_readClause_262 rfl (lv_at hl 1 rfl) ?_
              refine lv_iload_n hx hb dX12_readClause_263 rfl (lv_at hl 0 rfl) ?_
              refine lv_bipush (v := 59) hx hb dX12_readClause_264 (by decide) ?_
              refine lv_icmp_ne (tgt := 273) hx hb dX12_readClause_266 (by decide) (fun c119 => ?_) (fun c119 => ?_)
              · have fc119 := z_ne (rfl : (r117).toInt = _) (by decide : (59 : Int32).toInt = 59) c119
                refine lv_iconst (v := 0) hx hb dX12_readClause_273 (by decide) ?_
                refine lv_iconst (v := 1) hx hb dX12_readClause_274 (by decide) ?_
                refine lv_aload_n hx hb dX12_readClause_275 rfl (lv_at hl 1 rfl) ?_
                refine gM_12_34 hx hb ht hown hK hP m_1173 (v := n118) rfl dX12_readClause_276 ?_
                have hFc := free_all hD hS hA
                refine va_calli (va_runV (As := [.int 0, .int 1, .int n118]) (rest := []) ⟨hx, hb, hml, hown, ht⟩ (c_X12_want_0 l dC dI H.size h g ca (u2 (u2 (u2 iv 12 34 n118) 12 37 n7) 12 38 n8) lv (u2 (u2 (u2 fa 12 26 f1) 12 30 f2) 12 28 f89) la (IX_a (c := 12) (k := 28) (IX_a (c := 12) (k := 30) (IX_a (c := 12) (k := 26) (IX_i (c := 12) (k := 38) (IX_i (c := 12) (k := 37) (IX_i (c := 12) (k := 34) hI (show inb (0, 200) n118 from ⟨by omega, by omega⟩)) (show inb (0, 200) n7 from ⟨by omega, by omega⟩)) (show inb (0, 200) n8 from ⟨by omega, by omega⟩)) hf1) hf2) hf89) 1 n118 ⟨by decide, by decide⟩) (kV 3 ht m_1472 m_1474 m_50 m_89 m_1475 rfl rfl hd_X12_want_v ⟨Nat.le_of_ble_eq_true rfl, Nat.le_of_ble_eq_true rfl⟩) (vW hP hK hD (rM_12 hK hP)) rfl rfl hl.1 rfl (lv_room (Nat.le_of_ble_eq_true rfl)) dX12_readClause_279 ⟨Nat.le_of_ble_eq_true rfl, Nat.le_of_ble_eq_true rfl⟩) hS (fun q _ h => hFc q h) hFc (fun r120 u t H1 locs ht9 hvm hr120 hB hz1 hk1 hS => ?_)
                obtain ⟨n121, n122, hn121, xr120_0, hr120, rfl⟩ := hr120
                have hn121 : 0 ≤ n121.toInt ∧ n121.toInt ≤ 5 := hn121
                obtain ⟨hP, hD⟩ := hB
                rw [ht9] at hP
                generalize H1 = H at hP hS ⊢
                have hP : va_P (dC, dI) classes (WM h g ca (u2 (u2 (u2 (u2 (u2 iv 12 34 n118) 12 37 n7) 12 38 n8) 12 35 n121) 12 36 n122) lv (u2 (u2 (u2 fa 12 26 f1) 12 30 f2) 12 28 f89) la) H := hP
                have hD : va_D A (WM h g ca (u2 (u2 (u2 (u2 (u2 iv 12 34 n118) 12 37 n7) 12 38 n8) 12 35 n121) 12 36 n122) lv (u2 (u2 (u2 fa 12 26 f1) 12 30 f2) 12 28 f89) la) := (show va_D _ (WM h g ca (u2 (u2 (u2 (u2 (u2 iv 12 34 n118) 12 37 n7) 12 38 n8) 12 35 n121) 12 36 n122) lv (u2 (u2 (u2 fa 12 26 f1) 12 30 f2) 12 28 f89) la) from hD).weaken (fun _ _ _ h => hFc _ h)
                have xr120_0 : 1 ≤ (n121 : Int32).toInt := xr120_0
                obtain rfl : 0 = r120 := hr120.symm
                refine lv_if_eq (tgt := 295) hx hb dX12_readClause_282 (by decide) (fun c123 => ?_) (fun c123 => ?_)
                · skip
                  have hP9 : va_P (dC, dI) classes (WM h g ca (u2 (u2 (u2 (u2 (u2 iv 12 34 n118) 12 35 n121) 12 36 n122) 12 37 n7) 12 38 n8) lv (u2 (u2 (u2 fa 12 26 f1) 12 28 f89) 12 30 f2) la) H := hP
                  have hD9 : va_D A (WM h g ca (u2 (u2 (u2 (u2 (u2 iv 12 34 n118) 12 35 n121) 12 36 n122) 12 37 n7) 12 38 n8) lv (u2 (u2 (u2 fa 12 26 f1) 12 28 f89) 12 30 f2) la) := hD
                  exact W.vret hx hb hr (fun t ht9 hW => ⟨⟨((u2 (u2 (u2 (u2 (u2 iv 12 34 n118) 12 35 n121) 12 36 n122) 12 37 n7) 12 38 n8), lv, (u2 (u2 (u2 fa 12 26 f1) 12 28 f89) 12 30 f2), la), rfl, ⟨f1, f89, f2, n118, n121, n122, n7, n8, hf2, (show inb (0, 200) n118 from ⟨by omega, by omega⟩), (show inb (0, 5) n121 from ⟨by omega, by omega⟩), (show inb (0, 200) n7 from ⟨by omega, by omega⟩), (show inb (0, 200) n8 from ⟨by omega, by omega⟩), (show (iv 12 34).toInt ≤ (n118 : Int32).toInt from by omega), (show ∀ j : Nat, j ≠ k.toNatClampNeg → f1 j = (fa 12 26) j ∧ (fa 12 27) j = (fa 12 27) j ∧ f89 j = (fa 12 28) j from fun j hj => ⟨(by rw [ef1, upd_ne hj]), rfl, (by rw [ef89, upd_ne hj])⟩), (show ((n121 : Int32).toInt ≠ 0 ∨ gd3 (f1 k.toNatClampNeg) ((fa 12 27) k.toNatClampNeg) (f89 k.toNatClampNeg)) from (by
            have kc : (1 : Int32).toInt = 1 := by decide
            have kE : f1 k.toNatClampNeg = 1 := by rw [ef1]; exact upd_eq
            have fE : f89 k.toNatClampNeg = 1 := by rw [ef89]; exact upd_eq
            have := congrArg Int32.toInt (ev90.trans fE)
            by_cases h0 : (n121 : Int32).toInt = 0
            · refine Or.inr ?_; rw [kE, fE]; unfold gd3; exact ⟨fun h => by omega, fun h h2 => by omega⟩
            · exact Or.inl h0)), rfl⟩, by rw [ht9]; exact hP9, hD9⟩, hS.F ht9⟩) hS.2.2 dX12_readClause_295
                · exact absurd rfl c123
              · have fc119 := z_eq (rfl : (r117).toInt = _) (by decide : (59 : Int32).toInt = 59) c119
                refine lv_iconst (v := 1) hx hb dX12_readClause_269 (by decide) ?_
                refine lv_goto (tgt := 274) hx hb dX12_readClause_270 (by decide) ?_
                refine lv_iconst (v := 1) hx hb dX12_readClause_274 (by decide) ?_
                refine lv_aload_n hx hb dX12_readClause_275 rfl (lv_at hl 1 rfl) ?_
                refine gM_12_34 hx hb ht hown hK hP m_1173 (v := n118) rfl dX12_readClause_276 ?_
                refine vp_callSi (W.runV (As := [.int 1, .int 1, .int n118]) (rest := []) ⟨hx, hb, hml, hown, ht⟩ (c_X12_want_1 l dC dI h g ca (u2 (u2 (u2 iv 12 34 n118) 12 37 n7) 12 38 n8) lv (u2 (u2 (u2 fa 12 26 f1) 12 30 f2) 12 28 f89) la (IX_a (c := 12) (k := 28) (IX_a (c := 12) (k := 30) (IX_a (c := 12) (k := 26) (IX_i (c := 12) (k := 38) (IX_i (c := 12) (k := 37) (IX_i (c := 12) (k := 34) hI (show inb (0, 200) n118 from ⟨by omega, by omega⟩)) (show inb (0, 200) n7 from ⟨by omega, by omega⟩)) (show inb (0, 200) n8 from ⟨by omega, by omega⟩)) hf1) hf2) hf89) 1 n118) (kV 3 ht m_1472 m_1474 m_50 m_89 m_1475 rfl rfl hd_X12_want_v ⟨Nat.le_of_ble_eq_true rfl, Nat.le_of_ble_eq_true rfl⟩) (vR hP hK (rM_12 hK hP)) rfl rfl hl.1 rfl (lv_room (Nat.le_of_ble_eq_true rfl)) dX12_readClause_279 ⟨Nat.le_of_ble_eq_true rfl, Nat.le_of_ble_eq_true rfl⟩) (fun r124 hr124 => ?_)
                rcases hr124 with ⟨rfl, fr124⟩ | ⟨rfl, fr124⟩
                · skip
                  have fr124 : (((iv 12 35) : Int32).toInt = 0) := fr124
                  exfalso; omega
                · skip
                  have fr124 : ¬ (((iv 12 35) : Int32).toInt = 0) := fr124
                  refine lv_if_eq (tgt := 295) hx hb dX12_readClause_282 (by decide) (fun c125 => ?_) (fun c125 => ?_)
                  · skip
                    have hP9 : va_P (dC, dI) classes (WM h g ca (u2 (u2 (u2 (u2 (u2 iv 12 34 n118) 12 35 (iv 12 35)) 12 36 (iv 12 36)) 12 37 n7) 12 38 n8) lv (u2 (u2 (u2 fa 12 26 f1) 12 28 f89) 12 30 f2) la) H := hP
                    have hD9 : va_D A (WM h g ca (u2 (u2 (u2 (u2 (u2 iv 12 34 n118) 12 35 (iv 12 35)) 12 36 (iv 12 36)) 12 37 n7) 12 38 n8) lv (u2 (u2 (u2 fa 12 26 f1) 12 28 f89) 12 30 f2) la) := hD
                    exact W.vret hx hb hr (fun t ht9 hW => ⟨⟨((u2 (u2 (u2 (u2 (u2 iv 12 34 n118) 12 35 (iv 12 35)) 12 36 (iv 12 36)) 12 37 n7) 12 38 n8), lv, (u2 (u2 (u2 fa 12 26 f1) 12 28 f89) 12 30 f2), la), rfl, ⟨f1, f89, f2, n118, (iv 12 35), (iv 12 36), n7, n8, hf2, (show inb (0, 200) n118 from ⟨by omega, by omega⟩), (hI.1 12 35), (show inb (0, 200) n7 from ⟨by omega, by omega⟩), (show inb (0, 200) n8 from ⟨by omega, by omega⟩), (show (iv 12 34).toInt ≤ (n118 : Int32).toInt from by omega), (show ∀ j : Nat, j ≠ k.toNatClampNeg → f1 j = (fa 12 26) j ∧ (fa 12 27) j = (fa 12 27) j ∧ f89 j = (fa 12 28) j from fun j hj => ⟨(by rw [ef1, upd_ne hj]), rfl, (by rw [ef89, upd_ne hj])⟩), (show (((iv 12 35) : Int32).toInt ≠ 0 ∨ gd3 (f1 k.toNatClampNeg) ((fa 12 27) k.toNatClampNeg) (f89 k.toNatClampNeg)) from Or.inl (by omega)), rfl⟩, by rw [ht9]; exact hP9, hD9⟩, hS.F ht9⟩) hS.2.2 dX12_readClause_295
                  · exact absurd rfl c125
      · have fc10 := z_ne (rfl : (r9).toInt = _) (by decide : (0 : Int32).toInt = 0) c10
        refine lv_iconst (v := 0) hx hb dX12_readClause_121 (by decide) ?_
        refine lv_goto (tgt := 174) hx hb dX12_readClause_122 (by decide) ?_
        refine tM_12_28 hx hb hK hP hD hS (f0 := (fa 12 28)) rfl (i := k) (x := 0) (vp_in_iff.mpr ⟨by omega, by omega⟩) dX12_readClause_174 (fun f126 ef126 H locs hP hD hS => ?_)
        have hf126 : ∀ j, inb (bA 12 28 j) (f126 j) := fun j => full_i _
        refine lv_aload_n hx hb dX12_readClause_175 rfl (lv_at hl 0 rfl) ?_
        refine lv_aload_n hx hb dX12_readClause_176 rfl (lv_at hl 0 rfl) ?_
        refine gM_12_28 hx hb ht hown hK hP m_1167 dX12_readClause_177 ?_
        refine lv_iload_n hx hb dX12_readClause_180 rfl (lv_at hl 2 rfl) ?_
        refine lM_12_28 hx hb hK hP (f := f126) rfl (vp_in_iff.mpr ⟨by omega, by omega⟩) dX12_readClause_181 ?_
        refine lv_topi (fun v127 ev127 => ?_)
        refine lv_if_lt (tgt := 189) hx hb dX12_readClause_182 (by decide) (fun c128 => ?_) (fun c128 => ?_)
        · have fc128 := z_lt (rfl : (v127).toInt = _) (by decide : (0 : Int32).toInt = 0) c128
          refine lv_iconst (v := 0) hx hb dX12_readClause_189 (by decide) ?_
          refine lv_iconst (v := 1) hx hb dX12_readClause_190 (by decide) ?_
          refine lv_aload_n hx hb dX12_readClause_191 rfl (lv_at hl 0 rfl) ?_
          refine gM_12_37 hx hb ht hown hK hP m_1176 (v := n7) rfl dX12_readClause_192 ?_
          have hFc := free_all hD hS hA
          refine va_calli (va_runV (As := [.int 0, .int 1, .int n7]) (rest := []) ⟨hx, hb, hml, hown, ht⟩ (c_X12_want_0 l dC dI H.size h g ca (u2 (u2 (u2 iv 12 34 n6) 12 37 n7) 12 38 n8) lv (u2 (u2 (u2 fa 12 26 f1) 12 30 f2) 12 28 f126) la (IX_a (c := 12) (k := 28) (IX_a (c := 12) (k := 30) (IX_a (c := 12) (k := 26) (IX_i (c := 12) (k := 38) (IX_i (c := 12) (k := 37) (IX_i (c := 12) (k := 34) hI (show inb (0, 200) n6 from ⟨by omega, by omega⟩)) (show inb (0, 200) n7 from ⟨by omega, by omega⟩)) (show inb (0, 200) n8 from ⟨by omega, by omega⟩)) hf1) hf2) hf126) 1 n7 ⟨by decide, by decide⟩) (kV 3 ht m_1472 m_1474 m_50 m_89 m_1475 rfl rfl hd_X12_want_v ⟨Nat.le_of_ble_eq_true rfl, Nat.le_of_ble_eq_true rfl⟩) (vW hP hK hD (rM_12 hK hP)) rfl rfl hl.1 rfl (lv_room (Nat.le_of_ble_eq_true rfl)) dX12_readClause_195 ⟨Nat.le_of_ble_eq_true rfl, Nat.le_of_ble_eq_true rfl⟩) hS (fun q _ h => hFc q h) hFc (fun r129 u t H1 locs ht9 hvm hr129 hB hz1 hk1 hS => ?_)
          obtain ⟨n130, n131, hn130, xr129_0, hr129, rfl⟩ := hr129
          have hn130 : 0 ≤ n130.toInt ∧ n130.toInt ≤ 5 := hn130
          obtain ⟨hP, hD⟩ := hB
          rw [ht9] at hP
          generalize H1 = H at hP hS ⊢
          have hP : va_P (dC, dI) classes (WM h g ca (u2 (u2 (u2 (u2 (u2 iv 12 34 n6) 12 37 n7) 12 38 n8) 12 35 n130) 12 36 n131) lv (u2 (u2 (u2 fa 12 26 f1) 12 30 f2) 12 28 f126) la) H := hP
          have hD : va_D A (WM h g ca (u2 (u2 (u2 (u2 (u2 iv 12 34 n6) 12 37 n7) 12 38 n8) 12 35 n130) 12 36 n131) lv (u2 (u2 (u2 fa 12 26 f1) 12 30 f2) 12 28 f126) la) := (show va_D _ (WM h g ca (u2 (u2 (u2 (u2 (u2 iv 12 34 n6) 12 37 n7) 12 38 n8) 12 35 n130) 12 36 n131) lv (u2 (u2 (u2 fa 12 26 f1) 12 30 f2) 12 28 f126) la) from hD).weaken (fun _ _ _ h => hFc _ h)
          have xr129_0 : 1 ≤ (n130 : Int32).toInt := xr129_0
          obtain rfl : 0 = r129 := hr129.symm
          refine lv_istore_n (lv' := [(3, .int 0), (0, .ref h), (1, .int 1), (2, .int k)]) hx hb dX12_readClause_198 rfl hl (by decide) rfl (fun ls hl => ?_)
          refine lv_goto (tgt := 257) hx hb dX12_readClause_199 (by decide) ?_
          refine lv_aload_n hx hb dX12_readClause_257 rfl (lv_at hl 1 rfl) ?_
          have hFc := free_all hD hS hA
          refine va_calli (va_runV (As := []) (rest := []) ⟨hx, hb, hml, hown, ht⟩ (c_X12_here_x l dC dI H.size h g ca (u2 (u2 (u2 (u2 (u2 iv 12 34 n6) 12 37 n7) 12 38 n8) 12 35 n130) 12 36 n131) lv (u2 (u2 (u2 fa 12 26 f1) 12 30 f2) 12 28 f126) la (IX_a (c := 12) (k := 28) (IX_a (c := 12) (k := 30) (IX_a (c := 12) (k := 26) (IX_i (c := 12) (k := 36) (IX_i (c := 12) (k := 35) (IX_i (c := 12) (k := 38) (IX_i (c := 12) (k := 37) (IX_i (c := 12) (k := 34) hI (show inb (0, 200) n6 from ⟨by omega, by omega⟩)) (show inb (0, 200) n7 from ⟨by omega, by omega⟩)) (show inb (0, 200) n8 from ⟨by omega, by omega⟩)) (show inb (0, 5) n130 from ⟨by omega, by omega⟩)) (full_i _)) hf1) hf2) hf126)) (kV 0 ht m_1458 m_1460 m_47 m_89 m_1461 rfl rfl hd_X12_here_v ⟨Nat.le_of_ble_eq_true rfl, Nat.le_of_ble_eq_true rfl⟩) (vW hP hK hD (rM_12 hK hP)) rfl rfl hl.1 rfl (lv_room (Nat.le_of_ble_eq_true rfl)) dX12_readClause_258 ⟨Nat.le_of_ble_eq_true rfl, Nat.le_of_ble_eq_true rfl⟩) hS (fun q _ h => hFc q h) hFc (fun r132 u t H1 locs ht9 hvm hr132 hB hz1 hk1 hS => ?_)
          obtain ⟨n133, hn133, xr132_0, xr132_1, hr132, rfl⟩ := hr132
          have hn133 : 0 ≤ n133.toInt ∧ n133.toInt ≤ 200 := hn133
          obtain ⟨hP, hD⟩ := hB
          rw [ht9] at hP
          generalize H1 = H at hP hS ⊢
          have hP : va_P (dC, dI) classes (WM h g ca (u2 (u2 (u2 (u2 (u2 iv 12 34 n133) 12 37 n7) 12 38 n8) 12 35 n130) 12 36 n131) lv (u2 (u2 (u2 fa 12 26 f1) 12 30 f2) 12 28 f126) la) H := hP
          have hD : va_D A (WM h g ca (u2 (u2 (u2 (u2 (u2 iv 12 34 n133) 12 37 n7) 12 38 n8) 12 35 n130) 12 36 n131) lv (u2 (u2 (u2 fa 12 26 f1) 12 30 f2) 12 28 f126) la) := (show va_D _ (WM h g ca (u2 (u2 (u2 (u2 (u2 iv 12 34 n133) 12 37 n7) 12 38 n8) 12 35 n130) 12 36 n131) lv (u2 (u2 (u2 fa 12 26 f1) 12 30 f2) 12 28 f126) la) from hD).weaken (fun _ _ _ h => hFc _ h)
          have xr132_0 : (n6 : Int32).toInt ≤ (n133 : Int32).toInt := xr132_0
          have i_12_33 : 0 ≤ (iv 12 33).toInt ∧ (iv 12 33).toInt ≤ 200 := hI.1 12 33
          have xr132_1 : ((r132 : Int32).toInt = -1 ∨ (n133 : Int32).toInt + 1 ≤ ((iv 12 33) : Int32).toInt) := xr132_1
          refine lv_istore_n (lv' := [(3, .int r132), (0, .ref h), (1, .int 1), (2, .int k)]) hx hb dX12_readClause_261 rfl hl (by decide) rfl (fun ls hl => ?_)
          refine lv_aload_n hx hb dX12_readClause_262 rfl (lv_at hl 1 rfl) ?_
          refine lv_iload_n hx hb dX12_readClause_263 rfl (lv_at hl 0 rfl) ?_
          refine lv_bipush (v := 59) hx hb dX12_readClause_264 (by decide) ?_
          refine lv_icmp_ne (tgt := 273) hx hb dX12_readClause_266 (by decide) (fun c134 => ?_) (fun c134 => ?_)
          · have fc134 := z_ne (rfl : (r132).toInt = _) (by decide : (59 : Int32).toInt = 59) c134
            refine lv_iconst (v := 0) hx hb dX12_readClause_273 (by decide) ?_
            refine lv_iconst (v := 1) hx hb dX12_readClause_274 (by decide) ?_
            refine lv_aload_n hx hb dX12_readClause_275 rfl (lv_at hl 1 rfl) ?_
            refine gM_12_34 hx hb ht hown hK hP m_1173 (v := n133) rfl dX12_readClause_276 ?_
            have hFc := free_all hD hS hA
            refine va_calli (va_runV (As := [.int 0, .int 1, .int n133]) (rest := []) ⟨hx, hb, hml, hown, ht⟩ (c_X12_want_0 l dC dI H.size h g ca (u2 (u2 (u2 (u2 (u2 iv 12 34 n133) 12 37 n7) 12 38 n8) 12 35 n130) 12 36 n131) lv (u2 (u2 (u2 fa 12 26 f1) 12 30 f2) 12 28 f126) la (IX_a (c := 12) (k := 28) (IX_a (c := 12) (k := 30) (IX_a (c := 12) (k := 26) (IX_i (c := 12) (k := 36) (IX_i (c := 12) (k := 35) (IX_i (c := 12) (k := 38) (IX_i (c := 12) (k := 37) (IX_i (c := 12) (k := 34) hI (show inb (0, 200) n133 from ⟨by omega, by omega⟩)) (show inb (0, 200) n7 from ⟨by omega, by omega⟩)) (show inb (0, 200) n8 from ⟨by omega, by omega⟩)) (show inb (0, 5) n130 from ⟨by omega, by omega⟩)) (full_i _)) hf1) hf2) hf126) 1 n133 ⟨by decide, by decide⟩) (kV 3 ht m_1472 m_1474 m_50 m_89 m_1475 rfl rfl hd_X12_want_v ⟨Nat.le_of_ble_eq_true rfl, Nat.le_of_ble_eq_true rfl⟩) (vW hP hK hD (rM_12 hK hP)) rfl rfl hl.1 rfl (lv_room (Nat.le_of_ble_eq_true rfl)) dX12_readClause_279 ⟨Nat.le_of_ble_eq_true rfl, Nat.le_of_ble_eq_true rfl⟩) hS (fun q _ h => hFc q h) hFc (fun r135 u t H1 locs ht9 hvm hr135 hB hz1 hk1 hS => ?_)
            obtain ⟨n136, n137, hn136, xr135_0, hr135, rfl⟩ := hr135
            have hn136 : 0 ≤ n136.toInt ∧ n136.toInt ≤ 5 := hn136
            obtain ⟨hP, hD⟩ := hB
            rw [ht9] at hP
            generalize H1 = H at hP hS ⊢
            have hP : va_P (dC, dI) classes (WM h g ca (u2 (u2 (u2 (u2 (u2 iv 12 34 n133) 12 37 n7) 12 38 n8) 12 35 n136) 12 36 n137) lv (u2 (u2 (u2 fa 12 26 f1) 12 30 f2) 12 28 f126) la) H := hP
            have hD : va_D A (WM h g ca (u2 (u2 (u2 (u2 (u2 iv 12 34 n133) 12 37 n7) 12 38 n8) 12 35 n136) 12 36 n137) lv (u2 (u2 (u2 fa 12 26 f1) 12 30 f2) 12 28 f126) la) := (show va_D _ (WM h g ca (u2 (u2 (u2 (u2 (u2 iv 12 34 n133) 12 37 n7) 12 38 n8) 12 35 n136) 12 36 n137) lv (u2 (u2 (u2 fa 12 26 f1) 12 30 f2) 12 28 f126) la) from hD).weaken (fun _ _ _ h => hFc _ h)
            have xr135_0 : 1 ≤ (n136 : Int32).toInt := xr135_0
            obtain rfl : 0 = r135 := hr135.symm
            refine lv_if_eq (tgt := 295) hx hb dX12_readClause_282 (by decide) (fun c138 => ?_) (fun c138 => ?_)
            · skip
              have hP9 : va_P (dC, dI) classes (WM h g ca (u2 (u2 (u2 (u2 (u2 iv 12 34 n133) 12 35 n136) 12 36 n137) 12 37 n7) 12 38 n8) lv (u2 (u2 (u2 fa 12 26 f1) 12 28 f126) 12 30 f2) la) H := hP
              have hD9 : va_D A (WM h g ca (u2 (u2 (u2 (u2 (u2 iv 12 34 n133) 12 35 n136) 12 36 n137) 12 37 n7) 12 38 n8) lv (u2 (u2 (u2 fa 12 26 f1) 12 28 f126) 12 30 f2) la) := hD
              exact W.vret hx hb hr (fun t ht9 hW => ⟨⟨((u2 (u2 (u2 (u2 (u2 iv 12 34 n133) 12 35 n136) 12 36 n137) 12 37 n7) 12 38 n8), lv, (u2 (u2 (u2 fa 12 26 f1) 12 28 f126) 12 30 f2), la), rfl, ⟨f1, f126, f2, n133, n136, n137, n7, n8, hf2, (show inb (0, 200) n133 from ⟨by omega, by omega⟩), (show inb (0, 5) n136 from ⟨by omega, by omega⟩), (show inb (0, 200) n7 from ⟨by omega, by omega⟩), (show inb (0, 200) n8 from ⟨by omega, by omega⟩), (show (iv 12 34).toInt ≤ (n133 : Int32).toInt from by omega), (show ∀ j : Nat, j ≠ k.toNatClampNeg → f1 j = (fa 12 26) j ∧ (fa 12 27) j = (fa 12 27) j ∧ f126 j = (fa 12 28) j from fun j hj => ⟨(by rw [ef1, upd_ne hj]), rfl, (by rw [ef126, upd_ne hj])⟩), (show ((n136 : Int32).toInt ≠ 0 ∨ gd3 (f1 k.toNatClampNeg) ((fa 12 27) k.toNatClampNeg) (f126 k.toNatClampNeg)) from (by
            have kc : (1 : Int32).toInt = 1 := by decide
            have kE : f1 k.toNatClampNeg = 1 := by rw [ef1]; exact upd_eq
            have fE : f126 k.toNatClampNeg = 0 := by rw [ef126]; exact upd_eq
            have := congrArg Int32.toInt (ev127.trans fE)
            by_cases h0 : (n136 : Int32).toInt = 0
            · refine Or.inr ?_; rw [kE, fE]; unfold gd3; exact ⟨fun h => by omega, fun h h2 => by omega⟩
            · exact Or.inl h0)), rfl⟩, by rw [ht9]; exact hP9, hD9⟩, hS.F ht9⟩) hS.2.2 dX12_readClause_295
            · exact absurd rfl c138
          · have fc134 := z_eq (rfl : (r132).toInt = _) (by decide : (59 : Int32).toInt = 59) c134
            refine lv_iconst (v := 1) hx hb dX12_readClause_269 (by decide) ?_
            refine lv_goto (tgt := 274) hx hb dX12_readClause_270 (by decide) ?_
            refine lv_iconst (v := 1) hx hb dX12_readClause_274 (by decide) ?_
            refine lv_aload_n hx hb dX12_readClause_275 rfl (lv_at hl 1 rfl) ?_
            refine gM_12_34 hx hb ht hown hK hP m_1173 (v := n133) rfl dX12_readClause_276 ?_
            refine vp_callSi (W.runV (As := [.int 1, .int 1, .int n133]) (rest := []) ⟨hx, hb, hml, hown, ht⟩ (c_X12_want_1 l dC dI h g ca (u2 (u2 (u2 (u2 (u2 iv 12 34 n133) 12 37 n7) 12 38 n8) 12 35 n130) 12 36 n131) lv (u2 (u2 (u2 fa 12 26 f1) 12 30 f2) 12 28 f126) la (IX_a (c := 12) (k := 28) (IX_a (c := 12) (k := 30) (IX_a (c := 12) (k := 26) (IX_i (c := 12) (k := 36) (IX_i (c := 12) (k := 35) (IX_i (c := 12) (k := 38) (IX_i (c := 12) (k := 37) (IX_i (c := 12) (k := 34) hI (show inb (0, 200) n133 from ⟨by omega, by omega⟩)) (show inb (0, 200) n7 from ⟨by omega, by omega⟩)) (show inb (0, 200) n8 from ⟨by omega, by omega⟩)) (show inb (0, 5) n130 from ⟨by omega, by omega⟩)) (full_i _)) hf1) hf2) hf126) 1 n133) (kV 3 ht m_1472 m_1474 m_50 m_89 m_1475 rfl rfl hd_X12_want_v ⟨Nat.le_of_ble_eq_true rfl, Nat.le_of_ble_eq_true rfl⟩) (vR hP hK (rM_12 hK hP)) rfl rfl hl.1 rfl (lv_room (Nat.le_of_ble_eq_true rfl)) dX12_readClause_279 ⟨Nat.le_of_ble_eq_true rfl, Nat.le_of_ble_eq_true rfl⟩) (fun r139 hr139 => ?_)
            rcases hr139 with ⟨rfl, fr139⟩ | ⟨rfl, fr139⟩
            · skip
              have fr139 : ((n130 : Int32).toInt = 0) := fr139
              refine lv_if_eq (tgt := 295) hx hb dX12_readClause_282 (by decide) (fun c140 => ?_) (fun c140 => ?_)
              · exact absurd c140 (by decide)
              · skip
                refine lv_aload_n hx hb dX12_readClause_285 rfl (lv_at hl 1 rfl) ?_
                refine lv_dup hx hb dX12_readClause_286 rfl ?_
                refine gM_12_34 hx hb ht hown hK hP m_1173 (v := n133) rfl dX12_readClause_287 ?_
                refine lv_iconst (v := 1) hx hb dX12_readClause_290 (by decide) ?_
                refine lv_iadd hx hb dX12_readClause_291 ?_
                refine lv_topi (fun v141 ev141 => ?_)
                have tv141 := z_add ev141 (rfl : (n133).toInt = _) (by decide : (1 : Int32).toInt = 1) (by omega) (by omega)
                have : 0 ≤ (v141 : Int32).toInt ∧ (v141 : Int32).toInt ≤ 200 := ⟨by omega, by omega⟩
                refine pM_12_34 (v := v141) hx hb ht hown hK hP hD hS m_1173 dX12_readClause_292 (fun H locs hP hD hS => ?_)
                have hP : va_P (dC, dI) classes (WM h g ca (u2 (u2 (u2 (u2 (u2 iv 12 34 v141) 12 37 n7) 12 38 n8) 12 35 n130) 12 36 n131) lv (u2 (u2 (u2 fa 12 26 f1) 12 30 f2) 12 28 f126) la) H := hP
                have hD : va_D A (WM h g ca (u2 (u2 (u2 (u2 (u2 iv 12 34 v141) 12 37 n7) 12 38 n8) 12 35 n130) 12 36 n131) lv (u2 (u2 (u2 fa 12 26 f1) 12 30 f2) 12 28 f126) la) := hD
                have hP9 : va_P (dC, dI) classes (WM h g ca (u2 (u2 (u2 (u2 (u2 iv 12 34 v141) 12 35 n130) 12 36 n131) 12 37 n7) 12 38 n8) lv (u2 (u2 (u2 fa 12 26 f1) 12 28 f126) 12 30 f2) la) H := hP
                have hD9 : va_D A (WM h g ca (u2 (u2 (u2 (u2 (u2 iv 12 34 v141) 12 35 n130) 12 36 n131) 12 37 n7) 12 38 n8) lv (u2 (u2 (u2 fa 12 26 f1) 12 28 f126) 12 30 f2) la) := hD
                exact W.vret hx hb hr (fun t ht9 hW => ⟨⟨((u2 (u2 (u2 (u2 (u2 iv 12 34 v141) 12 35 n130) 12 36 n131) 12 37 n7) 12 38 n8), lv, (u2 (u2 (u2 fa 12 26 f1) 12 28 f126) 12 30 f2), la), rfl, ⟨f1, f126, f2, v141, n130, n131, n7, n8, hf2, (show inb (0, 200) v141 from ⟨by omega, by omega⟩), (show inb (0, 5) n130 from ⟨by omega, by omega⟩), (show inb (0, 200) n7 from ⟨by omega, by omega⟩), (show inb (0, 200) n8 from ⟨by omega, by omega⟩), (show (iv 12 34).toInt ≤ (v141 : Int32).toInt from by omega), (show ∀ j : Nat, j ≠ k.toNatClampNeg → f1 j = (fa 12 26) j ∧ (fa 12 27) j = (fa 12 27) j ∧ f126 j = (fa 12 28) j from fun j hj => ⟨(by rw [ef1, upd_ne hj]), rfl, (by rw [ef126, upd_ne hj])⟩), (show ((n130 : Int32).toInt ≠ 0 ∨ gd3 (f1 k.toNatClampNeg) ((fa 12 27) k.toNatClampNeg) (f126 k.toNatClampNeg)) from (by
            have kc : (1 : Int32).toInt = 1 := by decide
            have kE : f1 k.toNatClampNeg = 1 := by rw [ef1]; exact upd_eq
            have fE : f126 k.toNatClampNeg = 0 := by rw [ef126]; exact upd_eq
            have := congrArg Int32.toInt (ev127.trans fE)
            by_cases h0 : (n130 : Int32).toInt = 0
            · refine Or.inr ?_; rw [kE, fE]; unfold gd3; exact ⟨fun h => by omega, fun h h2 => by omega⟩
            · exact Or.inl h0)), rfl⟩, by rw [ht9]; exact hP9, hD9⟩, hS.F ht9⟩) hS.2.2 dX12_readClause_295
            · skip
              have fr139 : ¬ ((n130 : Int32).toInt = 0) := fr139
              refine lv_if_eq (tgt := 295) hx hb dX12_readClause_282 (by decide) (fun c142 => ?_) (fun c142 => ?_)
              · skip
                have hP9 : va_P (dC, dI) classes (WM h g ca (u2 (u2 (u2 (u2 (u2 iv 12 34 n133) 12 35 n130) 12 36 n131) 12 37 n7) 12 38 n8) lv (u2 (u2 (u2 fa 12 26 f1) 12 28 f126) 12 30 f2) la) H := hP
                have hD9 : va_D A (WM h g ca (u2 (u2 (u2 (u2 (u2 iv 12 34 n133) 12 35 n130) 12 36 n131) 12 37 n7) 12 38 n8) lv (u2 (u2 (u2 fa 12 26 f1) 12 28 f126) 12 30 f2) la) := hD
                exact W.vret hx hb hr (fun t ht9 hW => ⟨⟨((u2 (u2 (u2 (u2 (u2 iv 12 34 n133) 12 35 n130) 12 36 n131) 12 37 n7) 12 38 n8), lv, (u2 (u2 (u2 fa 12 26 f1) 12 28 f126) 12 30 f2), la), rfl, ⟨f1, f126, f2, n133, n130, n131, n7, n8, hf2, (show inb (0, 200) n133 from ⟨by omega, by omega⟩), (show inb (0, 5) n130 from ⟨by omega, by omega⟩), (show inb (0, 200) n7 from ⟨by omega, by omega⟩), (show inb (0, 200) n8 from ⟨by omega, by omega⟩), (show (iv 12 34).toInt ≤ (n133 : Int32).toInt from by omega), (show ∀ j : Nat, j ≠ k.toNatClampNeg → f1 j = (fa 12 26) j ∧ (fa 12 27) j = (fa 12 27) j ∧ f126 j = (fa 12 28) j from fun j hj => ⟨(by rw [ef1, upd_ne hj]), rfl, (by rw [ef126, upd_ne hj])⟩), (show ((n130 : Int32).toInt ≠ 0 ∨ gd3 (f1 k.toNatClampNeg) ((fa 12 27) k.toNatClampNeg) (f126 k.toNatClampNeg)) from Or.inl (by omega)), rfl⟩, by rw [ht9]; exact hP9, hD9⟩, hS.F ht9⟩) hS.2.2 dX12_readClause_295
              · exact absurd rfl c142
        · have fc128 := z_nlt (rfl : (v127).toInt = _) (by decide : (0 : Int32).toInt = 0) c128
          refine lv_iconst (v := 1) hx hb dX12_readClause_185 (by decide) ?_
          refine lv_goto (tgt := 190) hx hb dX12_readClause_186 (by decide) ?_
          refine lv_iconst (v := 1) hx hb dX12_readClause_190 (by decide) ?_
          refine lv_aload_n hx hb dX12_readClause_191 rfl (lv_at hl 0 rfl) ?_
          refine gM_12_37 hx hb ht hown hK hP m_1176 (v := n7) rfl dX12_readClause_192 ?_
          refine vp_callSi (W.runV (As := [.int 1, .int 1, .int n7]) (rest := []) ⟨hx, hb, hml, hown, ht⟩ (c_X12_want_1 l dC dI h g ca (u2 (u2 (u2 iv 12 34 n6) 12 37 n7) 12 38 n8) lv (u2 (u2 (u2 fa 12 26 f1) 12 30 f2) 12 28 f126) la (IX_a (c := 12) (k := 28) (IX_a (c := 12) (k := 30) (IX_a (c := 12) (k := 26) (IX_i (c := 12) (k := 38) (IX_i (c := 12) (k := 37) (IX_i (c := 12) (k := 34) hI (show inb (0, 200) n6 from ⟨by omega, by omega⟩)) (show inb (0, 200) n7 from ⟨by omega, by omega⟩)) (show inb (0, 200) n8 from ⟨by omega, by omega⟩)) hf1) hf2) hf126) 1 n7) (kV 3 ht m_1472 m_1474 m_50 m_89 m_1475 rfl rfl hd_X12_want_v ⟨Nat.le_of_ble_eq_true rfl, Nat.le_of_ble_eq_true rfl⟩) (vR hP hK (rM_12 hK hP)) rfl rfl hl.1 rfl (lv_room (Nat.le_of_ble_eq_true rfl)) dX12_readClause_195 ⟨Nat.le_of_ble_eq_true rfl, Nat.le_of_ble_eq_true rfl⟩) (fun r143 hr143 => ?_)
          rcases hr143 with ⟨rfl, fr143⟩ | ⟨rfl, fr143⟩
          have i_12_35 : 0 ≤ (iv 12 35).toInt ∧ (iv 12 35).toInt ≤ 5 := hI.1 12 35
          · skip
            have i_12_35 : 0 ≤ (iv 12 35).toInt ∧ (iv 12 35).toInt ≤ 5 := hI.1 12 35
            have fr143 : (((iv 12 35) : Int32).toInt = 0) := fr143
            refine lv_istore_n (lv' := [(3, .int 1), (0, .ref h), (1, .int 1), (2, .int k)]) hx hb dX12_readClause_198 rfl hl (by decide) rfl (fun ls hl => ?_)
            refine lv_goto (tgt := 257) hx hb dX12_readClause_199 (by decide) ?_
            refine lv_aload_n hx hb dX12_readClause_257 rfl (lv_at hl 1 rfl) ?_
            have hFc := free_all hD hS hA
            refine va_calli (va_runV (As := []) (rest := []) ⟨hx, hb, hml, hown, ht⟩ (c_X12_here_x l dC dI H.size h g ca (u2 (u2 (u2 iv 12 34 n6) 12 37 n7) 12 38 n8) lv (u2 (u2 (u2 fa 12 26 f1) 12 30 f2) 12 28 f126) la (IX_a (c := 12) (k := 28) (IX_a (c := 12) (k := 30) (IX_a (c := 12) (k := 26) (IX_i (c := 12) (k := 38) (IX_i (c := 12) (k := 37) (IX_i (c := 12) (k := 34) hI (show inb (0, 200) n6 from ⟨by omega, by omega⟩)) (show inb (0, 200) n7 from ⟨by omega, by omega⟩)) (show inb (0, 200) n8 from ⟨by omega, by omega⟩)) hf1) hf2) hf126)) (kV 0 ht m_1458 m_1460 m_47 m_89 m_1461 rfl rfl hd_X12_here_v ⟨Nat.le_of_ble_eq_true rfl, Nat.le_of_ble_eq_true rfl⟩) (vW hP hK hD (rM_12 hK hP)) rfl rfl hl.1 rfl (lv_room (Nat.le_of_ble_eq_true rfl)) dX12_readClause_258 ⟨Nat.le_of_ble_eq_true rfl, Nat.le_of_ble_eq_true rfl⟩) hS (fun q _ h => hFc q h) hFc (fun r144 u t H1 locs ht9 hvm hr144 hB hz1 hk1 hS => ?_)
            obtain ⟨n145, hn145, xr144_0, xr144_1, hr144, rfl⟩ := hr144
            have hn145 : 0 ≤ n145.toInt ∧ n145.toInt ≤ 200 := hn145
            obtain ⟨hP, hD⟩ := hB
            rw [ht9] at hP
            generalize H1 = H at hP hS ⊢
            have hP : va_P (dC, dI) classes (WM h g ca (u2 (u2 (u2 iv 12 34 n145) 12 37 n7) 12 38 n8) lv (u2 (u2 (u2 fa 12 26 f1) 12 30 f2) 12 28 f126) la) H := hP
            have hD : va_D A (WM h g ca (u2 (u2 (u2 iv 12 34 n145) 12 37 n7) 12 38 n8) lv (u2 (u2 (u2 fa 12 26 f1) 12 30 f2) 12 28 f126) la) := (show va_D _ (WM h g ca (u2 (u2 (u2 iv 12 34 n145) 12 37 n7) 12 38 n8) lv (u2 (u2 (u2 fa 12 26 f1) 12 30 f2) 12 28 f126) la) from hD).weaken (fun _ _ _ h => hFc _ h)
            have xr144_0 : (n6 : Int32).toInt ≤ (n145 : Int32).toInt := xr144_0
            have i_12_33 : 0 ≤ (iv 12 33).toInt ∧ (iv 12 33).toInt ≤ 200 := hI.1 12 33
            have xr144_1 : ((r144 : Int32).toInt = -1 ∨ (n145 : Int32).toInt + 1 ≤ ((iv 12 33) : Int32).toInt) := xr144_1
            refine lv_istore_n (lv' := [(3, .int r144), (0, .ref h), (1, .int 1), (2, .int k)]) hx hb dX12_readClause_261 rfl hl (by decide) rfl (fun ls hl => ?_)
            refine lv_aload_n hx hb dX12_readClause_262 rfl (lv_at hl 1 rfl) ?_
            refine lv_iload_n hx hb dX12_readClause_263 rfl (lv_at hl 0 rfl) ?_
            refine lv_bipush (v := 59) hx hb dX12_readClause_264 (by decide) ?_
            refine lv_icmp_ne (tgt := 273) hx hb dX12_readClause_266 (by decide) (fun c146 => ?_) (fun c146 => ?_)
            · have fc146 := z_ne (rfl : (r144).toInt = _) (by decide : (59 : Int32).toInt = 59) c146
              refine lv_iconst (v := 0) hx hb dX12_readClause_273 (by decide) ?_
              refine lv_iconst (v := 1) hx hb dX12_readClause_274 (by decide) ?_
              refine lv_aload_n hx hb dX12_readClause_275 rfl (lv_at hl 1 rfl) ?_
              refine gM_12_34 hx hb ht hown hK hP m_1173 (v := n145) rfl dX12_readClause_276 ?_
              have hFc := free_all hD hS hA
              refine va_calli (va_runV (As := [.int 0, .int 1, .int n145]) (rest := []) ⟨hx, hb, hml, hown, ht⟩ (c_X12_want_0 l dC dI H.size h g ca (u2 (u2 (u2 iv 12 34 n145) 12 37 n7) 12 38 n8) lv (u2 (u2 (u2 fa 12 26 f1) 12 30 f2) 12 28 f126) la (IX_a (c := 12) (k := 28) (IX_a (c := 12) (k := 30) (IX_a (c := 12) (k := 26) (IX_i (c := 12) (k := 38) (IX_i (c := 12) (k := 37) (IX_i (c := 12) (k := 34) hI (show inb (0, 200) n145 from ⟨by omega, by omega⟩)) (show inb (0, 200) n7 from ⟨by omega, by omega⟩)) (show inb (0, 200) n8 from ⟨by omega, by omega⟩)) hf1) hf2) hf126) 1 n145 ⟨by decide, by decide⟩) (kV 3 ht m_1472 m_1474 m_50 m_89 m_1475 rfl rfl hd_X12_want_v ⟨Nat.le_of_ble_eq_true rfl, Nat.le_of_ble_eq_true rfl⟩) (vW hP hK hD (rM_12 hK hP)) rfl rfl hl.1 rfl (lv_room (Nat.le_of_ble_eq_true rfl)) dX12_readClause_279 ⟨Nat.le_of_ble_eq_true rfl, Nat.le_of_ble_eq_true rfl⟩) hS (fun q _ h => hFc q h) hFc (fun r147 u t H1 locs ht9 hvm hr147 hB hz1 hk1 hS => ?_)
              obtain ⟨n148, n149, hn148, xr147_0, hr147, rfl⟩ := hr147
              have hn148 : 0 ≤ n148.toInt ∧ n148.toInt ≤ 5 := hn148
              obtain ⟨hP, hD⟩ := hB
              rw [ht9] at hP
              generalize H1 = H at hP hS ⊢
              have hP : va_P (dC, dI) classes (WM h g ca (u2 (u2 (u2 (u2 (u2 iv 12 34 n145) 12 37 n7) 12 38 n8) 12 35 n148) 12 36 n149) lv (u2 (u2 (u2 fa 12 26 f1) 12 30 f2) 12 28 f126) la) H := hP
              have hD : va_D A (WM h g ca (u2 (u2 (u2 (u2 (u2 iv 12 34 n145) 12 37 n7) 12 38 n8) 12 35 n148) 12 36 n149) lv (u2 (u2 (u2 fa 12 26 f1) 12 30 f2) 12 28 f126) la) := (show va_D _ (WM h g ca (u2 (u2 (u2 (u2 (u2 iv 12 34 n145) 12 37 n7) 12 38 n8) 12 35 n148) 12 36 n149) lv (u2 (u2 (u2 fa 12 26 f1) 12 30 f2) 12 28 f126) la) from hD).weaken (fun _ _ _ h => hFc _ h)
              have xr147_0 : 1 ≤ (n148 : Int32).toInt := xr147_0
              obtain rfl : 0 = r147 := hr147.symm
              refine lv_if_eq (tgt := 295) hx hb dX12_readClause_282 (by decide) (fun c150 => ?_) (fun c150 => ?_)
              · skip
                have hP9 : va_P (dC, dI) classes (WM h g ca (u2 (u2 (u2 (u2 (u2 iv 12 34 n145) 12 35 n148) 12 36 n149) 12 37 n7) 12 38 n8) lv (u2 (u2 (u2 fa 12 26 f1) 12 28 f126) 12 30 f2) la) H := hP
                have hD9 : va_D A (WM h g ca (u2 (u2 (u2 (u2 (u2 iv 12 34 n145) 12 35 n148) 12 36 n149) 12 37 n7) 12 38 n8) lv (u2 (u2 (u2 fa 12 26 f1) 12 28 f126) 12 30 f2) la) := hD
                exact W.vret hx hb hr (fun t ht9 hW => ⟨⟨((u2 (u2 (u2 (u2 (u2 iv 12 34 n145) 12 35 n148) 12 36 n149) 12 37 n7) 12 38 n8), lv, (u2 (u2 (u2 fa 12 26 f1) 12 28 f126) 12 30 f2), la), rfl, ⟨f1, f126, f2, n145, n148, n149, n7, n8, hf2, (show inb (0, 200) n145 from ⟨by omega, by omega⟩), (show inb (0, 5) n148 from ⟨by omega, by omega⟩), (show inb (0, 200) n7 from ⟨by omega, by omega⟩), (show inb (0, 200) n8 from ⟨by omega, by omega⟩), (show (iv 12 34).toInt ≤ (n145 : Int32).toInt from by omega), (show ∀ j : Nat, j ≠ k.toNatClampNeg → f1 j = (fa 12 26) j ∧ (fa 12 27) j = (fa 12 27) j ∧ f126 j = (fa 12 28) j from fun j hj => ⟨(by rw [ef1, upd_ne hj]), rfl, (by rw [ef126, upd_ne hj])⟩), (show ((n148 : Int32).toInt ≠ 0 ∨ gd3 (f1 k.toNatClampNeg) ((fa 12 27) k.toNatClampNeg) (f126 k.toNatClampNeg)) from (by
            have kc : (1 : Int32).toInt = 1 := by decide
            have kE : f1 k.toNatClampNeg = 1 := by rw [ef1]; exact upd_eq
            have fE : f126 k.toNatClampNeg = 0 := by rw [ef126]; exact upd_eq
            have := congrArg Int32.toInt (ev127.trans fE)
            by_cases h0 : (n148 : Int32).toInt = 0
            · refine Or.inr ?_; rw [kE, fE]; unfold gd3; exact ⟨fun h => by omega, fun h h2 => by omega⟩
            · exact Or.inl h0)), rfl⟩, by rw [ht9]; exact hP9, hD9⟩, hS.F ht9⟩) hS.2.2 dX12_readClause_295
              · exact absurd rfl c150
            · have fc146 := z_eq (rfl : (r144).toInt = _) (by decide : (59 : Int32).toInt = 59) c146
              refine lv_iconst (v := 1) hx hb dX12_readClause_269 (by decide) ?_
              refine lv_goto (tgt := 274) hx hb dX12_readClause_270 (by decide) ?_
              refine lv_iconst (v := 1) hx hb dX12_readClause_274 (by decide) ?_
              refine lv_aload_n hx hb dX12_readClause_275 rfl (lv_at hl 1 rfl) ?_
              refine gM_12_34 hx hb ht hown hK hP m_1173 (v := n145) rfl dX12_readClause_276 ?_
              refine vp_callSi (W.runV (As := [.int 1, .int 1, .int n145]) (rest := []) ⟨hx, hb, hml, hown, ht⟩ (c_X12_want_1 l dC dI h g ca (u2 (u2 (u2 iv 12 34 n145) 12 37 n7) 12 38 n8) lv (u2 (u2 (u2 fa 12 26 f1) 12 30 f2) 12 28 f126) la (IX_a (c := 12) (k := 28) (IX_a (c := 12) (k := 30) (IX_a (c := 12) (k := 26) (IX_i (c := 12) (k := 38) (IX_i (c := 12) (k := 37) (IX_i (c := 12) (k := 34) hI (show inb (0, 200) n145 from ⟨by omega, by omega⟩)) (show inb (0, 200) n7 from ⟨by omega, by omega⟩)) (show inb (0, 200) n8 from ⟨by omega, by omega⟩)) hf1) hf2) hf126) 1 n145) (kV 3 ht m_1472 m_1474 m_50 m_89 m_1475 rfl rfl hd_X12_want_v ⟨Nat.le_of_ble_eq_true rfl, Nat.le_of_ble_eq_true rfl⟩) (vR hP hK (rM_12 hK hP)) rfl rfl hl.1 rfl (lv_room (Nat.le_of_ble_eq_true rfl)) dX12_readClause_279 ⟨Nat.le_of_ble_eq_true rfl, Nat.le_of_ble_eq_true rfl⟩) (fun r151 hr151 => ?_)
              rcases hr151 with ⟨rfl, fr151⟩ | ⟨rfl, fr151⟩
              · skip
                have fr151 : (((iv 12 35) : Int32).toInt = 0) := fr151
                refine lv_if_eq (tgt := 295) hx hb dX12_readClause_282 (by decide) (fun c152 => ?_) (fun c152 => ?_)
                · exact absurd c152 (by decide)
                · skip
                  refine lv_aload_n hx hb dX12_readClause_285 rfl (lv_at hl 1 rfl) ?_
                  refine lv_dup hx hb dX12_readClause_286 rfl ?_
                  refine gM_12_34 hx hb ht hown hK hP m_1173 (v := n145) rfl dX12_readClause_287 ?_
                  refine lv_iconst (v := 1) hx hb dX12_readClause_290 (by decide) ?_
                  refine lv_iadd hx hb dX12_readClause_291 ?_
                  refine lv_topi (fun v153 ev153 => ?_)
                  have tv153 := z_add ev153 (rfl : (n145).toInt = _) (by decide : (1 : Int32).toInt = 1) (by omega) (by omega)
                  have : 0 ≤ (v153 : Int32).toInt ∧ (v153 : Int32).toInt ≤ 200 := ⟨by omega, by omega⟩
                  refine pM_12_34 (v := v153) hx hb ht hown hK hP hD hS m_1173 dX12_readClause_292 (fun H locs hP hD hS => ?_)
                  have hP : va_P (dC, dI) classes (WM h g ca (u2 (u2 (u2 iv 12 34 v153) 12 37 n7) 12 38 n8) lv (u2 (u2 (u2 fa 12 26 f1) 12 30 f2) 12 28 f126) la) H := hP
                  have hD : va_D A (WM h g ca (u2 (u2 (u2 iv 12 34 v153) 12 37 n7) 12 38 n8) lv (u2 (u2 (u2 fa 12 26 f1) 12 30 f2) 12 28 f126) la) := hD
                  have hP9 : va_P (dC, dI) classes (WM h g ca (u2 (u2 (u2 (u2 (u2 iv 12 34 v153) 12 35 (iv 12 35)) 12 36 (iv 12 36)) 12 37 n7) 12 38 n8) lv (u2 (u2 (u2 fa 12 26 f1) 12 28 f126) 12 30 f2) la) H := hP
                  have hD9 : va_D A (WM h g ca (u2 (u2 (u2 (u2 (u2 iv 12 34 v153) 12 35 (iv 12 35)) 12 36 (iv 12 36)) 12 37 n7) 12 38 n8) lv (u2 (u2 (u2 fa 12 26 f1) 12 28 f126) 12 30 f2) la) := hD
                  exact W.vret hx hb hr (fun t ht9 hW => ⟨⟨((u2 (u2 (u2 (u2 (u2 iv 12 34 v153) 12 35 (iv 12 35)) 12 36 (iv 12 36)) 12 37 n7) 12 38 n8), lv, (u2 (u2 (u2 fa 12 26 f1) 12 28 f126) 12 30 f2), la), rfl, ⟨f1, f126, f2, v153, (iv 12 35), (iv 12 36), n7, n8, hf2, (show inb (0, 200) v153 from ⟨by omega, by omega⟩), (hI.1 12 35), (show inb (0, 200) n7 from ⟨by omega, by omega⟩), (show inb (0, 200) n8 from ⟨by omega, by omega⟩), (show (iv 12 34).toInt ≤ (v153 : Int32).toInt from by omega), (show ∀ j : Nat, j ≠ k.toNatClampNeg → f1 j = (fa 12 26) j ∧ (fa 12 27) j = (fa 12 27) j ∧ f126 j = (fa 12 28) j from fun j hj => ⟨(by rw [ef1, upd_ne hj]), rfl, (by rw [ef126, upd_ne hj])⟩), (show (((iv 12 35) : Int32).toInt ≠ 0 ∨ gd3 (f1 k.toNatClampNeg) ((fa 12 27) k.toNatClampNeg) (f126 k.toNatClampNeg)) from (by
            have kc : (1 : Int32).toInt = 1 := by decide
            have kE : f1 k.toNatClampNeg = 1 := by rw [ef1]; exact upd_eq
            have fE : f126 k.toNatClampNeg = 0 := by rw [ef126]; exact upd_eq
            have := congrArg Int32.toInt (ev127.trans fE)
            by_cases h0 : ((iv 12 35) : Int32).toInt = 0
            · refine Or.inr ?_; rw [kE, fE]; unfold gd3; exact ⟨fun h => by omega, fun h h2 => by omega⟩
            · exact Or.inl h0)), rfl⟩, by rw [ht9]; exact hP9, hD9⟩, hS.F ht9⟩) hS.2.2 dX12_readClause_295
              · skip
                have fr151 : ¬ (((iv 12 35) : Int32).toInt = 0) := fr151
                exfalso; omega
          · skip
            have fr143 : ¬ (((iv 12 35) : Int32).toInt = 0) := fr143
            refine lv_istore_n (lv' := [(3, .int 0), (0, .ref h), (1, .int 1), (2, .int k)]) hx hb dX12_readClause_198 rfl hl (by decide) rfl (fun ls hl => ?_)
            refine lv_goto (tgt := 257) hx hb dX12_readClause_199 (by decide) ?_
            refine lv_aload_n hx hb dX12_readClause_257 rfl (lv_at hl 1 rfl) ?_
            have hFc := free_all hD hS hA
            refine va_calli (va_runV (As := []) (rest := []) ⟨hx, hb, hml, hown, ht⟩ (c_X12_here_x l dC dI H.size h g ca (u2 (u2 (u2 iv 12 34 n6) 12 37 n7) 12 38 n8) lv (u2 (u2 (u2 fa 12 26 f1) 12 30 f2) 12 28 f126) la (IX_a (c := 12) (k := 28) (IX_a (c := 12) (k := 30) (IX_a (c := 12) (k := 26) (IX_i (c := 12) (k := 38) (IX_i (c := 12) (k := 37) (IX_i (c := 12) (k := 34) hI (show inb (0, 200) n6 from ⟨by omega, by omega⟩)) (show inb (0, 200) n7 from ⟨by omega, by omega⟩)) (show inb (0, 200) n8 from ⟨by omega, by omega⟩)) hf1) hf2) hf126)) (kV 0 ht m_1458 m_1460 m_47 m_89 m_1461 rfl rfl hd_X12_here_v ⟨Nat.le_of_ble_eq_true rfl, Nat.le_of_ble_eq_true rfl⟩) (vW hP hK hD (rM_12 hK hP)) rfl rfl hl.1 rfl (lv_room (Nat.le_of_ble_eq_true rfl)) dX12_readClause_258 ⟨Nat.le_of_ble_eq_true rfl, Nat.le_of_ble_eq_true rfl⟩) hS (fun q _ h => hFc q h) hFc (fun r154 u t H1 locs ht9 hvm hr154 hB hz1 hk1 hS => ?_)
            obtain ⟨n155, hn155, xr154_0, xr154_1, hr154, rfl⟩ := hr154
            have hn155 : 0 ≤ n155.toInt ∧ n155.toInt ≤ 200 := hn155
            obtain ⟨hP, hD⟩ := hB
            rw [ht9] at hP
            generalize H1 = H at hP hS ⊢
            have hP : va_P (dC, dI) classes (WM h g ca (u2 (u2 (u2 iv 12 34 n155) 12 37 n7) 12 38 n8) lv (u2 (u2 (u2 fa 12 26 f1) 12 30 f2) 12 28 f126) la) H := hP
            have hD : va_D A (WM h g ca (u2 (u2 (u2 iv 12 34 n155) 12 37 n7) 12 38 n8) lv (u2 (u2 (u2 fa 12 26 f1) 12 30 f2) 12 28 f126) la) := (show va_D _ (WM h g ca (u2 (u2 (u2 iv 12 34 n155) 12 37 n7) 12 38 n8) lv (u2 (u2 (u2 fa 12 26 f1) 12 30 f2) 12 28 f126) la) from hD).weaken (fun _ _ _ h => hFc _ h)
            have xr154_0 : (n6 : Int32).toInt ≤ (n155 : Int32).toInt := xr154_0
            have i_12_33 : 0 ≤ (iv 12 33).toInt ∧ (iv 12 33).toInt ≤ 200 := hI.1 12 33
            have xr154_1 : ((r154 : Int32).toInt = -1 ∨ (n155 : Int32).toInt + 1 ≤ ((iv 12 33) : Int32).toInt) := xr154_1
            refine lv_istore_n (lv' := [(3, .int r154), (0, .ref h), (1, .int 1), (2, .int k)]) hx hb dX12_readClause_261 rfl hl (by decide) rfl (fun ls hl => ?_)
            refine lv_aload_n hx hb dX12_readClause_262 rfl (lv_at hl 1 rfl) ?_
            refine lv_iload_n hx hb dX12_readClause_263 rfl (lv_at hl 0 rfl) ?_
            refine lv_bipush (v := 59) hx hb dX12_readClause_264 (by decide) ?_
            refine lv_icmp_ne (tgt := 273) hx hb dX12_readClause_266 (by decide) (fun c156 => ?_) (fun c156 => ?_)
            · have fc156 := z_ne (rfl : (r154).toInt = _) (by decide : (59 : Int32).toInt = 59) c156
              refine lv_iconst (v := 0) hx hb dX12_readClause_273 (by decide) ?_
              refine lv_iconst (v := 1) hx hb dX12_readClause_274 (by decide) ?_
              refine lv_aload_n hx hb dX12_readClause_275 rfl (lv_at hl 1 rfl) ?_
              refine gM_12_34 hx hb ht hown hK hP m_1173 (v := n155) rfl dX12_readClause_276 ?_
              have hFc := free_all hD hS hA
              refine va_calli (va_runV (As := [.int 0, .int 1, .int n155]) (rest := []) ⟨hx, hb, hml, hown, ht⟩ (c_X12_want_0 l dC dI H.size h g ca (u2 (u2 (u2 iv 12 34 n155) 12 37 n7) 12 38 n8) lv (u2 (u2 (u2 fa 12 26 f1) 12 30 f2) 12 28 f126) la (IX_a (c := 12) (k := 28) (IX_a (c := 12) (k := 30) (IX_a (c := 12) (k := 26) (IX_i (c := 12) (k := 38) (IX_i (c := 12) (k := 37) (IX_i (c := 12) (k := 34) hI (show inb (0, 200) n155 from ⟨by omega, by omega⟩)) (show inb (0, 200) n7 from ⟨by omega, by omega⟩)) (show inb (0, 200) n8 from ⟨by omega, by omega⟩)) hf1) hf2) hf126) 1 n155 ⟨by decide, by decide⟩) (kV 3 ht m_1472 m_1474 m_50 m_89 m_1475 rfl rfl hd_X12_want_v ⟨Nat.le_of_ble_eq_true rfl, Nat.le_of_ble_eq_true rfl⟩) (vW hP hK hD (rM_12 hK hP)) rfl rfl hl.1 rfl (lv_room (Nat.le_of_ble_eq_true rfl)) dX12_readClause_279 ⟨Nat.le_of_ble_eq_true rfl, Nat.le_of_ble_eq_true rfl⟩) hS (fun q _ h => hFc q h) hFc (fun r157 u t H1 locs ht9 hvm hr157 hB hz1 hk1 hS => ?_)
              obtain ⟨n158, n159, hn158, xr157_0, hr157, rfl⟩ := hr157
              have hn158 : 0 ≤ n158.toInt ∧ n158.toInt ≤ 5 := hn158
              obtain ⟨hP, hD⟩ := hB
              rw [ht9] at hP
              generalize H1 = H at hP hS ⊢
              have hP : va_P (dC, dI) classes (WM h g ca (u2 (u2 (u2 (u2 (u2 iv 12 34 n155) 12 37 n7) 12 38 n8) 12 35 n158) 12 36 n159) lv (u2 (u2 (u2 fa 12 26 f1) 12 30 f2) 12 28 f126) la) H := hP
              have hD : va_D A (WM h g ca (u2 (u2 (u2 (u2 (u2 iv 12 34 n155) 12 37 n7) 12 38 n8) 12 35 n158) 12 36 n159) lv (u2 (u2 (u2 fa 12 26 f1) 12 30 f2) 12 28 f126) la) := (show va_D _ (WM h g ca (u2 (u2 (u2 (u2 (u2 iv 12 34 n155) 12 37 n7) 12 38 n8) 12 35 n158) 12 36 n159) lv (u2 (u2 (u2 fa 12 26 f1) 12 30 f2) 12 28 f126) la) from hD).weaken (fun _ _ _ h => hFc _ h)
              have xr157_0 : 1 ≤ (n158 : Int32).toInt := xr157_0
              obtain rfl : 0 = r157 := hr157.symm
              refine lv_if_eq (tgt := 295) hx hb dX12_readClause_282 (by decide) (fun c160 => ?_) (fun c160 => ?_)
              · skip
                have hP9 : va_P (dC, dI) classes (WM h g ca (u2 (u2 (u2 (u2 (u2 iv 12 34 n155) 12 35 n158) 12 36 n159) 12 37 n7) 12 38 n8) lv (u2 (u2 (u2 fa 12 26 f1) 12 28 f126) 12 30 f2) la) H := hP
                have hD9 : va_D A (WM h g ca (u2 (u2 (u2 (u2 (u2 iv 12 34 n155) 12 35 n158) 12 36 n159) 12 37 n7) 12 38 n8) lv (u2 (u2 (u2 fa 12 26 f1) 12 28 f126) 12 30 f2) la) := hD
                exact W.vret hx hb hr (fun t ht9 hW => ⟨⟨((u2 (u2 (u2 (u2 (u2 iv 12 34 n155) 12 35 n158) 12 36 n159) 12 37 n7) 12 38 n8), lv, (u2 (u2 (u2 fa 12 26 f1) 12 28 f126) 12 30 f2), la), rfl, ⟨f1, f126, f2, n155, n158, n159, n7, n8, hf2, (show inb (0, 200) n155 from ⟨by omega, by omega⟩), (show inb (0, 5) n158 from ⟨by omega, by omega⟩), (show inb (0, 200) n7 from ⟨by omega, by omega⟩), (show inb (0, 200) n8 from ⟨by omega, by omega⟩), (show (iv 12 34).toInt ≤ (n155 : Int32).toInt from by omega), (show ∀ j : Nat, j ≠ k.toNatClampNeg → f1 j = (fa 12 26) j ∧ (fa 12 27) j = (fa 12 27) j ∧ f126 j = (fa 12 28) j from fun j hj => ⟨(by rw [ef1, upd_ne hj]), rfl, (by rw [ef126, upd_ne hj])⟩), (show ((n158 : Int32).toInt ≠ 0 ∨ gd3 (f1 k.toNatClampNeg) ((fa 12 27) k.toNatClampNeg) (f126 k.toNatClampNeg)) from (by
            have kc : (1 : Int32).toInt = 1 := by decide
            have kE : f1 k.toNatClampNeg = 1 := by rw [ef1]; exact upd_eq
            have fE : f126 k.toNatClampNeg = 0 := by rw [ef126]; exact upd_eq
            have := congrArg Int32.toInt (ev127.trans fE)
            by_cases h0 : (n158 : Int32).toInt = 0
            · refine Or.inr ?_; rw [kE, fE]; unfold gd3; exact ⟨fun h => by omega, fun h h2 => by omega⟩
            · exact Or.inl h0)), rfl⟩, by rw [ht9]; exact hP9, hD9⟩, hS.F ht9⟩) hS.2.2 dX12_readClause_295
              · exact absurd rfl c160
            · have fc156 := z_eq (rfl : (r154).toInt = _) (by decide : (59 : Int32).toInt = 59) c156
              refine lv_iconst (v := 1) hx hb dX12_readClause_269 (by decide) ?_
              refine lv_goto (tgt := 274) hx hb dX12_readClause_270 (by decide) ?_
              refine lv_iconst (v := 1) hx hb dX12_readClause_274 (by decide) ?_
              refine lv_aload_n hx hb dX12_readClause_275 rfl (lv_at hl 1 rfl) ?_
              refine gM_12_34 hx hb ht hown hK hP m_1173 (v := n155) rfl dX12_readClause_276 ?_
              refine vp_callSi (W.runV (As := [.int 1, .int 1, .int n155]) (rest := []) ⟨hx, hb, hml, hown, ht⟩ (c_X12_want_1 l dC dI h g ca (u2 (u2 (u2 iv 12 34 n155) 12 37 n7) 12 38 n8) lv (u2 (u2 (u2 fa 12 26 f1) 12 30 f2) 12 28 f126) la (IX_a (c := 12) (k := 28) (IX_a (c := 12) (k := 30) (IX_a (c := 12) (k := 26) (IX_i (c := 12) (k := 38) (IX_i (c := 12) (k := 37) (IX_i (c := 12) (k := 34) hI (show inb (0, 200) n155 from ⟨by omega, by omega⟩)) (show inb (0, 200) n7 from ⟨by omega, by omega⟩)) (show inb (0, 200) n8 from ⟨by omega, by omega⟩)) hf1) hf2) hf126) 1 n155) (kV 3 ht m_1472 m_1474 m_50 m_89 m_1475 rfl rfl hd_X12_want_v ⟨Nat.le_of_ble_eq_true rfl, Nat.le_of_ble_eq_true rfl⟩) (vR hP hK (rM_12 hK hP)) rfl rfl hl.1 rfl (lv_room (Nat.le_of_ble_eq_true rfl)) dX12_readClause_279 ⟨Nat.le_of_ble_eq_true rfl, Nat.le_of_ble_eq_true rfl⟩) (fun r161 hr161 => ?_)
              rcases hr161 with ⟨rfl, fr161⟩ | ⟨rfl, fr161⟩
              · skip
                have fr161 : (((iv 12 35) : Int32).toInt = 0) := fr161
                exfalso; omega
              · skip
                have fr161 : ¬ (((iv 12 35) : Int32).toInt = 0) := fr161
                refine lv_if_eq (tgt := 295) hx hb dX12_readClause_282 (by decide) (fun c162 => ?_) (fun c162 => ?_)
                · skip
                  have hP9 : va_P (dC, dI) classes (WM h g ca (u2 (u2 (u2 (u2 (u2 iv 12 34 n155) 12 35 (iv 12 35)) 12 36 (iv 12 36)) 12 37 n7) 12 38 n8) lv (u2 (u2 (u2 fa 12 26 f1) 12 28 f126) 12 30 f2) la) H := hP
                  have hD9 : va_D A (WM h g ca (u2 (u2 (u2 (u2 (u2 iv 12 34 n155) 12 35 (iv 12 35)) 12 36 (iv 12 36)) 12 37 n7) 12 38 n8) lv (u2 (u2 (u2 fa 12 26 f1) 12 28 f126) 12 30 f2) la) := hD
                  exact W.vret hx hb hr (fun t ht9 hW => ⟨⟨((u2 (u2 (u2 (u2 (u2 iv 12 34 n155) 12 35 (iv 12 35)) 12 36 (iv 12 36)) 12 37 n7) 12 38 n8), lv, (u2 (u2 (u2 fa 12 26 f1) 12 28 f126) 12 30 f2), la), rfl, ⟨f1, f126, f2, n155, (iv 12 35), (iv 12 36), n7, n8, hf2, (show inb (0, 200) n155 from ⟨by omega, by omega⟩), (hI.1 12 35), (show inb (0, 200) n7 from ⟨by omega, by omega⟩), (show inb (0, 200) n8 from ⟨by omega, by omega⟩), (show (iv 12 34).toInt ≤ (n155 : Int32).toInt from by omega), (show ∀ j : Nat, j ≠ k.toNatClampNeg → f1 j = (fa 12 26) j ∧ (fa 12 27) j = (fa 12 27) j ∧ f126 j = (fa 12 28) j from fun j hj => ⟨(by rw [ef1, upd_ne hj]), rfl, (by rw [ef126, upd_ne hj])⟩), (show (((iv 12 35) : Int32).toInt ≠ 0 ∨ gd3 (f1 k.toNatClampNeg) ((fa 12 27) k.toNatClampNeg) (f126 k.toNatClampNeg)) from Or.inl (by omega)), rfl⟩, by rw [ht9]; exact hP9, hD9⟩, hS.F ht9⟩) hS.2.2 dX12_readClause_295
                · exact absurd rfl c162
  · exact absurd c3 (by decide)
set_option maxHeartbeats 4000000 in
set_option maxRecDepth 100000 in
/-- X12_readClause -/
theorem c_X12_readClause_2 (l : Launch) (dC : Nat → ClassId) (dI : Nat → Nat → Nat) (sz : Nat) (h : Nat) (g : Nat → Nat → Nat) (ca : Nat → Nat → ClassId) (iv : Nat → Nat → Int32) (lv : Nat → Nat → Int64) (fa : Nat → Nat → Nat → Int32) (la : Nat → Nat → Nat → Int64) (hI : IX iv fa) (k : Int32) (h_k : 0 ≤ k.toInt ∧ k.toInt ≤ 95) : Met l yX12_readClause (wc yX12_readClause cX12_readClause 4 none) ({ frames := 3, cells := 0, slots := 0, locals := 72 } : Room) (pW (dC, dI) classes (WM h g ca iv lv fa la) (TM ca) sz [.ref h, .int 2, .int k]) (va_Qv (fun (u : SS) => ∃ (na_12_26 : Nat → Int32) (na_12_28 : Nat → Int32) (na_12_29 : Nat → Int32) (na_12_30 : Nat → Int32) (na_12_31 : Nat → Int32) (ni_12_34 : Int32) (ni_12_35 : Int32) (ni_12_36 : Int32) (ni_12_37 : Int32) (ni_12_38 : Int32), (∀ j, inb (bA 12 30 j) (na_12_30 j)) ∧ inb (bI 12 34) ni_12_34 ∧ inb (bI 12 35) ni_12_35 ∧ inb (bI 12 37) ni_12_37 ∧ inb (bI 12 38) ni_12_38 ∧ ((iv 12 34).toInt ≤ (ni_12_34).toInt) ∧ (∀ j : Nat, j ≠ k.toNatClampNeg → na_12_26 j = (fa 12 26) j ∧ (fa 12 27) j = (fa 12 27) j ∧ na_12_28 j = (fa 12 28) j) ∧ (((ni_12_35).toInt ≠ 0 ∨ gd3 (na_12_26 k.toNatClampNeg) ((fa 12 27) k.toNatClampNeg) (na_12_28 k.toNatClampNeg))) ∧ u = ((u2 (u2 (u2 (u2 (u2 iv 12 34 ni_12_34) 12 35 ni_12_35) 12 36 ni_12_36) 12 37 ni_12_37) 12 38 ni_12_38), lv, (u2 (u2 (u2 (u2 (u2 fa 12 26 na_12_26) 12 28 na_12_28) 12 29 na_12_29) 12 30 na_12_30) 12 31 na_12_31), la)) (bM (dC, dI) h g ca (va_A (WM h g ca iv lv fa la) sz)) (va_A (WM h g ca iv lv fa la) sz)) 0 0 (va_A (WM h g ca iv lv fa la) sz) := by
  refine Met.ofW (cc := cX12_readClause) (maxL := 4) (ret := none) (by decide) rfl ?_
  intro p e s m args below meth c s₁ B hml hv
  obtain ⟨rfl, hsz, hP, hK, hD0⟩ := hv
  have hx := B.exec
  have hb := B.bytes
  have hr := B.returns
  have ht := tb_tl (atoms_spec (ws := wc yX12_readClause cX12_readClause 4 none) B.pre)
  have hown : s.vm.findClass RX12 = some m.cls := findClass_of_methodNamed B.named
  have hlocks := B.notSynchronized
  subst hsz
  have hD := hD0.self (sz := s.heap.size)
  generalize hAe : va_A (WM h g ca iv lv fa la) s.heap.size = A at hD ⊢
  have hA : ∀ q : Nat, s.heap.size ≤ q → A q := fun q h => by rw [← hAe]; exact Or.inr h
  have hS : va_S A s.heap s.heap [] := va_S.rf
  have hl := lv_entry [.ref h, .int 2, .int k] (n := 4) (Nat.le_of_ble_eq_true rfl)
  rw [lg_entry_eq]
  generalize (lg_sl [.ref h, .int 2, .int k] ++ List.replicate (4 - (lg_sl [.ref h, .int 2, .int k]).length) Slot.unset).toArray = ls at hl ⊢
  have hl : lv_has ls 4 [(0, .ref h), (1, .int 2), (2, .int k)] := hl
  refine lv_aload_n hx hb dX12_readClause_0 rfl (lv_at hl 0 rfl) ?_
  refine gM_12_26 hx hb ht hown hK hP m_1165 dX12_readClause_1 ?_
  refine lv_iload_n hx hb dX12_readClause_4 rfl (lv_at hl 2 rfl) ?_
  refine lv_iload_n hx hb dX12_readClause_5 rfl (lv_at hl 1 rfl) ?_
  refine tM_12_26 hx hb hK hP hD hS (f0 := (fa 12 26)) rfl (i := k) (x := 2) (vp_in_iff.mpr ⟨by omega, by omega⟩) dX12_readClause_6 (fun f1 ef1 H locs hP hD hS => ?_)
  have hf1 : ∀ j, inb (bA 12 26 j) (f1 j) := fun j => full_i _
  refine lv_aload_n hx hb dX12_readClause_7 rfl (lv_at hl 0 rfl) ?_
  refine gM_12_30 hx hb ht hown hK hP m_1169 dX12_readClause_8 ?_
  refine lv_iload_n hx hb dX12_readClause_11 rfl (lv_at hl 2 rfl) ?_
  refine lv_iconst (v := 0) hx hb dX12_readClause_12 (by decide) ?_
  refine tM_12_30 hx hb hK hP hD hS (f0 := (fa 12 30)) rfl (i := k) (x := 0) (vp_in_iff.mpr ⟨by omega, by omega⟩) dX12_readClause_13 (fun f2 ef2 H locs hP hD hS => ?_)
  have hf2 : ∀ j, inb (bA 12 30 j) (f2 j) := by rw [ef2]; exact upd_b (b := bA 12 30) (hI.2 12 30) (show inb (0, 8) 0 from ⟨by decide, by decide⟩)
  refine lv_iload_n hx hb dX12_readClause_14 rfl (lv_at hl 1 rfl) ?_
  refine lv_if_ne (tgt := 89) hx hb dX12_readClause_15 (by decide) (fun c3 => ?_) (fun c3 => ?_)
  · skip
    refine lv_iload_n hx hb dX12_readClause_89 rfl (lv_at hl 1 rfl) ?_
    refine lv_iconst (v := 1) hx hb dX12_readClause_90 (by decide) ?_
    refine lv_icmp_ne (tgt := 202) hx hb dX12_readClause_91 (by decide) (fun c4 => ?_) (fun c4 => ?_)
    · skip
      refine lv_iload_n hx hb dX12_readClause_202 rfl (lv_at hl 1 rfl) ?_
      refine lv_iconst (v := 3) hx hb dX12_readClause_203 (by decide) ?_
      refine lv_icmp_ne (tgt := 252) hx hb dX12_readClause_204 (by decide) (fun c5 => ?_) (fun c5 => ?_)
      · skip
        refine lv_aload_n hx hb dX12_readClause_252 rfl (lv_at hl 0 rfl) ?_
        refine lv_iload_n hx hb dX12_readClause_253 rfl (lv_at hl 2 rfl) ?_
        have i_12_34 : 0 ≤ (iv 12 34).toInt ∧ (iv 12 34).toInt ≤ 200 := hI.1 12 34
        have hFc := free_all hD hS hA
        refine va_callv (va_runV (As := [.int k]) (rest := []) ⟨hx, hb, hml, hown, ht⟩ (c_X12_readName l dC dI H.size h g ca iv lv (u2 (u2 fa 12 26 f1) 12 30 f2) la (IX_a (c := 12) (k := 30) (IX_a (c := 12) (k := 26) hI hf1) hf2) k ⟨by omega, by omega⟩) (kV 1 ht m_1496 m_1498 m_54 m_89 m_1499 rfl rfl hd_X12_readName_v ⟨Nat.le_of_ble_eq_true rfl, Nat.le_of_ble_eq_true rfl⟩) (vW hP hK hD (rM_12 hK hP)) rfl rfl hl.1 rfl (lv_room (Nat.le_of_ble_eq_true rfl)) dX12_readClause_254 ⟨Nat.le_of_ble_eq_true rfl, Nat.le_of_ble_eq_true rfl⟩) hS (fun q _ h => hFc q h) hFc (fun u t H1 locs ht9 hvm hr6 hB hz1 hk1 hS => ?_)
        obtain ⟨n7, n8, n9, n10, n11, n12, n13, n14, n15, hn9, hn11, hn12, hn14, hn15, xr6_0, xr6_1, rfl⟩ := hr6
        have hn7 : ∀ j, inb (bA 12 28 j) (n7 j) := fun j => full_i _
        have hn8 : ∀ j, inb (bA 12 29 j) (n8 j) := fun j => full_i _
        have hn10 : ∀ j, inb (bA 12 31 j) (n10 j) := fun j => full_i _
        have hn11 : 0 ≤ n11.toInt ∧ n11.toInt ≤ 200 := hn11
        have hn12 : 0 ≤ n12.toInt ∧ n12.toInt ≤ 5 := hn12
        have hn14 : 0 ≤ n14.toInt ∧ n14.toInt ≤ 200 := hn14
        have hn15 : 0 ≤ n15.toInt ∧ n15.toInt ≤ 200 := hn15
        obtain ⟨hP, hD⟩ := hB
        rw [ht9] at hP
        generalize H1 = H at hP hS ⊢
        have hP : va_P (dC, dI) classes (WM h g ca (u2 (u2 (u2 (u2 (u2 iv 12 34 n11) 12 35 n12) 12 36 n13) 12 37 n14) 12 38 n15) lv (u2 (u2 (u2 (u2 (u2 fa 12 26 f1) 12 30 n9) 12 28 n7) 12 29 n8) 12 31 n10) la) H := hP
        have hD : va_D A (WM h g ca (u2 (u2 (u2 (u2 (u2 iv 12 34 n11) 12 35 n12) 12 36 n13) 12 37 n14) 12 38 n15) lv (u2 (u2 (u2 (u2 (u2 fa 12 26 f1) 12 30 n9) 12 28 n7) 12 29 n8) 12 31 n10) la) := (show va_D _ (WM h g ca (u2 (u2 (u2 (u2 (u2 iv 12 34 n11) 12 35 n12) 12 36 n13) 12 37 n14) 12 38 n15) lv (u2 (u2 (u2 (u2 (u2 fa 12 26 f1) 12 30 n9) 12 28 n7) 12 29 n8) 12 31 n10) la) from hD).weaken (fun _ _ _ h => hFc _ h)
        have xr6_0 : ((iv 12 34) : Int32).toInt ≤ (n11 : Int32).toInt := xr6_0
        have xr6_1 : ∀ j : Nat, j ≠ (k : Int32).toNatClampNeg → n7 j = (fa 12 28) j := xr6_1
        refine lv_aload_n hx hb dX12_readClause_257 rfl (lv_at hl 0 rfl) ?_
        have hFc := free_all hD hS hA
        refine va_calli (va_runV (As := []) (rest := []) ⟨hx, hb, hml, hown, ht⟩ (c_X12_here_x l dC dI H.size h g ca (u2 (u2 (u2 (u2 (u2 iv 12 34 n11) 12 35 n12) 12 36 n13) 12 37 n14) 12 38 n15) lv (u2 (u2 (u2 (u2 (u2 fa 12 26 f1) 12 30 n9) 12 28 n7) 12 29 n8) 12 31 n10) la (IX_a (c := 12) (k := 31) (IX_a (c := 12) (k := 29) (IX_a (c := 12) (k := 28) (IX_a (c := 12) (k := 30) (IX_a (c := 12) (k := 26) (IX_i (c := 12) (k := 38) (IX_i (c := 12) (k := 37) (IX_i (c := 12) (k := 36) (IX_i (c := 12) (k := 35) (IX_i (c := 12) (k := 34) hI (show inb (0, 200) n11 from ⟨by omega, by omega⟩)) (show inb (0, 5) n12 from ⟨by omega, by omega⟩)) (full_i _)) (show inb (0, 200) n14 from ⟨by omega, by omega⟩)) (show inb (0, 200) n15 from ⟨by omega, by omega⟩)) hf1) hn9) hn7) hn8) hn10)) (kV 0 ht m_1458 m_1460 m_47 m_89 m_1461 rfl rfl hd_X12_here_v ⟨Nat.le_of_ble_eq_true rfl, Nat.le_of_ble_eq_true rfl⟩) (vW hP hK hD (rM_12 hK hP)) rfl rfl hl.1 rfl (lv_room (Nat.le_of_ble_eq_true rfl)) dX12_readClause_258 ⟨Nat.le_of_ble_eq_true rfl, Nat.le_of_ble_eq_true rfl⟩) hS (fun q _ h => hFc q h) hFc (fun r16 u t H1 locs ht9 hvm hr16 hB hz1 hk1 hS => ?_)
        obtain ⟨n17, hn17, xr16_0, xr16_1, hr16, rfl⟩ := hr16
        have hn17 : 0 ≤ n17.toInt ∧ n17.toInt ≤ 200 := hn17
        obtain ⟨hP, hD⟩ := hB
        rw [ht9] at hP
        generalize H1 = H at hP hS ⊢
        have hP : va_P (dC, dI) classes (WM h g ca (u2 (u2 (u2 (u2 (u2 iv 12 34 n17) 12 35 n12) 12 36 n13) 12 37 n14) 12 38 n15) lv (u2 (u2 (u2 (u2 (u2 fa 12 26 f1) 12 30 n9) 12 28 n7) 12 29 n8) 12 31 n10) la) H := hP
        have hD : va_D A (WM h g ca (u2 (u2 (u2 (u2 (u2 iv 12 34 n17) 12 35 n12) 12 36 n13) 12 37 n14) 12 38 n15) lv (u2 (u2 (u2 (u2 (u2 fa 12 26 f1) 12 30 n9) 12 28 n7) 12 29 n8) 12 31 n10) la) := (show va_D _ (WM h g ca (u2 (u2 (u2 (u2 (u2 iv 12 34 n17) 12 35 n12) 12 36 n13) 12 37 n14) 12 38 n15) lv (u2 (u2 (u2 (u2 (u2 fa 12 26 f1) 12 30 n9) 12 28 n7) 12 29 n8) 12 31 n10) la) from hD).weaken (fun _ _ _ h => hFc _ h)
        have xr16_0 : (n11 : Int32).toInt ≤ (n17 : Int32).toInt := xr16_0
        have i_12_33 : 0 ≤ (iv 12 33).toInt ∧ (iv 12 33).toInt ≤ 200 := hI.1 12 33
        have xr16_1 : ((r16 : Int32).toInt = -1 ∨ (n17 : Int32).toInt + 1 ≤ ((iv 12 33) : Int32).toInt) := xr16_1
        refine lv_istore_n (lv' := [(3, .int r16), (0, .ref h), (1, .int 2), (2, .int k)]) hx hb dX12_readClause_261 rfl hl (by decide) rfl (fun ls hl => ?_)
        refine lv_aload_n hx hb dX12_readClause_262 rfl (lv_at hl 1 rfl) ?_
        refine lv_iload_n hx hb dX12_readClause_263 rfl (lv_at hl 0 rfl) ?_
        refine lv_bipush (v := 59) hx hb dX12_readClause_264 (by decide) ?_
        refine lv_icmp_ne (tgt := 273) hx hb dX12_readClause_266 (by decide) (fun c18 => ?_) (fun c18 => ?_)
        · have fc18 := z_ne (rfl : (r16).toInt = _) (by decide : (59 : Int32).toInt = 59) c18
          refine lv_iconst (v := 0) hx hb dX12_readClause_273 (by decide) ?_
          refine lv_iconst (v := 1) hx hb dX12_readClause_274 (by decide) ?_
          refine lv_aload_n hx hb dX12_readClause_275 rfl (lv_at hl 1 rfl) ?_
          refine gM_12_34 hx hb ht hown hK hP m_1173 (v := n17) rfl dX12_readClause_276 ?_
          have hFc := free_all hD hS hA
          refine va_calli (va_runV (As := [.int 0, .int 1, .int n17]) (rest := []) ⟨hx, hb, hml, hown, ht⟩ (c_X12_want_0 l dC dI H.size h g ca (u2 (u2 (u2 (u2 (u2 iv 12 34 n17) 12 35 n12) 12 36 n13) 12 37 n14) 12 38 n15) lv (u2 (u2 (u2 (u2 (u2 fa 12 26 f1) 12 30 n9) 12 28 n7) 12 29 n8) 12 31 n10) la (IX_a (c := 12) (k := 31) (IX_a (c := 12) (k := 29) (IX_a (c := 12) (k := 28) (IX_a (c := 12) (k := 30) (IX_a (c := 12) (k := 26) (IX_i (c := 12) (k := 38) (IX_i (c := 12) (k := 37) (IX_i (c := 12) (k := 36) (IX_i (c := 12) (k := 35) (IX_i (c := 12) (k := 34) hI (show inb (0, 200) n17 from ⟨by omega, by omega⟩)) (show inb (0, 5) n12 from ⟨by omega, by omega⟩)) (full_i _)) (show inb (0, 200) n14 from ⟨by omega, by omega⟩)) (show inb (0, 200) n15 from ⟨by omega, by omega⟩)) hf1) hn9) hn7) hn8) hn10) 1 n17 ⟨by decide, by decide⟩) (kV 3 ht m_1472 m_1474 m_50 m_89 m_1475 rfl rfl hd_X12_want_v ⟨Nat.le_of_ble_eq_true rfl, Nat.le_of_ble_eq_true rfl⟩) (vW hP hK hD (rM_12 hK hP)) rfl rfl hl.1 rfl (lv_room (Nat.le_of_ble_eq_true rfl)) dX12_readClause_279 ⟨Nat.le_of_ble_eq_true rfl, Nat.le_of_ble_eq_true rfl⟩) hS (fun q _ h => hFc q h) hFc (fun r19 u t H1 locs ht9 hvm hr19 hB hz1 hk1 hS => ?_)
          obtain ⟨n20, n21, hn20, xr19_0, hr19, rfl⟩ := hr19
          have hn20 : 0 ≤ n20.toInt ∧ n20.toInt ≤ 5 := hn20
          obtain ⟨hP, hD⟩ := hB
          rw [ht9] at hP
          generalize H1 = H at hP hS ⊢
          have hP : va_P (dC, dI) classes (WM h g ca (u2 (u2 (u2 (u2 (u2 iv 12 34 n17) 12 35 n20) 12 36 n21) 12 37 n14) 12 38 n15) lv (u2 (u2 (u2 (u2 (u2 fa 12 26 f1) 12 30 n9) 12 28 n7) 12 29 n8) 12 31 n10) la) H := hP
          have hD : va_D A (WM h g ca (u2 (u2 (u2 (u2 (u2 iv 12 34 n17) 12 35 n20) 12 36 n21) 12 37 n14) 12 38 n15) lv (u2 (u2 (u2 (u2 (u2 fa 12 26 f1) 12 30 n9) 12 28 n7) 12 29 n8) 12 31 n10) la) := (show va_D _ (WM h g ca (u2 (u2 (u2 (u2 (u2 iv 12 34 n17) 12 35 n20) 12 36 n21) 12 37 n14) 12 38 n15) lv (u2 (u2 (u2 (u2 (u2 fa 12 26 f1) 12 30 n9) 12 28 n7) 12 29 n8) 12 31 n10) la) from hD).weaken (fun _ _ _ h => hFc _ h)
          have xr19_0 : 1 ≤ (n20 : Int32).toInt := xr19_0
          obtain rfl : 0 = r19 := hr19.symm
          refine lv_if_eq (tgt := 295) hx hb dX12_readClause_282 (by decide) (fun c22 => ?_) (fun c22 => ?_)
          · skip
            have hP9 : va_P (dC, dI) classes (WM h g ca (u2 (u2 (u2 (u2 (u2 iv 12 34 n17) 12 35 n20) 12 36 n21) 12 37 n14) 12 38 n15) lv (u2 (u2 (u2 (u2 (u2 fa 12 26 f1) 12 28 n7) 12 29 n8) 12 30 n9) 12 31 n10) la) H := hP
            have hD9 : va_D A (WM h g ca (u2 (u2 (u2 (u2 (u2 iv 12 34 n17) 12 35 n20) 12 36 n21) 12 37 n14) 12 38 n15) lv (u2 (u2 (u2 (u2 (u2 fa 12 26 f1) 12 28 n7) 12 29 n8) 12 30 n9) 12 31 n10) la) := hD
            exact W.vret hx hb hr (fun t ht9 hW => ⟨⟨((u2 (u2 (u2 (u2 (u2 iv 12 34 n17) 12 35 n20) 12 36 n21) 12 37 n14) 12 38 n15), lv, (u2 (u2 (u2 (u2 (u2 fa 12 26 f1) 12 28 n7) 12 29 n8) 12 30 n9) 12 31 n10), la), rfl, ⟨f1, n7, n8, n9, n10, n17, n20, n21, n14, n15, hn9, (show inb (0, 200) n17 from ⟨by omega, by omega⟩), (show inb (0, 5) n20 from ⟨by omega, by omega⟩), (show inb (0, 200) n14 from ⟨by omega, by omega⟩), (show inb (0, 200) n15 from ⟨by omega, by omega⟩), (show (iv 12 34).toInt ≤ (n17 : Int32).toInt from by omega), (show ∀ j : Nat, j ≠ k.toNatClampNeg → f1 j = (fa 12 26) j ∧ (fa 12 27) j = (fa 12 27) j ∧ n7 j = (fa 12 28) j from fun j hj => ⟨(by rw [ef1, upd_ne hj]), rfl, (xr6_1 j hj)⟩), (show ((n20 : Int32).toInt ≠ 0 ∨ gd3 (f1 k.toNatClampNeg) ((fa 12 27) k.toNatClampNeg) (n7 k.toNatClampNeg)) from (by
            have kc : (2 : Int32).toInt = 2 := by decide
            have kE : f1 k.toNatClampNeg = 2 := by rw [ef1]; exact upd_eq
            by_cases h0 : (n20 : Int32).toInt = 0
            · refine Or.inr ?_; rw [kE]; unfold gd3; exact ⟨fun h => by omega, fun h h2 => by omega⟩
            · exact Or.inl h0)), rfl⟩, by rw [ht9]; exact hP9, hD9⟩, hS.F ht9⟩) hS.2.2 dX12_readClause_295
          · exact absurd rfl c22
        · have fc18 := z_eq (rfl : (r16).toInt = _) (by decide : (59 : Int32).toInt = 59) c18
          refine lv_iconst (v := 1) hx hb dX12_readClause_269 (by decide) ?_
          refine lv_goto (tgt := 274) hx hb dX12_readClause_270 (by decide) ?_
          refine lv_iconst (v := 1) hx hb dX12_readClause_274 (by decide) ?_
          refine lv_aload_n hx hb dX12_readClause_275 rfl (lv_at hl 1 rfl) ?_
          refine gM_12_34 hx hb ht hown hK hP m_1173 (v := n17) rfl dX12_readClause_276 ?_
          refine vp_callSi (W.runV (As := [.int 1, .int 1, .int n17]) (rest := []) ⟨hx, hb, hml, hown, ht⟩ (c_X12_want_1 l dC dI h g ca (u2 (u2 (u2 (u2 (u2 iv 12 34 n17) 12 35 n12) 12 36 n13) 12 37 n14) 12 38 n15) lv (u2 (u2 (u2 (u2 (u2 fa 12 26 f1) 12 30 n9) 12 28 n7) 12 29 n8) 12 31 n10) la (IX_a (c := 12) (k := 31) (IX_a (c := 12) (k := 29) (IX_a (c := 12) (k := 28) (IX_a (c := 12) (k := 30) (IX_a (c := 12) (k := 26) (IX_i (c := 12) (k := 38) (IX_i (c := 12) (k := 37) (IX_i (c := 12) (k := 36) (IX_i (c := 12) (k := 35) (IX_i (c := 12) (k := 34) hI (show inb (0, 200) n17 from ⟨by omega, by omega⟩)) (show inb (0, 5) n12 from ⟨by omega, by omega⟩)) (full_i _)) (show inb (0, 200) n14 from ⟨by omega, by omega⟩)) (show inb (0, 200) n15 from ⟨by omega, by omega⟩)) hf1) hn9) hn7) hn8) hn10) 1 n17) (kV 3 ht m_1472 m_1474 m_50 m_89 m_1475 rfl rfl hd_X12_want_v ⟨Nat.le_of_ble_eq_true rfl, Nat.le_of_ble_eq_true rfl⟩) (vR hP hK (rM_12 hK hP)) rfl rfl hl.1 rfl (lv_room (Nat.le_of_ble_eq_true rfl)) dX12_readClause_279 ⟨Nat.le_of_ble_eq_true rfl, Nat.le_of_ble_eq_true rfl⟩) (fun r23 hr23 => ?_)
          rcases hr23 with ⟨rfl, fr23⟩ | ⟨rfl, fr23⟩
          · skip
            have fr23 : ((n12 : Int32).toInt = 0) := fr23
            refine lv_if_eq (tgt := 295) hx hb dX12_readClause_282 (by decide) (fun c24 => ?_) (fun c24 => ?_)
            · exact absurd c24 (by decide)
            · skip
              refine lv_aload_n hx hb dX12_readClause_285 rfl (lv_at hl 1 rfl) ?_
              refine lv_dup hx hb dX12_readClause_286 rfl ?_
              refine gM_12_34 hx hb ht hown hK hP m_1173 (v := n17) rfl dX12_readClause_287 ?_
              refine lv_iconst (v := 1) hx hb dX12_readClause_290 (by decide) ?_
              refine lv_iadd hx hb dX12_readClause_291 ?_
              refine lv_topi (fun v25 ev25 => ?_)
              have tv25 := z_add ev25 (rfl : (n17).toInt = _) (by decide : (1 : Int32).toInt = 1) (by omega) (by omega)
              have : 0 ≤ (v25 : Int32).toInt ∧ (v25 : Int32).toInt ≤ 200 := ⟨by omega, by omega⟩
              refine pM_12_34 (v := v25) hx hb ht hown hK hP hD hS m_1173 dX12_readClause_292 (fun H locs hP hD hS => ?_)
              have hP : va_P (dC, dI) classes (WM h g ca (u2 (u2 (u2 (u2 (u2 iv 12 34 v25) 12 35 n12) 12 36 n13) 12 37 n14) 12 38 n15) lv (u2 (u2 (u2 (u2 (u2 fa 12 26 f1) 12 30 n9) 12 28 n7) 12 29 n8) 12 31 n10) la) H := hP
              have hD : va_D A (WM h g ca (u2 (u2 (u2 (u2 (u2 iv 12 34 v25) 12 35 n12) 12 36 n13) 12 37 n14) 12 38 n15) lv (u2 (u2 (u2 (u2 (u2 fa 12 26 f1) 12 30 n9) 12 28 n7) 12 29 n8) 12 31 n10) la) := hD
              have hP9 : va_P (dC, dI) classes (WM h g ca (u2 (u2 (u2 (u2 (u2 iv 12 34 v25) 12 35 n12) 12 36 n13) 12 37 n14) 12 38 n15) lv (u2 (u2 (u2 (u2 (u2 fa 12 26 f1) 12 28 n7) 12 29 n8) 12 30 n9) 12 31 n10) la) H := hP
              have hD9 : va_D A (WM h g ca (u2 (u2 (u2 (u2 (u2 iv 12 34 v25) 12 35 n12) 12 36 n13) 12 37 n14) 12 38 n15) lv (u2 (u2 (u2 (u2 (u2 fa 12 26 f1) 12 28 n7) 12 29 n8) 12 30 n9) 12 31 n10) la) := hD
              exact W.vret hx hb hr (fun t ht9 hW => ⟨⟨((u2 (u2 (u2 (u2 (u2 iv 12 34 v25) 12 35 n12) 12 36 n13) 12 37 n14) 12 38 n15), lv, (u2 (u2 (u2 (u2 (u2 fa 12 26 f1) 12 28 n7) 12 29 n8) 12 30 n9) 12 31 n10), la), rfl, ⟨f1, n7, n8, n9, n10, v25, n12, n13, n14, n15, hn9, (show inb (0, 200) v25 from ⟨by omega, by omega⟩), (show inb (0, 5) n12 from ⟨by omega, by omega⟩), (show inb (0, 200) n14 from ⟨by omega, by omega⟩), (show inb (0, 200) n15 from ⟨by omega, by omega⟩), (show (iv 12 34).toInt ≤ (v25 : Int32).toInt from by omega), (show ∀ j : Nat, j ≠ k.toNatClampNeg → f1 j = (fa 12 26) j ∧ (fa 12 27) j = (fa 12 27) j ∧ n7 j = (fa 12 28) j from fun j hj => ⟨(by rw [ef1, upd_ne hj]), rfl, (xr6_1 j hj)⟩), (show ((n12 : Int32).toInt ≠ 0 ∨ gd3 (f1 k.toNatClampNeg) ((fa 12 27) k.toNatClampNeg) (n7 k.toNatClampNeg)) from (by
            have kc : (2 : Int32).toInt = 2 := by decide
            have kE : f1 k.toNatClampNeg = 2 := by rw [ef1]; exact upd_eq
            by_cases h0 : (n12 : Int32).toInt = 0
            · refine Or.inr ?_; rw [kE]; unfold gd3; exact ⟨fun h => by omega, fun h h2 => by omega⟩
            · exact Or.inl h0)), rfl⟩, by rw [ht9]; exact hP9, hD9⟩, hS.F ht9⟩) hS.2.2 dX12_readClause_295
          · skip
            have fr23 : ¬ ((n12 : Int32).toInt = 0) := fr23
            refine lv_if_eq (tgt := 295) hx hb dX12_readClause_282 (by decide) (fun c26 => ?_) (fun c26 => ?_)
            · skip
              have hP9 : va_P (dC, dI) classes (WM h g ca (u2 (u2 (u2 (u2 (u2 iv 12 34 n17) 12 35 n12) 12 36 n13) 12 37 n14) 12 38 n15) lv (u2 (u2 (u2 (u2 (u2 fa 12 26 f1) 12 28 n7) 12 29 n8) 12 30 n9) 12 31 n10) la) H := hP
              have hD9 : va_D A (WM h g ca (u2 (u2 (u2 (u2 (u2 iv 12 34 n17) 12 35 n12) 12 36 n13) 12 37 n14) 12 38 n15) lv (u2 (u2 (u2 (u2 (u2 fa 12 26 f1) 12 28 n7) 12 29 n8) 12 30 n9) 12 31 n10) la) := hD
              exact W.vret hx hb hr (fun t ht9 hW => ⟨⟨((u2 (u2 (u2 (u2 (u2 iv 12 34 n17) 12 35 n12) 12 36 n13) 12 37 n14) 12 38 n15), lv, (u2 (u2 (u2 (u2 (u2 fa 12 26 f1) 12 28 n7) 12 29 n8) 12 30 n9) 12 31 n10), la), rfl, ⟨f1, n7, n8, n9, n10, n17, n12, n13, n14, n15, hn9, (show inb (0, 200) n17 from ⟨by omega, by omega⟩), (show inb (0, 5) n12 from ⟨by omega, by omega⟩), (show inb (0, 200) n14 from ⟨by omega, by omega⟩), (show inb (0, 200) n15 from ⟨by omega, by omega⟩), (show (iv 12 34).toInt ≤ (n17 : Int32).toInt from by omega), (show ∀ j : Nat, j ≠ k.toNatClampNeg → f1 j = (fa 12 26) j ∧ (fa 12 27) j = (fa 12 27) j ∧ n7 j = (fa 12 28) j from fun j hj => ⟨(by rw [ef1, upd_ne hj]), rfl, (xr6_1 j hj)⟩), (show ((n12 : Int32).toInt ≠ 0 ∨ gd3 (f1 k.toNatClampNeg) ((fa 12 27) k.toNatClampNeg) (n7 k.toNatClampNeg)) from Or.inl (by omega)), rfl⟩, by rw [ht9]; exact hP9, hD9⟩, hS.F ht9⟩) hS.2.2 dX12_readClause_295
            · exact absurd rfl c26
      · exact absurd c5 (by decide)
    · exact absurd c4 (by decide)
  · exact absurd c3 (by decide)
set_option maxHeartbeats 4000000 in
set_option maxRecDepth 100000 in
/-- X12_readClause -/
theorem c_X12_readClause_3 (l : Launch) (dC : Nat → ClassId) (dI : Nat → Nat → Nat) (sz : Nat) (h : Nat) (g : Nat → Nat → Nat) (ca : Nat → Nat → ClassId) (iv : Nat → Nat → Int32) (lv : Nat → Nat → Int64) (fa : Nat → Nat → Nat → Int32) (la : Nat → Nat → Nat → Int64) (hI : IX iv fa) (k : Int32) (h_k : 0 ≤ k.toInt ∧ k.toInt ≤ 95) : Met l yX12_readClause (wc yX12_readClause cX12_readClause 4 none) ({ frames := 2, cells := 0, slots := 0, locals := 50 } : Room) (pW (dC, dI) classes (WM h g ca iv lv fa la) (TM ca) sz [.ref h, .int 3, .int k]) (va_Qv (fun (u : SS) => ∃ (na_12_26 : Nat → Int32) (na_12_28 : Nat → Int32) (na_12_30 : Nat → Int32) (ni_12_34 : Int32) (ni_12_35 : Int32) (ni_12_36 : Int32) (ni_12_37 : Int32), (∀ j, inb (bA 12 30 j) (na_12_30 j)) ∧ inb (bI 12 34) ni_12_34 ∧ inb (bI 12 35) ni_12_35 ∧ inb (bI 12 37) ni_12_37 ∧ ((iv 12 34).toInt ≤ (ni_12_34).toInt) ∧ (∀ j : Nat, j ≠ k.toNatClampNeg → na_12_26 j = (fa 12 26) j ∧ (fa 12 27) j = (fa 12 27) j ∧ na_12_28 j = (fa 12 28) j) ∧ (((ni_12_35).toInt ≠ 0 ∨ gd3 (na_12_26 k.toNatClampNeg) ((fa 12 27) k.toNatClampNeg) (na_12_28 k.toNatClampNeg))) ∧ u = ((u2 (u2 (u2 (u2 iv 12 34 ni_12_34) 12 35 ni_12_35) 12 36 ni_12_36) 12 37 ni_12_37), lv, (u2 (u2 (u2 fa 12 26 na_12_26) 12 28 na_12_28) 12 30 na_12_30), la)) (bM (dC, dI) h g ca (va_A (WM h g ca iv lv fa la) sz)) (va_A (WM h g ca iv lv fa la) sz)) 0 0 (va_A (WM h g ca iv lv fa la) sz) := by
  refine Met.ofW (cc := cX12_readClause) (maxL := 4) (ret := none) (by decide) rfl ?_
  intro p e s m args below meth c s₁ B hml hv
  obtain ⟨rfl, hsz, hP, hK, hD0⟩ := hv
  have hx := B.exec
  have hb := B.bytes
  have hr := B.returns
  have ht := tb_tl (atoms_spec (ws := wc yX12_readClause cX12_readClause 4 none) B.pre)
  have hown : s.vm.findClass RX12 = some m.cls := findClass_of_methodNamed B.named
  have hlocks := B.notSynchronized
  subst hsz
  have hD := hD0.self (sz := s.heap.size)
  generalize hAe : va_A (WM h g ca iv lv fa la) s.heap.size = A at hD ⊢
  have hA : ∀ q : Nat, s.heap.size ≤ q → A q := fun q h => by rw [← hAe]; exact Or.inr h
  have hS : va_S A s.heap s.heap [] := va_S.rf
  have hl := lv_entry [.ref h, .int 3, .int k] (n := 4) (Nat.le_of_ble_eq_true rfl)
  rw [lg_entry_eq]
  generalize (lg_sl [.ref h, .int 3, .int k] ++ List.replicate (4 - (lg_sl [.ref h, .int 3, .int k]).length) Slot.unset).toArray = ls at hl ⊢
  have hl : lv_has ls 4 [(0, .ref h), (1, .int 3), (2, .int k)] := hl
  refine lv_aload_n hx hb dX12_readClause_0 rfl (lv_at hl 0 rfl) ?_
  refine gM_12_26 hx hb ht hown hK hP m_1165 dX12_readClause_1 ?_
  refine lv_iload_n hx hb dX12_readClause_4 rfl (lv_at hl 2 rfl) ?_
  refine lv_iload_n hx hb dX12_readClause_5 rfl (lv_at hl 1 rfl) ?_
  refine tM_12_26 hx hb hK hP hD hS (f0 := (fa 12 26)) rfl (i := k) (x := 3) (vp_in_iff.mpr ⟨by omega, by omega⟩) dX12_readClause_6 (fun f1 ef1 H locs hP hD hS => ?_)
  have hf1 : ∀ j, inb (bA 12 26 j) (f1 j) := fun j => full_i _
  refine lv_aload_n hx hb dX12_readClause_7 rfl (lv_at hl 0 rfl) ?_
  refine gM_12_30 hx hb ht hown hK hP m_1169 dX12_readClause_8 ?_
  refine lv_iload_n hx hb dX12_readClause_11 rfl (lv_at hl 2 rfl) ?_
  refine lv_iconst (v := 0) hx hb dX12_readClause_12 (by decide) ?_
  refine tM_12_30 hx hb hK hP hD hS (f0 := (fa 12 30)) rfl (i := k) (x := 0) (vp_in_iff.mpr ⟨by omega, by omega⟩) dX12_readClause_13 (fun f2 ef2 H locs hP hD hS => ?_)
  have hf2 : ∀ j, inb (bA 12 30 j) (f2 j) := by rw [ef2]; exact upd_b (b := bA 12 30) (hI.2 12 30) (show inb (0, 8) 0 from ⟨by decide, by decide⟩)
  refine lv_iload_n hx hb dX12_readClause_14 rfl (lv_at hl 1 rfl) ?_
  refine lv_if_ne (tgt := 89) hx hb dX12_readClause_15 (by decide) (fun c3 => ?_) (fun c3 => ?_)
  · skip
    refine lv_iload_n hx hb dX12_readClause_89 rfl (lv_at hl 1 rfl) ?_
    refine lv_iconst (v := 1) hx hb dX12_readClause_90 (by decide) ?_
    refine lv_icmp_ne (tgt := 202) hx hb dX12_readClause_91 (by decide) (fun c4 => ?_) (fun c4 => ?_)
    · skip
      refine lv_iload_n hx hb dX12_readClause_202 rfl (lv_at hl 1 rfl) ?_
      refine lv_iconst (v := 3) hx hb dX12_readClause_203 (by decide) ?_
      refine lv_icmp_ne (tgt := 252) hx hb dX12_readClause_204 (by decide) (fun c5 => ?_) (fun c5 => ?_)
      · exact absurd rfl c5
      · skip
        refine lv_aload_n hx hb dX12_readClause_207 rfl (lv_at hl 0 rfl) ?_
        refine gM_12_28 hx hb ht hown hK hP m_1167 dX12_readClause_208 ?_
        refine lv_iload_n hx hb dX12_readClause_211 rfl (lv_at hl 2 rfl) ?_
        refine lv_aload_n hx hb dX12_readClause_212 rfl (lv_at hl 0 rfl) ?_
        refine lv_iconst (v := 0) hx hb dX12_readClause_213 (by decide) ?_
        refine lv_sipush (v := 9999) hx hb dX12_readClause_214 (by decide) ?_
        have i_12_34 : 0 ≤ (iv 12 34).toInt ∧ (iv 12 34).toInt ≤ 200 := hI.1 12 34
        have hFc := free_all hD hS hA
        refine va_calli (va_runV (As := [.int 0, .int 9999]) (rest := [.int k, .ref (g 12 28)]) ⟨hx, hb, hml, hown, ht⟩ (c_X12_takeNumber l dC dI H.size h g ca iv lv (u2 (u2 fa 12 26 f1) 12 30 f2) la (IX_a (c := 12) (k := 30) (IX_a (c := 12) (k := 26) hI hf1) hf2) 0 9999) (kV 2 ht m_1490 m_1492 m_53 m_89 m_1493 rfl rfl hd_X12_takeNumber_v ⟨Nat.le_of_ble_eq_true rfl, Nat.le_of_ble_eq_true rfl⟩) (vW hP hK hD (rM_12 hK hP)) rfl rfl hl.1 rfl (lv_room (Nat.le_of_ble_eq_true rfl)) dX12_readClause_217 ⟨Nat.le_of_ble_eq_true rfl, Nat.le_of_ble_eq_true rfl⟩) hS (fun q _ h => hFc q h) hFc (fun r6 u t H1 locs ht9 hvm hr6 hB hz1 hk1 hS => ?_)
        obtain ⟨n7, n8, n9, n10, hn7, hn8, hn10, xr6_0, xr6_1, hr6, rfl⟩ := hr6
        have hn7 : 0 ≤ n7.toInt ∧ n7.toInt ≤ 200 := hn7
        have hn8 : 0 ≤ n8.toInt ∧ n8.toInt ≤ 5 := hn8
        have hn10 : 0 ≤ n10.toInt ∧ n10.toInt ≤ 200 := hn10
        obtain ⟨hP, hD⟩ := hB
        rw [ht9] at hP
        generalize H1 = H at hP hS ⊢
        have hP : va_P (dC, dI) classes (WM h g ca (u2 (u2 (u2 (u2 iv 12 34 n7) 12 35 n8) 12 36 n9) 12 37 n10) lv (u2 (u2 fa 12 26 f1) 12 30 f2) la) H := hP
        have hD : va_D A (WM h g ca (u2 (u2 (u2 (u2 iv 12 34 n7) 12 35 n8) 12 36 n9) 12 37 n10) lv (u2 (u2 fa 12 26 f1) 12 30 f2) la) := (show va_D _ (WM h g ca (u2 (u2 (u2 (u2 iv 12 34 n7) 12 35 n8) 12 36 n9) 12 37 n10) lv (u2 (u2 fa 12 26 f1) 12 30 f2) la) from hD).weaken (fun _ _ _ h => hFc _ h)
        have xr6_0 : ((iv 12 34) : Int32).toInt ≤ (n7 : Int32).toInt := xr6_0
        have : (0 : Int32).toInt = 0 := (by decide)
        have : (9999 : Int32).toInt = 9999 := (by decide)
        have xr6_1 : ((n8 : Int32).toInt ≠ 0 ∨ ((0 : Int32).toInt ≤ (r6 : Int32).toInt ∧ (r6 : Int32).toInt ≤ (9999 : Int32).toInt)) := xr6_1
        refine tM_12_28 hx hb hK hP hD hS (f0 := (fa 12 28)) rfl (i := k) (x := r6) (vp_in_iff.mpr ⟨by omega, by omega⟩) dX12_readClause_220 (fun f11 ef11 H locs hP hD hS => ?_)
        have hf11 : ∀ j, inb (bA 12 28 j) (f11 j) := fun j => full_i _
        refine lv_aload_n hx hb dX12_readClause_221 rfl (lv_at hl 0 rfl) ?_
        refine lv_aload_n hx hb dX12_readClause_222 rfl (lv_at hl 0 rfl) ?_
        refine gM_12_28 hx hb ht hown hK hP m_1167 dX12_readClause_223 ?_
        refine lv_iload_n hx hb dX12_readClause_226 rfl (lv_at hl 2 rfl) ?_
        refine lM_12_28 hx hb hK hP (f := f11) rfl (vp_in_iff.mpr ⟨by omega, by omega⟩) dX12_readClause_227 ?_
        refine lv_topi (fun v12 ev12 => ?_)
        refine lv_aload_n hx hb dX12_readClause_228 rfl (lv_at hl 0 rfl) ?_
        have i_12_23 : 0 ≤ (iv 12 23).toInt ∧ (iv 12 23).toInt ≤ 8 := hI.1 12 23
        refine gM_12_23 hx hb ht hown hK hP m_1162 (v := (iv 12 23)) rfl dX12_readClause_229 ?_
        refine lv_icmp_ge (tgt := 239) hx hb dX12_readClause_232 (by decide) (fun c13 => ?_) (fun c13 => ?_)
        · have fc13 := z_le (rfl : ((iv 12 23)).toInt = _) (rfl : (v12).toInt = _) c13
          refine lv_iconst (v := 0) hx hb dX12_readClause_239 (by decide) ?_
          refine lv_iconst (v := 3) hx hb dX12_readClause_240 (by decide) ?_
          refine lv_aload_n hx hb dX12_readClause_241 rfl (lv_at hl 0 rfl) ?_
          refine gM_12_37 hx hb ht hown hK hP m_1176 (v := n10) rfl dX12_readClause_242 ?_
          have hFc := free_all hD hS hA
          refine va_calli (va_runV (As := [.int 0, .int 3, .int n10]) (rest := []) ⟨hx, hb, hml, hown, ht⟩ (c_X12_want_0 l dC dI H.size h g ca (u2 (u2 (u2 (u2 iv 12 34 n7) 12 35 n8) 12 36 n9) 12 37 n10) lv (u2 (u2 (u2 fa 12 26 f1) 12 30 f2) 12 28 f11) la (IX_a (c := 12) (k := 28) (IX_a (c := 12) (k := 30) (IX_a (c := 12) (k := 26) (IX_i (c := 12) (k := 37) (IX_i (c := 12) (k := 36) (IX_i (c := 12) (k := 35) (IX_i (c := 12) (k := 34) hI (show inb (0, 200) n7 from ⟨by omega, by omega⟩)) (show inb (0, 5) n8 from ⟨by omega, by omega⟩)) (full_i _)) (show inb (0, 200) n10 from ⟨by omega, by omega⟩)) hf1) hf2) hf11) 3 n10 ⟨by decide, by decide⟩) (kV 3 ht m_1472 m_1474 m_50 m_89 m_1475 rfl rfl hd_X12_want_v ⟨Nat.le_of_ble_eq_true rfl, Nat.le_of_ble_eq_true rfl⟩) (vW hP hK hD (rM_12 hK hP)) rfl rfl hl.1 rfl (lv_room (Nat.le_of_ble_eq_true rfl)) dX12_readClause_245 ⟨Nat.le_of_ble_eq_true rfl, Nat.le_of_ble_eq_true rfl⟩) hS (fun q _ h => hFc q h) hFc (fun r14 u t H1 locs ht9 hvm hr14 hB hz1 hk1 hS => ?_)
          obtain ⟨n15, n16, hn15, xr14_0, hr14, rfl⟩ := hr14
          have hn15 : 0 ≤ n15.toInt ∧ n15.toInt ≤ 5 := hn15
          obtain ⟨hP, hD⟩ := hB
          rw [ht9] at hP
          generalize H1 = H at hP hS ⊢
          have hP : va_P (dC, dI) classes (WM h g ca (u2 (u2 (u2 (u2 iv 12 34 n7) 12 35 n15) 12 36 n16) 12 37 n10) lv (u2 (u2 (u2 fa 12 26 f1) 12 30 f2) 12 28 f11) la) H := hP
          have hD : va_D A (WM h g ca (u2 (u2 (u2 (u2 iv 12 34 n7) 12 35 n15) 12 36 n16) 12 37 n10) lv (u2 (u2 (u2 fa 12 26 f1) 12 30 f2) 12 28 f11) la) := (show va_D _ (WM h g ca (u2 (u2 (u2 (u2 iv 12 34 n7) 12 35 n15) 12 36 n16) 12 37 n10) lv (u2 (u2 (u2 fa 12 26 f1) 12 30 f2) 12 28 f11) la) from hD).weaken (fun _ _ _ h => hFc _ h)
          have xr14_0 : 1 ≤ (n15 : Int32).toInt := xr14_0
          obtain rfl : 0 = r14 := hr14.symm
          refine lv_istore_n (lv' := [(3, .int 0), (0, .ref h), (1, .int 3), (2, .int k)]) hx hb dX12_readClause_248 rfl hl (by decide) rfl (fun ls hl => ?_)
          refine lv_goto (tgt := 257) hx hb dX12_readClause_249 (by decide) ?_
          refine lv_aload_n hx hb dX12_readClause_257 rfl (lv_at hl 1 rfl) ?_
          have hFc := free_all hD hS hA
          refine va_calli (va_runV (As := []) (rest := []) ⟨hx, hb, hml, hown, ht⟩ (c_X12_here_x l dC dI H.size h g ca (u2 (u2 (u2 (u2 iv 12 34 n7) 12 35 n15) 12 36 n16) 12 37 n10) lv (u2 (u2 (u2 fa 12 26 f1) 12 30 f2) 12 28 f11) la (IX_a (c := 12) (k := 28) (IX_a (c := 12) (k := 30) (IX_a (c := 12) (k := 26) (IX_i (c := 12) (k := 37) (IX_i (c := 12) (k := 36) (IX_i (c := 12) (k := 35) (IX_i (c := 12) (k := 34) hI (show inb (0, 200) n7 from ⟨by omega, by omega⟩)) (show inb (0, 5) n15 from ⟨by omega, by omega⟩)) (full_i _)) (show inb (0, 200) n10 from ⟨by omega, by omega⟩)) hf1) hf2) hf11)) (kV 0 ht m_1458 m_1460 m_47 m_89 m_1461 rfl rfl hd_X12_here_v ⟨Nat.le_of_ble_eq_true rfl, Nat.le_of_ble_eq_true rfl⟩) (vW hP hK hD (rM_12 hK hP)) rfl rfl hl.1 rfl (lv_room (Nat.le_of_ble_eq_true rfl)) dX12_readClause_258 ⟨Nat.le_of_ble_eq_true rfl, Nat.le_of_ble_eq_true rfl⟩) hS (fun q _ h => hFc q h) hFc (fun r17 u t H1 locs ht9 hvm hr17 hB hz1 hk1 hS => ?_)
          obtain ⟨n18, hn18, xr17_0, xr17_1, hr17, rfl⟩ := hr17
          have hn18 : 0 ≤ n18.toInt ∧ n18.toInt ≤ 200 := hn18
          obtain ⟨hP, hD⟩ := hB
          rw [ht9] at hP
          generalize H1 = H at hP hS ⊢
          have hP : va_P (dC, dI) classes (WM h g ca (u2 (u2 (u2 (u2 iv 12 34 n18) 12 35 n15) 12 36 n16) 12 37 n10) lv (u2 (u2 (u2 fa 12 26 f1) 12 30 f2) 12 28 f11) la) H := hP
          have hD : va_D A (WM h g ca (u2 (u2 (u2 (u2 iv 12 34 n18) 12 35 n15) 12 36 n16) 12 37 n10) lv (u2 (u2 (u2 fa 12 26 f1) 12 30 f2) 12 28 f11) la) := (show va_D _ (WM h g ca (u2 (u2 (u2 (u2 iv 12 34 n18) 12 35 n15) 12 36 n16) 12 37 n10) lv (u2 (u2 (u2 fa 12 26 f1) 12 30 f2) 12 28 f11) la) from hD).weaken (fun _ _ _ h => hFc _ h)
          have xr17_0 : (n7 : Int32).toInt ≤ (n18 : Int32).toInt := xr17_0
          have i_12_33 : 0 ≤ (iv 12 33).toInt ∧ (iv 12 33).toInt ≤ 200 := hI.1 12 33
          have xr17_1 : ((r17 : Int32).toInt = -1 ∨ (n18 : Int32).toInt + 1 ≤ ((iv 12 33) : Int32).toInt) := xr17_1
          refine lv_istore_n (lv' := [(3, .int r17), (0, .ref h), (1, .int 3), (2, .int k)]) hx hb dX12_readClause_261 rfl hl (by decide) rfl (fun ls hl => ?_)
          refine lv_aload_n hx hb dX12_readClause_262 rfl (lv_at hl 1 rfl) ?_
          refine lv_iload_n hx hb dX12_readClause_263 rfl (lv_at hl 0 rfl) ?_
          refine lv_bipush (v := 59) hx hb dX12_readClause_264 (by decide) ?_
          refine lv_icmp_ne (tgt := 273) hx hb dX12_readClause_266 (by decide) (fun c19 => ?_) (fun c19 => ?_)
          · have fc19 := z_ne (rfl : (r17).toInt = _) (by decide : (59 : Int32).toInt = 59) c19
            refine lv_iconst (v := 0) hx hb dX12_readClause_273 (by decide) ?_
            refine lv_iconst (v := 1) hx hb dX12_readClause_274 (by decide) ?_
            refine lv_aload_n hx hb dX12_readClause_275 rfl (lv_at hl 1 rfl) ?_
            refine gM_12_34 hx hb ht hown hK hP m_1173 (v := n18) rfl dX12_readClause_276 ?_
            have hFc := free_all hD hS hA
            refine va_calli (va_runV (As := [.int 0, .int 1, .int n18]) (rest := []) ⟨hx, hb, hml, hown, ht⟩ (c_X12_want_0 l dC dI H.size h g ca (u2 (u2 (u2 (u2 iv 12 34 n18) 12 35 n15) 12 36 n16) 12 37 n10) lv (u2 (u2 (u2 fa 12 26 f1) 12 30 f2) 12 28 f11) la (IX_a (c := 12) (k := 28) (IX_a (c := 12) (k := 30) (IX_a (c := 12) (k := 26) (IX_i (c := 12) (k := 37) (IX_i (c := 12) (k := 36) (IX_i (c := 12) (k := 35) (IX_i (c := 12) (k := 34) hI (show inb (0, 200) n18 from ⟨by omega, by omega⟩)) (show inb (0, 5) n15 from ⟨by omega, by omega⟩)) (full_i _)) (show inb (0, 200) n10 from ⟨by omega, by omega⟩)) hf1) hf2) hf11) 1 n18 ⟨by decide, by decide⟩) (kV 3 ht m_1472 m_1474 m_50 m_89 m_1475 rfl rfl hd_X12_want_v ⟨Nat.le_of_ble_eq_true rfl, Nat.le_of_ble_eq_true rfl⟩) (vW hP hK hD (rM_12 hK hP)) rfl rfl hl.1 rfl (lv_room (Nat.le_of_ble_eq_true rfl)) dX12_readClause_279 ⟨Nat.le_of_ble_eq_true rfl, Nat.le_of_ble_eq_true rfl⟩) hS (fun q _ h => hFc q h) hFc (fun r20 u t H1 locs ht9 hvm hr20 hB hz1 hk1 hS => ?_)
            obtain ⟨n21, n22, hn21, xr20_0, hr20, rfl⟩ := hr20
            have hn21 : 0 ≤ n21.toInt ∧ n21.toInt ≤ 5 := hn21
            obtain ⟨hP, hD⟩ := hB
            rw [ht9] at hP
            generalize H1 = H at hP hS ⊢
            have hP : va_P (dC, dI) classes (WM h g ca (u2 (u2 (u2 (u2 iv 12 34 n18) 12 35 n21) 12 36 n22) 12 37 n10) lv (u2 (u2 (u2 fa 12 26 f1) 12 30 f2) 12 28 f11) la) H := hP
            have hD : va_D A (WM h g ca (u2 (u2 (u2 (u2 iv 12 34 n18) 12 35 n21) 12 36 n22) 12 37 n10) lv (u2 (u2 (u2 fa 12 26 f1) 12 30 f2) 12 28 f11) la) := (show va_D _ (WM h g ca (u2 (u2 (u2 (u2 iv 12 34 n18) 12 35 n21) 12 36 n22) 12 37 n10) lv (u2 (u2 (u2 fa 12 26 f1) 12 30 f2) 12 28 f11) la) from hD).weaken (fun _ _ _ h => hFc _ h)
            have xr20_0 : 1 ≤ (n21 : Int32).toInt := xr20_0
            obtain rfl : 0 = r20 := hr20.symm
            refine lv_if_eq (tgt := 295) hx hb dX12_readClause_282 (by decide) (fun c23 => ?_) (fun c23 => ?_)
            · skip
              have hP9 : va_P (dC, dI) classes (WM h g ca (u2 (u2 (u2 (u2 iv 12 34 n18) 12 35 n21) 12 36 n22) 12 37 n10) lv (u2 (u2 (u2 fa 12 26 f1) 12 28 f11) 12 30 f2) la) H := hP
              have hD9 : va_D A (WM h g ca (u2 (u2 (u2 (u2 iv 12 34 n18) 12 35 n21) 12 36 n22) 12 37 n10) lv (u2 (u2 (u2 fa 12 26 f1) 12 28 f11) 12 30 f2) la) := hD
              exact W.vret hx hb hr (fun t ht9 hW => ⟨⟨((u2 (u2 (u2 (u2 iv 12 34 n18) 12 35 n21) 12 36 n22) 12 37 n10), lv, (u2 (u2 (u2 fa 12 26 f1) 12 28 f11) 12 30 f2), la), rfl, ⟨f1, f11, f2, n18, n21, n22, n10, hf2, (show inb (0, 200) n18 from ⟨by omega, by omega⟩), (show inb (0, 5) n21 from ⟨by omega, by omega⟩), (show inb (0, 200) n10 from ⟨by omega, by omega⟩), (show (iv 12 34).toInt ≤ (n18 : Int32).toInt from by omega), (show ∀ j : Nat, j ≠ k.toNatClampNeg → f1 j = (fa 12 26) j ∧ (fa 12 27) j = (fa 12 27) j ∧ f11 j = (fa 12 28) j from fun j hj => ⟨(by rw [ef1, upd_ne hj]), rfl, (by rw [ef11, upd_ne hj])⟩), (show ((n21 : Int32).toInt ≠ 0 ∨ gd3 (f1 k.toNatClampNeg) ((fa 12 27) k.toNatClampNeg) (f11 k.toNatClampNeg)) from (by
            have kc : (3 : Int32).toInt = 3 := by decide
            have kE : f1 k.toNatClampNeg = 3 := by rw [ef1]; exact upd_eq
            have fE : f11 k.toNatClampNeg = r6 := by rw [ef11]; exact upd_eq
            have := congrArg Int32.toInt (ev12.trans fE)
            by_cases h0 : (n21 : Int32).toInt = 0
            · refine Or.inr ?_; rw [kE, fE]; unfold gd3; exact ⟨fun h => by omega, fun h h2 => by omega⟩
            · exact Or.inl h0)), rfl⟩, by rw [ht9]; exact hP9, hD9⟩, hS.F ht9⟩) hS.2.2 dX12_readClause_295
            · exact absurd rfl c23
          · have fc19 := z_eq (rfl : (r17).toInt = _) (by decide : (59 : Int32).toInt = 59) c19
            refine lv_iconst (v := 1) hx hb dX12_readClause_269 (by decide) ?_
            refine lv_goto (tgt := 274) hx hb dX12_readClause_270 (by decide) ?_
            refine lv_iconst (v := 1) hx hb dX12_readClause_274 (by decide) ?_
            refine lv_aload_n hx hb dX12_readClause_275 rfl (lv_at hl 1 rfl) ?_
            refine gM_12_34 hx hb ht hown hK hP m_1173 (v := n18) rfl dX12_readClause_276 ?_
            refine vp_callSi (W.runV (As := [.int 1, .int 1, .int n18]) (rest := []) ⟨hx, hb, hml, hown, ht⟩ (c_X12_want_1 l dC dI h g ca (u2 (u2 (u2 (u2 iv 12 34 n18) 12 35 n15) 12 36 n16) 12 37 n10) lv (u2 (u2 (u2 fa 12 26 f1) 12 30 f2) 12 28 f11) la (IX_a (c := 12) (k := 28) (IX_a (c := 12) (k := 30) (IX_a (c := 12) (k := 26) (IX_i (c := 12) (k := 37) (IX_i (c := 12) (k := 36) (IX_i (c := 12) (k := 35) (IX_i (c := 12) (k := 34) hI (show inb (0, 200) n18 from ⟨by omega, by omega⟩)) (show inb (0, 5) n15 from ⟨by omega, by omega⟩)) (full_i _)) (show inb (0, 200) n10 from ⟨by omega, by omega⟩)) hf1) hf2) hf11) 1 n18) (kV 3 ht m_1472 m_1474 m_50 m_89 m_1475 rfl rfl hd_X12_want_v ⟨Nat.le_of_ble_eq_true rfl, Nat.le_of_ble_eq_true rfl⟩) (vR hP hK (rM_12 hK hP)) rfl rfl hl.1 rfl (lv_room (Nat.le_of_ble_eq_true rfl)) dX12_readClause_279 ⟨Nat.le_of_ble_eq_true rfl, Nat.le_of_ble_eq_true rfl⟩) (fun r24 hr24 => ?_)
            rcases hr24 with ⟨rfl, fr24⟩ | ⟨rfl, fr24⟩
            · skip
              have fr24 : ((n15 : Int32).toInt = 0) := fr24
              refine lv_if_eq (tgt := 295) hx hb dX12_readClause_282 (by decide) (fun c25 => ?_) (fun c25 => ?_)
              · exact absurd c25 (by decide)
              · skip
                refine lv_aload_n hx hb dX12_readClause_285 rfl (lv_at hl 1 rfl) ?_
                refine lv_dup hx hb dX12_readClause_286 rfl ?_
                refine gM_12_34 hx hb ht hown hK hP m_1173 (v := n18) rfl dX12_readClause_287 ?_
                refine lv_iconst (v := 1) hx hb dX12_readClause_290 (by decide) ?_
                refine lv_iadd hx hb dX12_readClause_291 ?_
                refine lv_topi (fun v26 ev26 => ?_)
                have tv26 := z_add ev26 (rfl : (n18).toInt = _) (by decide : (1 : Int32).toInt = 1) (by omega) (by omega)
                have : 0 ≤ (v26 : Int32).toInt ∧ (v26 : Int32).toInt ≤ 200 := ⟨by omega, by omega⟩
                refine pM_12_34 (v := v26) hx hb ht hown hK hP hD hS m_1173 dX12_readClause_292 (fun H locs hP hD hS => ?_)
                have hP : va_P (dC, dI) classes (WM h g ca (u2 (u2 (u2 (u2 iv 12 34 v26) 12 35 n15) 12 36 n16) 12 37 n10) lv (u2 (u2 (u2 fa 12 26 f1) 12 30 f2) 12 28 f11) la) H := hP
                have hD : va_D A (WM h g ca (u2 (u2 (u2 (u2 iv 12 34 v26) 12 35 n15) 12 36 n16) 12 37 n10) lv (u2 (u2 (u2 fa 12 26 f1) 12 30 f2) 12 28 f11) la) := hD
                have hP9 : va_P (dC, dI) classes (WM h g ca (u2 (u2 (u2 (u2 iv 12 34 v26) 12 35 n15) 12 36 n16) 12 37 n10) lv (u2 (u2 (u2 fa 12 26 f1) 12 28 f11) 12 30 f2) la) H := hP
                have hD9 : va_D A (WM h g ca (u2 (u2 (u2 (u2 iv 12 34 v26) 12 35 n15) 12 36 n16) 12 37 n10) lv (u2 (u2 (u2 fa 12 26 f1) 12 28 f11) 12 30 f2) la) := hD
                exact W.vret hx hb hr (fun t ht9 hW => ⟨⟨((u2 (u2 (u2 (u2 iv 12 34 v26) 12 35 n15) 12 36 n16) 12 37 n10), lv, (u2 (u2 (u2 fa 12 26 f1) 12 28 f11) 12 30 f2), la), rfl, ⟨f1, f11, f2, v26, n15, n16, n10, hf2, (show inb (0, 200) v26 from ⟨by omega, by omega⟩), (show inb (0, 5) n15 from ⟨by omega, by omega⟩), (show inb (0, 200) n10 from ⟨by omega, by omega⟩), (show (iv 12 34).toInt ≤ (v26 : Int32).toInt from by omega), (show ∀ j : Nat, j ≠ k.toNatClampNeg → f1 j = (fa 12 26) j ∧ (fa 12 27) j = (fa 12 27) j ∧ f11 j = (fa 12 28) j from fun j hj => ⟨(by rw [ef1, upd_ne hj]), rfl, (by rw [ef11, upd_ne hj])⟩), (show ((n15 : Int32).toInt ≠ 0 ∨ gd3 (f1 k.toNatClampNeg) ((fa 12 27) k.toNatClampNeg) (f11 k.toNatClampNeg)) from (by
            have kc : (3 : Int32).toInt = 3 := by decide
            have kE : f1 k.toNatClampNeg = 3 := by rw [ef1]; exact upd_eq
            have fE : f11 k.toNatClampNeg = r6 := by rw [ef11]; exact upd_eq
            have := congrArg Int32.toInt (ev12.trans fE)
            by_cases h0 : (n15 : Int32).toInt = 0
            · refine Or.inr ?_; rw [kE, fE]; unfold gd3; exact ⟨fun h => by omega, fun h h2 => by omega⟩
            · exact Or.inl h0)), rfl⟩, by rw [ht9]; exact hP9, hD9⟩, hS.F ht9⟩) hS.2.2 dX12_readClause_295
            · skip
              have fr24 : ¬ ((n15 : Int32).toInt = 0) := fr24
              refine lv_if_eq (tgt := 295) hx hb dX12_readClause_282 (by decide) (fun c27 => ?_) (fun c27 => ?_)
              · skip
                have hP9 : va_P (dC, dI) classes (WM h g ca (u2 (u2 (u2 (u2 iv 12 34 n18) 12 35 n15) 12 36 n16) 12 37 n10) lv (u2 (u2 (u2 fa 12 26 f1) 12 28 f11) 12 30 f2) la) H := hP
                have hD9 : va_D A (WM h g ca (u2 (u2 (u2 (u2 iv 12 34 n18) 12 35 n15) 12 36 n16) 12 37 n10) lv (u2 (u2 (u2 fa 12 26 f1) 12 28 f11) 12 30 f2) la) := hD
                exact W.vret hx hb hr (fun t ht9 hW => ⟨⟨((u2 (u2 (u2 (u2 iv 12 34 n18) 12 35 n15) 12 36 n16) 12 37 n10), lv, (u2 (u2 (u2 fa 12 26 f1) 12 28 f11) 12 30 f2), la), rfl, ⟨f1, f11, f2, n18, n15, n16, n10, hf2, (show inb (0, 200) n18 from ⟨by omega, by omega⟩), (show inb (0, 5) n15 from ⟨by omega, by omega⟩), (show inb (0, 200) n10 from ⟨by omega, by omega⟩), (show (iv 12 34).toInt ≤ (n18 : Int32).toInt from by omega), (show ∀ j : Nat, j ≠ k.toNatClampNeg → f1 j = (fa 12 26) j ∧ (fa 12 27) j = (fa 12 27) j ∧ f11 j = (fa 12 28) j from fun j hj => ⟨(by rw [ef1, upd_ne hj]), rfl, (by rw [ef11, upd_ne hj])⟩), (show ((n15 : Int32).toInt ≠ 0 ∨ gd3 (f1 k.toNatClampNeg) ((fa 12 27) k.toNatClampNeg) (f11 k.toNatClampNeg)) from Or.inl (by omega)), rfl⟩, by rw [ht9]; exact hP9, hD9⟩, hS.F ht9⟩) hS.2.2 dX12_readClause_295
              · exact absurd rfl c27
        · have fc13 := z_nle (rfl : ((iv 12 23)).toInt = _) (rfl : (v12).toInt = _) c13
          refine lv_iconst (v := 1) hx hb dX12_readClause_235 (by decide) ?_
          refine lv_goto (tgt := 240) hx hb dX12_readClause_236 (by decide) ?_
          refine lv_iconst (v := 3) hx hb dX12_readClause_240 (by decide) ?_
          refine lv_aload_n hx hb dX12_readClause_241 rfl (lv_at hl 0 rfl) ?_
          refine gM_12_37 hx hb ht hown hK hP m_1176 (v := n10) rfl dX12_readClause_242 ?_
          refine vp_callSi (W.runV (As := [.int 1, .int 3, .int n10]) (rest := []) ⟨hx, hb, hml, hown, ht⟩ (c_X12_want_1 l dC dI h g ca (u2 (u2 (u2 (u2 iv 12 34 n7) 12 35 n8) 12 36 n9) 12 37 n10) lv (u2 (u2 (u2 fa 12 26 f1) 12 30 f2) 12 28 f11) la (IX_a (c := 12) (k := 28) (IX_a (c := 12) (k := 30) (IX_a (c := 12) (k := 26) (IX_i (c := 12) (k := 37) (IX_i (c := 12) (k := 36) (IX_i (c := 12) (k := 35) (IX_i (c := 12) (k := 34) hI (show inb (0, 200) n7 from ⟨by omega, by omega⟩)) (show inb (0, 5) n8 from ⟨by omega, by omega⟩)) (full_i _)) (show inb (0, 200) n10 from ⟨by omega, by omega⟩)) hf1) hf2) hf11) 3 n10) (kV 3 ht m_1472 m_1474 m_50 m_89 m_1475 rfl rfl hd_X12_want_v ⟨Nat.le_of_ble_eq_true rfl, Nat.le_of_ble_eq_true rfl⟩) (vR hP hK (rM_12 hK hP)) rfl rfl hl.1 rfl (lv_room (Nat.le_of_ble_eq_true rfl)) dX12_readClause_245 ⟨Nat.le_of_ble_eq_true rfl, Nat.le_of_ble_eq_true rfl⟩) (fun r28 hr28 => ?_)
          rcases hr28 with ⟨rfl, fr28⟩ | ⟨rfl, fr28⟩
          · skip
            have fr28 : ((n8 : Int32).toInt = 0) := fr28
            refine lv_istore_n (lv' := [(3, .int 1), (0, .ref h), (1, .int 3), (2, .int k)]) hx hb dX12_readClause_248 rfl hl (by decide) rfl (fun ls hl => ?_)
            refine lv_goto (tgt := 257) hx hb dX12_readClause_249 (by decide) ?_
            refine lv_aload_n hx hb dX12_readClause_257 rfl (lv_at hl 1 rfl) ?_
            have hFc := free_all hD hS hA
            refine va_calli (va_runV (As := []) (rest := []) ⟨hx, hb, hml, hown, ht⟩ (c_X12_here_x l dC dI H.size h g ca (u2 (u2 (u2 (u2 iv 12 34 n7) 12 35 n8) 12 36 n9) 12 37 n10) lv (u2 (u2 (u2 fa 12 26 f1) 12 30 f2) 12 28 f11) la (IX_a (c := 12) (k := 28) (IX_a (c := 12) (k := 30) (IX_a (c := 12) (k := 26) (IX_i (c := 12) (k := 37) (IX_i (c := 12) (k := 36) (IX_i (c := 12) (k := 35) (IX_i (c := 12) (k := 34) hI (show inb (0, 200) n7 from ⟨by omega, by omega⟩)) (show inb (0, 5) n8 from ⟨by omega, by omega⟩)) (full_i _)) (show inb (0, 200) n10 from ⟨by omega, by omega⟩)) hf1) hf2) hf11)) (kV 0 ht m_1458 m_1460 m_47 m_89 m_1461 rfl rfl hd_X12_here_v ⟨Nat.le_of_ble_eq_true rfl, Nat.le_of_ble_eq_true rfl⟩) (vW hP hK hD (rM_12 hK hP)) rfl rfl hl.1 rfl (lv_room (Nat.le_of_ble_eq_true rfl)) dX12_readClause_258 ⟨Nat.le_of_ble_eq_true rfl, Nat.le_of_ble_eq_true rfl⟩) hS (fun q _ h => hFc q h) hFc (fun r29 u t H1 locs ht9 hvm hr29 hB hz1 hk1 hS => ?_)
            obtain ⟨n30, hn30, xr29_0, xr29_1, hr29, rfl⟩ := hr29
            have hn30 : 0 ≤ n30.toInt ∧ n30.toInt ≤ 200 := hn30
            obtain ⟨hP, hD⟩ := hB
            rw [ht9] at hP
            generalize H1 = H at hP hS ⊢
            have hP : va_P (dC, dI) classes (WM h g ca (u2 (u2 (u2 (u2 iv 12 34 n30) 12 35 n8) 12 36 n9) 12 37 n10) lv (u2 (u2 (u2 fa 12 26 f1) 12 30 f2) 12 28 f11) la) H := hP
            have hD : va_D A (WM h g ca (u2 (u2 (u2 (u2 iv 12 34 n30) 12 35 n8) 12 36 n9) 12 37 n10) lv (u2 (u2 (u2 fa 12 26 f1) 12 30 f2) 12 28 f11) la) := (show va_D _ (WM h g ca (u2 (u2 (u2 (u2 iv 12 34 n30) 12 35 n8) 12 36 n9) 12 37 n10) lv (u2 (u2 (u2 fa 12 26 f1) 12 30 f2) 12 28 f11) la) from hD).weaken (fun _ _ _ h => hFc _ h)
            have xr29_0 : (n7 : Int32).toInt ≤ (n30 : Int32).toInt := xr29_0
            have i_12_33 : 0 ≤ (iv 12 33).toInt ∧ (iv 12 33).toInt ≤ 200 := hI.1 12 33
            have xr29_1 : ((r29 : Int32).toInt = -1 ∨ (n30 : Int32).toInt + 1 ≤ ((iv 12 33) : Int32).toInt) := xr29_1
            refine lv_istore_n (lv' := [(3, .int r29), (0, .ref h), (1, .int 3), (2, .int k)]) hx hb dX12_readClause_261 rfl hl (by decide) rfl (fun ls hl => ?_)
            refine lv_aload_n hx hb dX12_readClause_262 rfl (lv_at hl 1 rfl) ?_
            refine lv_iload_n hx hb dX12_readClause_263 rfl (lv_at hl 0 rfl) ?_
            refine lv_bipush (v := 59) hx hb dX12_readClause_264 (by decide) ?_
            refine lv_icmp_ne (tgt := 273) hx hb dX12_readClause_266 (by decide) (fun c31 => ?_) (fun c31 => ?_)
            · have fc31 := z_ne (rfl : (r29).toInt = _) (by decide : (59 : Int32).toInt = 59) c31
              refine lv_iconst (v := 0) hx hb dX12_readClause_273 (by decide) ?_
              refine lv_iconst (v := 1) hx hb dX12_readClause_274 (by decide) ?_
              refine lv_aload_n hx hb dX12_readClause_275 rfl (lv_at hl 1 rfl) ?_
              refine gM_12_34 hx hb ht hown hK hP m_1173 (v := n30) rfl dX12_readClause_276 ?_
              have hFc := free_all hD hS hA
              refine va_calli (va_runV (As := [.int 0, .int 1, .int n30]) (rest := []) ⟨hx, hb, hml, hown, ht⟩ (c_X12_want_0 l dC dI H.size h g ca (u2 (u2 (u2 (u2 iv 12 34 n30) 12 35 n8) 12 36 n9) 12 37 n10) lv (u2 (u2 (u2 fa 12 26 f1) 12 30 f2) 12 28 f11) la (IX_a (c := 12) (k := 28) (IX_a (c := 12) (k := 30) (IX_a (c := 12) (k := 26) (IX_i (c := 12) (k := 37) (IX_i (c := 12) (k := 36) (IX_i (c := 12) (k := 35) (IX_i (c := 12) (k := 34) hI (show inb (0, 200) n30 from ⟨by omega, by omega⟩)) (show inb (0, 5) n8 from ⟨by omega, by omega⟩)) (full_i _)) (show inb (0, 200) n10 from ⟨by omega, by omega⟩)) hf1) hf2) hf11) 1 n30 ⟨by decide, by decide⟩) (kV 3 ht m_1472 m_1474 m_50 m_89 m_1475 rfl rfl hd_X12_want_v ⟨Nat.le_of_ble_eq_true rfl, Nat.le_of_ble_eq_true rfl⟩) (vW hP hK hD (rM_12 hK hP)) rfl rfl hl.1 rfl (lv_room (Nat.le_of_ble_eq_true rfl)) dX12_readClause_279 ⟨Nat.le_of_ble_eq_true rfl, Nat.le_of_ble_eq_true rfl⟩) hS (fun q _ h => hFc q h) hFc (fun r32 u t H1 locs ht9 hvm hr32 hB hz1 hk1 hS => ?_)
              obtain ⟨n33, n34, hn33, xr32_0, hr32, rfl⟩ := hr32
              have hn33 : 0 ≤ n33.toInt ∧ n33.toInt ≤ 5 := hn33
              obtain ⟨hP, hD⟩ := hB
              rw [ht9] at hP
              generalize H1 = H at hP hS ⊢
              have hP : va_P (dC, dI) classes (WM h g ca (u2 (u2 (u2 (u2 iv 12 34 n30) 12 35 n33) 12 36 n34) 12 37 n10) lv (u2 (u2 (u2 fa 12 26 f1) 12 30 f2) 12 28 f11) la) H := hP
              have hD : va_D A (WM h g ca (u2 (u2 (u2 (u2 iv 12 34 n30) 12 35 n33) 12 36 n34) 12 37 n10) lv (u2 (u2 (u2 fa 12 26 f1) 12 30 f2) 12 28 f11) la) := (show va_D _ (WM h g ca (u2 (u2 (u2 (u2 iv 12 34 n30) 12 35 n33) 12 36 n34) 12 37 n10) lv (u2 (u2 (u2 fa 12 26 f1) 12 30 f2) 12 28 f11) la) from hD).weaken (fun _ _ _ h => hFc _ h)
              have xr32_0 : 1 ≤ (n33 : Int32).toInt := xr32_0
              obtain rfl : 0 = r32 := hr32.symm
              refine lv_if_eq (tgt := 295) hx hb dX12_readClause_282 (by decide) (fun c35 => ?_) (fun c35 => ?_)
              · skip
                have hP9 : va_P (dC, dI) classes (WM h g ca (u2 (u2 (u2 (u2 iv 12 34 n30) 12 35 n33) 12 36 n34) 12 37 n10) lv (u2 (u2 (u2 fa 12 26 f1) 12 28 f11) 12 30 f2) la) H := hP
                have hD9 : va_D A (WM h g ca (u2 (u2 (u2 (u2 iv 12 34 n30) 12 35 n33) 12 36 n34) 12 37 n10) lv (u2 (u2 (u2 fa 12 26 f1) 12 28 f11) 12 30 f2) la) := hD
                exact W.vret hx hb hr (fun t ht9 hW => ⟨⟨((u2 (u2 (u2 (u2 iv 12 34 n30) 12 35 n33) 12 36 n34) 12 37 n10), lv, (u2 (u2 (u2 fa 12 26 f1) 12 28 f11) 12 30 f2), la), rfl, ⟨f1, f11, f2, n30, n33, n34, n10, hf2, (show inb (0, 200) n30 from ⟨by omega, by omega⟩), (show inb (0, 5) n33 from ⟨by omega, by omega⟩), (show inb (0, 200) n10 from ⟨by omega, by omega⟩), (show (iv 12 34).toInt ≤ (n30 : Int32).toInt from by omega), (show ∀ j : Nat, j ≠ k.toNatClampNeg → f1 j = (fa 12 26) j ∧ (fa 12 27) j = (fa 12 27) j ∧ f11 j = (fa 12 28) j from fun j hj => ⟨(by rw [ef1, upd_ne hj]), rfl, (by rw [ef11, upd_ne hj])⟩), (show ((n33 : Int32).toInt ≠ 0 ∨ gd3 (f1 k.toNatClampNeg) ((fa 12 27) k.toNatClampNeg) (f11 k.toNatClampNeg)) from (by
            have kc : (3 : Int32).toInt = 3 := by decide
            have kE : f1 k.toNatClampNeg = 3 := by rw [ef1]; exact upd_eq
            have fE : f11 k.toNatClampNeg = r6 := by rw [ef11]; exact upd_eq
            have := congrArg Int32.toInt (ev12.trans fE)
            by_cases h0 : (n33 : Int32).toInt = 0
            · refine Or.inr ?_; rw [kE, fE]; unfold gd3; exact ⟨fun h => by omega, fun h h2 => by omega⟩
            · exact Or.inl h0)), rfl⟩, by rw [ht9]; exact hP9, hD9⟩, hS.F ht9⟩) hS.2.2 dX12_readClause_295
              · exact absurd rfl c35
            · have fc31 := z_eq (rfl : (r29).toInt = _) (by decide : (59 : Int32).toInt = 59) c31
              refine lv_iconst (v := 1) hx hb dX12_readClause_269 (by decide) ?_
              refine lv_goto (tgt := 274) hx hb dX12_readClause_270 (by decide) ?_
              refine lv_iconst (v := 1) hx hb dX12_readClause_274 (by decide) ?_
              refine lv_aload_n hx hb dX12_readClause_275 rfl (lv_at hl 1 rfl) ?_
              refine gM_12_34 hx hb ht hown hK hP m_1173 (v := n30) rfl dX12_readClause_276 ?_
              refine vp_callSi (W.runV (As := [.int 1, .int 1, .int n30]) (rest := []) ⟨hx, hb, hml, hown, ht⟩ (c_X12_want_1 l dC dI h g ca (u2 (u2 (u2 (u2 iv 12 34 n30) 12 35 n8) 12 36 n9) 12 37 n10) lv (u2 (u2 (u2 fa 12 26 f1) 12 30 f2) 12 28 f11) la (IX_a (c := 12) (k := 28) (IX_a (c := 12) (k := 30) (IX_a (c := 12) (k := 26) (IX_i (c := 12) (k := 37) (IX_i (c := 12) (k := 36) (IX_i (c := 12) (k := 35) (IX_i (c := 12) (k := 34) hI (show inb (0, 200) n30 from ⟨by omega, by omega⟩)) (show inb (0, 5) n8 from ⟨by omega, by omega⟩)) (full_i _)) (show inb (0, 200) n10 from ⟨by omega, by omega⟩)) hf1) hf2) hf11) 1 n30) (kV 3 ht m_1472 m_1474 m_50 m_89 m_1475 rfl rfl hd_X12_want_v ⟨Nat.le_of_ble_eq_true rfl, Nat.le_of_ble_eq_true rfl⟩) (vR hP hK (rM_12 hK hP)) rfl rfl hl.1 rfl (lv_room (Nat.le_of_ble_eq_true rfl)) dX12_readClause_279 ⟨Nat.le_of_ble_eq_true rfl, Nat.le_of_ble_eq_true rfl⟩) (fun r36 hr36 => ?_)
              rcases hr36 with ⟨rfl, fr36⟩ | ⟨rfl, fr36⟩
              · skip
                have fr36 : ((n8 : Int32).toInt = 0) := fr36
                refine lv_if_eq (tgt := 295) hx hb dX12_readClause_282 (by decide) (fun c37 => ?_) (fun c37 => ?_)
                · exact absurd c37 (by decide)
                · skip
                  refine lv_aload_n hx hb dX12_readClause_285 rfl (lv_at hl 1 rfl) ?_
                  refine lv_dup hx hb dX12_readClause_286 rfl ?_
                  refine gM_12_34 hx hb ht hown hK hP m_1173 (v := n30) rfl dX12_readClause_287 ?_
                  refine lv_iconst (v := 1) hx hb dX12_readClause_290 (by decide) ?_
                  refine lv_iadd hx hb dX12_readClause_291 ?_
                  refine lv_topi (fun v38 ev38 => ?_)
                  have tv38 := z_add ev38 (rfl : (n30).toInt = _) (by decide : (1 : Int32).toInt = 1) (by omega) (by omega)
                  have : 0 ≤ (v38 : Int32).toInt ∧ (v38 : Int32).toInt ≤ 200 := ⟨by omega, by omega⟩
                  refine pM_12_34 (v := v38) hx hb ht hown hK hP hD hS m_1173 dX12_readClause_292 (fun H locs hP hD hS => ?_)
                  have hP : va_P (dC, dI) classes (WM h g ca (u2 (u2 (u2 (u2 iv 12 34 v38) 12 35 n8) 12 36 n9) 12 37 n10) lv (u2 (u2 (u2 fa 12 26 f1) 12 30 f2) 12 28 f11) la) H := hP
                  have hD : va_D A (WM h g ca (u2 (u2 (u2 (u2 iv 12 34 v38) 12 35 n8) 12 36 n9) 12 37 n10) lv (u2 (u2 (u2 fa 12 26 f1) 12 30 f2) 12 28 f11) la) := hD
                  have hP9 : va_P (dC, dI) classes (WM h g ca (u2 (u2 (u2 (u2 iv 12 34 v38) 12 35 n8) 12 36 n9) 12 37 n10) lv (u2 (u2 (u2 fa 12 26 f1) 12 28 f11) 12 30 f2) la) H := hP
                  have hD9 : va_D A (WM h g ca (u2 (u2 (u2 (u2 iv 12 34 v38) 12 35 n8) 12 36 n9) 12 37 n10) lv (u2 (u2 (u2 fa 12 26 f1) 12 28 f11) 12 30 f2) la) := hD
                  exact W.vret hx hb hr (fun t ht9 hW => ⟨⟨((u2 (u2 (u2 (u2 iv 12 34 v38) 12 35 n8) 12 36 n9) 12 37 n10), lv, (u2 (u2 (u2 fa 12 26 f1) 12 28 f11) 12 30 f2), la), rfl, ⟨f1, f11, f2, v38, n8, n9, n10, hf2, (show inb (0, 200) v38 from ⟨by omega, by omega⟩), (show inb (0, 5) n8 from ⟨by omega, by omega⟩), (show inb (0, 200) n10 from ⟨by omega, by omega⟩), (show (iv 12 34).toInt ≤ (v38 : Int32).toInt from by omega), (show ∀ j : Nat, j ≠ k.toNatClampNeg → f1 j = (fa 12 26) j ∧ (fa 12 27) j = (fa 12 27) j ∧ f11 j = (fa 12 28) j from fun j hj => ⟨(by rw [ef1, upd_ne hj]), rfl, (by rw [ef11, upd_ne hj])⟩), (show ((n8 : Int32).toInt ≠ 0 ∨ gd3 (f1 k.toNatClampNeg) ((fa 12 27) k.toNatClampNeg) (f11 k.toNatClampNeg)) from (by
            have kc : (3 : Int32).toInt = 3 := by decide
            have kE : f1 k.toNatClampNeg = 3 := by rw [ef1]; exact upd_eq
            have fE : f11 k.toNatClampNeg = r6 := by rw [ef11]; exact upd_eq
            have := congrArg Int32.toInt (ev12.trans fE)
            by_cases h0 : (n8 : Int32).toInt = 0
            · refine Or.inr ?_; rw [kE, fE]; unfold gd3; exact ⟨fun h => by omega, fun h h2 => by omega⟩
            · exact Or.inl h0)), rfl⟩, by rw [ht9]; exact hP9, hD9⟩, hS.F ht9⟩) hS.2.2 dX12_readClause_295
              · skip
                have fr36 : ¬ ((n8 : Int32).toInt = 0) := fr36
                exfalso; omega
          · skip
            have fr28 : ¬ ((n8 : Int32).toInt = 0) := fr28
            refine lv_istore_n (lv' := [(3, .int 0), (0, .ref h), (1, .int 3), (2, .int k)]) hx hb dX12_readClause_248 rfl hl (by decide) rfl (fun ls hl => ?_)
            refine lv_goto (tgt := 257) hx hb dX12_readClause_249 (by decide) ?_
            refine lv_aload_n hx hb dX12_readClause_257 rfl (lv_at hl 1 rfl) ?_
            have hFc := free_all hD hS hA
            refine va_calli (va_runV (As := []) (rest := []) ⟨hx, hb, hml, hown, ht⟩ (c_X12_here_x l dC dI H.size h g ca (u2 (u2 (u2 (u2 iv 12 34 n7) 12 35 n8) 12 36 n9) 12 37 n10) lv (u2 (u2 (u2 fa 12 26 f1) 12 30 f2) 12 28 f11) la (IX_a (c := 12) (k := 28) (IX_a (c := 12) (k := 30) (IX_a (c := 12) (k := 26) (IX_i (c := 12) (k := 37) (IX_i (c := 12) (k := 36) (IX_i (c := 12) (k := 35) (IX_i (c := 12) (k := 34) hI (show inb (0, 200) n7 from ⟨by omega, by omega⟩)) (show inb (0, 5) n8 from ⟨by omega, by omega⟩)) (full_i _)) (show inb (0, 200) n10 from ⟨by omega, by omega⟩)) hf1) hf2) hf11)) (kV 0 ht m_1458 m_1460 m_47 m_89 m_1461 rfl rfl hd_X12_here_v ⟨Nat.le_of_ble_eq_true rfl, Nat.le_of_ble_eq_true rfl⟩) (vW hP hK hD (rM_12 hK hP)) rfl rfl hl.1 rfl (lv_room (Nat.le_of_ble_eq_true rfl)) dX12_readClause_258 ⟨Nat.le_of_ble_eq_true rfl, Nat.le_of_ble_eq_true rfl⟩) hS (fun q _ h => hFc q h) hFc (fun r39 u t H1 locs ht9 hvm hr39 hB hz1 hk1 hS => ?_)
            obtain ⟨n40, hn40, xr39_0, xr39_1, hr39, rfl⟩ := hr39
            have hn40 : 0 ≤ n40.toInt ∧ n40.toInt ≤ 200 := hn40
            obtain ⟨hP, hD⟩ := hB
            rw [ht9] at hP
            generalize H1 = H at hP hS ⊢
            have hP : va_P (dC, dI) classes (WM h g ca (u2 (u2 (u2 (u2 iv 12 34 n40) 12 35 n8) 12 36 n9) 12 37 n10) lv (u2 (u2 (u2 fa 12 26 f1) 12 30 f2) 12 28 f11) la) H := hP
            have hD : va_D A (WM h g ca (u2 (u2 (u2 (u2 iv 12 34 n40) 12 35 n8) 12 36 n9) 12 37 n10) lv (u2 (u2 (u2 fa 12 26 f1) 12 30 f2) 12 28 f11) la) := (show va_D _ (WM h g ca (u2 (u2 (u2 (u2 iv 12 34 n40) 12 35 n8) 12 36 n9) 12 37 n10) lv (u2 (u2 (u2 fa 12 26 f1) 12 30 f2) 12 28 f11) la) from hD).weaken (fun _ _ _ h => hFc _ h)
            have xr39_0 : (n7 : Int32).toInt ≤ (n40 : Int32).toInt := xr39_0
            have i_12_33 : 0 ≤ (iv 12 33).toInt ∧ (iv 12 33).toInt ≤ 200 := hI.1 12 33
            have xr39_1 : ((r39 : Int32).toInt = -1 ∨ (n40 : Int32).toInt + 1 ≤ ((iv 12 33) : Int32).toInt) := xr39_1
            refine lv_istore_n (lv' := [(3, .int r39), (0, .ref h), (1, .int 3), (2, .int k)]) hx hb dX12_readClause_261 rfl hl (by decide) rfl (fun ls hl => ?_)
            refine lv_aload_n hx hb dX12_readClause_262 rfl (lv_at hl 1 rfl) ?_
            refine lv_iload_n hx hb dX12_readClause_263 rfl (lv_at hl 0 rfl) ?_
            refine lv_bipush (v := 59) hx hb dX12_readClause_264 (by decide) ?_
            refine lv_icmp_ne (tgt := 273) hx hb dX12_readClause_266 (by decide) (fun c41 => ?_) (fun c41 => ?_)
            · have fc41 := z_ne (rfl : (r39).toInt = _) (by decide : (59 : Int32).toInt = 59) c41
              refine lv_iconst (v := 0) hx hb dX12_readClause_273 (by decide) ?_
              refine lv_iconst (v := 1) hx hb dX12_readClause_274 (by decide) ?_
              refine lv_aload_n hx hb dX12_readClause_275 rfl (lv_at hl 1 rfl) ?_
              refine gM_12_34 hx hb ht hown hK hP m_1173 (v := n40) rfl dX12_readClause_276 ?_
              have hFc := free_all hD hS hA
              refine va_calli (va_runV (As := [.int 0, .int 1, .int n40]) (rest := []) ⟨hx, hb, hml, hown, ht⟩ (c_X12_want_0 l dC dI H.size h g ca (u2 (u2 (u2 (u2 iv 12 34 n40) 12 35 n8) 12 36 n9) 12 37 n10) lv (u2 (u2 (u2 fa 12 26 f1) 12 30 f2) 12 28 f11) la (IX_a (c := 12) (k := 28) (IX_a (c := 12) (k := 30) (IX_a (c := 12) (k := 26) (IX_i (c := 12) (k := 37) (IX_i (c := 12) (k := 36) (IX_i (c := 12) (k := 35) (IX_i (c := 12) (k := 34) hI (show inb (0, 200) n40 from ⟨by omega, by omega⟩)) (show inb (0, 5) n8 from ⟨by omega, by omega⟩)) (full_i _)) (show inb (0, 200) n10 from ⟨by omega, by omega⟩)) hf1) hf2) hf11) 1 n40 ⟨by decide, by decide⟩) (kV 3 ht m_1472 m_1474 m_50 m_89 m_1475 rfl rfl hd_X12_want_v ⟨Nat.le_of_ble_eq_true rfl, Nat.le_of_ble_eq_true rfl⟩) (vW hP hK hD (rM_12 hK hP)) rfl rfl hl.1 rfl (lv_room (Nat.le_of_ble_eq_true rfl)) dX12_readClause_279 ⟨Nat.le_of_ble_eq_true rfl, Nat.le_of_ble_eq_true rfl⟩) hS (fun q _ h => hFc q h) hFc (fun r42 u t H1 locs ht9 hvm hr42 hB hz1 hk1 hS => ?_)
              obtain ⟨n43, n44, hn43, xr42_0, hr42, rfl⟩ := hr42
              have hn43 : 0 ≤ n43.toInt ∧ n43.toInt ≤ 5 := hn43
              obtain ⟨hP, hD⟩ := hB
              rw [ht9] at hP
              generalize H1 = H at hP hS ⊢
              have hP : va_P (dC, dI) classes (WM h g ca (u2 (u2 (u2 (u2 iv 12 34 n40) 12 35 n43) 12 36 n44) 12 37 n10) lv (u2 (u2 (u2 fa 12 26 f1) 12 30 f2) 12 28 f11) la) H := hP
              have hD : va_D A (WM h g ca (u2 (u2 (u2 (u2 iv 12 34 n40) 12 35 n43) 12 36 n44) 12 37 n10) lv (u2 (u2 (u2 fa 12 26 f1) 12 30 f2) 12 28 f11) la) := (show va_D _ (WM h g ca (u2 (u2 (u2 (u2 iv 12 34 n40) 12 35 n43) 12 36 n44) 12 37 n10) lv (u2 (u2 (u2 fa 12 26 f1) 12 30 f2) 12 28 f11) la) from hD).weaken (fun _ _ _ h => hFc _ h)
              have xr42_0 : 1 ≤ (n43 : Int32).toInt := xr42_0
              obtain rfl : 0 = r42 := hr42.symm
              refine lv_if_eq (tgt := 295) hx hb dX12_readClause_282 (by decide) (fun c45 => ?_) (fun c45 => ?_)
              · skip
                have hP9 : va_P (dC, dI) classes (WM h g ca (u2 (u2 (u2 (u2 iv 12 34 n40) 12 35 n43) 12 36 n44) 12 37 n10) lv (u2 (u2 (u2 fa 12 26 f1) 12 28 f11) 12 30 f2) la) H := hP
                have hD9 : va_D A (WM h g ca (u2 (u2 (u2 (u2 iv 12 34 n40) 12 35 n43) 12 36 n44) 12 37 n10) lv (u2 (u2 (u2 fa 12 26 f1) 12 28 f11) 12 30 f2) la) := hD
                exact W.vret hx hb hr (fun t ht9 hW => ⟨⟨((u2 (u2 (u2 (u2 iv 12 34 n40) 12 35 n43) 12 36 n44) 12 37 n10), lv, (u2 (u2 (u2 fa 12 26 f1) 12 28 f11) 12 30 f2), la), rfl, ⟨f1, f11, f2, n40, n43, n44, n10, hf2, (show inb (0, 200) n40 from ⟨by omega, by omega⟩), (show inb (0, 5) n43 from ⟨by omega, by omega⟩), (show inb (0, 200) n10 from ⟨by omega, by omega⟩), (show (iv 12 34).toInt ≤ (n40 : Int32).toInt from by omega), (show ∀ j : Nat, j ≠ k.toNatClampNeg → f1 j = (fa 12 26) j ∧ (fa 12 27) j = (fa 12 27) j ∧ f11 j = (fa 12 28) j from fun j hj => ⟨(by rw [ef1, upd_ne hj]), rfl, (by rw [ef11, upd_ne hj])⟩), (show ((n43 : Int32).toInt ≠ 0 ∨ gd3 (f1 k.toNatClampNeg) ((fa 12 27) k.toNatClampNeg) (f11 k.toNatClampNeg)) from (by
            have kc : (3 : Int32).toInt = 3 := by decide
            have kE : f1 k.toNatClampNeg = 3 := by rw [ef1]; exact upd_eq
            have fE : f11 k.toNatClampNeg = r6 := by rw [ef11]; exact upd_eq
            have := congrArg Int32.toInt (ev12.trans fE)
            by_cases h0 : (n43 : Int32).toInt = 0
            · refine Or.inr ?_; rw [kE, fE]; unfold gd3; exact ⟨fun h => by omega, fun h h2 => by omega⟩
            · exact Or.inl h0)), rfl⟩, by rw [ht9]; exact hP9, hD9⟩, hS.F ht9⟩) hS.2.2 dX12_readClause_295
              · exact absurd rfl c45
            · have fc41 := z_eq (rfl : (r39).toInt = _) (by decide : (59 : Int32).toInt = 59) c41
              refine lv_iconst (v := 1) hx hb dX12_readClause_269 (by decide) ?_
              refine lv_goto (tgt := 274) hx hb dX12_readClause_270 (by decide) ?_
              refine lv_iconst (v := 1) hx hb dX12_readClause_274 (by decide) ?_
              refine lv_aload_n hx hb dX12_readClause_275 rfl (lv_at hl 1 rfl) ?_
              refine gM_12_34 hx hb ht hown hK hP m_1173 (v := n40) rfl dX12_readClause_276 ?_
              refine vp_callSi (W.runV (As := [.int 1, .int 1, .int n40]) (rest := []) ⟨hx, hb, hml, hown, ht⟩ (c_X12_want_1 l dC dI h g ca (u2 (u2 (u2 (u2 iv 12 34 n40) 12 35 n8) 12 36 n9) 12 37 n10) lv (u2 (u2 (u2 fa 12 26 f1) 12 30 f2) 12 28 f11) la (IX_a (c := 12) (k := 28) (IX_a (c := 12) (k := 30) (IX_a (c := 12) (k := 26) (IX_i (c := 12) (k := 37) (IX_i (c := 12) (k := 36) (IX_i (c := 12) (k := 35) (IX_i (c := 12) (k := 34) hI (show inb (0, 200) n40 from ⟨by omega, by omega⟩)) (show inb (0, 5) n8 from ⟨by omega, by omega⟩)) (full_i _)) (show inb (0, 200) n10 from ⟨by omega, by omega⟩)) hf1) hf2) hf11) 1 n40) (kV 3 ht m_1472 m_1474 m_50 m_89 m_1475 rfl rfl hd_X12_want_v ⟨Nat.le_of_ble_eq_true rfl, Nat.le_of_ble_eq_true rfl⟩) (vR hP hK (rM_12 hK hP)) rfl rfl hl.1 rfl (lv_room (Nat.le_of_ble_eq_true rfl)) dX12_readClause_279 ⟨Nat.le_of_ble_eq_true rfl, Nat.le_of_ble_eq_true rfl⟩) (fun r46 hr46 => ?_)
              rcases hr46 with ⟨rfl, fr46⟩ | ⟨rfl, fr46⟩
              · skip
                have fr46 : ((n8 : Int32).toInt = 0) := fr46
                exfalso; omega
              · skip
                have fr46 : ¬ ((n8 : Int32).toInt = 0) := fr46
                refine lv_if_eq (tgt := 295) hx hb dX12_readClause_282 (by decide) (fun c47 => ?_) (fun c47 => ?_)
                · skip
                  have hP9 : va_P (dC, dI) classes (WM h g ca (u2 (u2 (u2 (u2 iv 12 34 n40) 12 35 n8) 12 36 n9) 12 37 n10) lv (u2 (u2 (u2 fa 12 26 f1) 12 28 f11) 12 30 f2) la) H := hP
                  have hD9 : va_D A (WM h g ca (u2 (u2 (u2 (u2 iv 12 34 n40) 12 35 n8) 12 36 n9) 12 37 n10) lv (u2 (u2 (u2 fa 12 26 f1) 12 28 f11) 12 30 f2) la) := hD
                  exact W.vret hx hb hr (fun t ht9 hW => ⟨⟨((u2 (u2 (u2 (u2 iv 12 34 n40) 12 35 n8) 12 36 n9) 12 37 n10), lv, (u2 (u2 (u2 fa 12 26 f1) 12 28 f11) 12 30 f2), la), rfl, ⟨f1, f11, f2, n40, n8, n9, n10, hf2, (show inb (0, 200) n40 from ⟨by omega, by omega⟩), (show inb (0, 5) n8 from ⟨by omega, by omega⟩), (show inb (0, 200) n10 from ⟨by omega, by omega⟩), (show (iv 12 34).toInt ≤ (n40 : Int32).toInt from by omega), (show ∀ j : Nat, j ≠ k.toNatClampNeg → f1 j = (fa 12 26) j ∧ (fa 12 27) j = (fa 12 27) j ∧ f11 j = (fa 12 28) j from fun j hj => ⟨(by rw [ef1, upd_ne hj]), rfl, (by rw [ef11, upd_ne hj])⟩), (show ((n8 : Int32).toInt ≠ 0 ∨ gd3 (f1 k.toNatClampNeg) ((fa 12 27) k.toNatClampNeg) (f11 k.toNatClampNeg)) from Or.inl (by omega)), rfl⟩, by rw [ht9]; exact hP9, hD9⟩, hS.F ht9⟩) hS.2.2 dX12_readClause_295
                · exact absurd rfl c47
    · exact absurd c4 (by decide)
  · exact absurd c3 (by decide)
