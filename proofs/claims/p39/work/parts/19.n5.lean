/-! ===== n5 ===== -/
set_option maxRecDepth 100000 in
theorem m_55 : Cond.selects RX12 yX12_forceOf yX12_forceOf ∈ tb := tb_in 55 (by decide +kernel) rfl
set_option maxRecDepth 100000 in
theorem m_56 : Cond.selects RX12 yX12_findRules yX12_findRules ∈ tb := tb_in 56 (by decide +kernel) rfl
theorem m_1178 : Cond.fieldLink RX12 89 "SilkHouseModel" "isOn" "[Z" ∈ tb := mb_5_5 _ (List.mem_of_getElem? (i := 19) rfl)
theorem m_1179 : Cond.fieldLink RX12 93 "SilkHouseModel" "order" "[I" ∈ tb := mb_5_5 _ (List.mem_of_getElem? (i := 20) rfl)
theorem m_1180 : Cond.fieldLink RX12 314 "SilkHouseModel" "ons" "I" ∈ tb := mb_5_5 _ (List.mem_of_getElem? (i := 21) rfl)
theorem m_1508 : Cond.constantLong RX12 323 (5) ∈ tb := mb_6_5 _ (List.mem_of_getElem? (i := 10) rfl)
theorem m_1509 : Cond.methodLink RX12 325 yX12_forceOf ∈ tb := mb_6_5 _ (List.mem_of_getElem? (i := 11) rfl)
theorem m_1511 : Cond.instanceMethod yX12_forceOf ∈ tb := mb_6_5 _ (List.mem_of_getElem? (i := 12) rfl)
theorem m_1512 : Cond.code yX12_forceOf cX12_forceOf 7 (some .int) ∈ tb := mb_6_5 _ (List.mem_of_getElem? (i := 13) rfl)
theorem m_1513 : Cond.methodLink RX12 317 yX12_findRules ∈ tb := mb_6_5 _ (List.mem_of_getElem? (i := 14) rfl)
theorem m_1515 : Cond.instanceMethod yX12_findRules ∈ tb := mb_6_5 _ (List.mem_of_getElem? (i := 15) rfl)
theorem m_1516 : Cond.code yX12_findRules cX12_findRules 4 none ∈ tb := mb_7_0 _ (List.mem_of_getElem? (i := 0) rfl)
theorem m_1517 : Cond.methodLink RX12 320 yX12_atFirst ∈ tb := mb_7_0 _ (List.mem_of_getElem? (i := 1) rfl)
theorem m_1518 : Cond.static yX12_atFirst ∈ tb := mb_7_0 _ (List.mem_of_getElem? (i := 2) rfl)
theorem m_1519 : Cond.code yX12_atFirst cX12_atFirst 1 (some .int) ∈ tb := mb_7_0 _ (List.mem_of_getElem? (i := 3) rfl)
theorem hd_X12_atFirst_v : yX12_atFirst.cls = RX12 ∧ yX12_atFirst.cls ≠ "java/lang/invoke/MethodHandle" ∧ yX12_atFirst.cls ≠ "java/lang/invoke/VarHandle" ∧ (parseMethodDescriptor yX12_atFirst.desc).map (fun d => d.parameters.length) = some 1 := by decide +kernel
theorem hd_X12_findRules_v : yX12_findRules.cls = RX12 ∧ yX12_findRules.cls ≠ "java/lang/invoke/MethodHandle" ∧ yX12_findRules.cls ≠ "java/lang/invoke/VarHandle" ∧ (parseMethodDescriptor yX12_findRules.desc).map (fun d => d.parameters.length) = some 1 := by decide +kernel
theorem hd_X12_forceOf_v : yX12_forceOf.cls = RX12 ∧ yX12_forceOf.cls ≠ "java/lang/invoke/MethodHandle" ∧ yX12_forceOf.cls ≠ "java/lang/invoke/VarHandle" ∧ (parseMethodDescriptor yX12_forceOf.desc).map (fun d => d.parameters.length) = some 2 := by decide +kernel
set_option maxRecDepth 100000 in
theorem dvX12_findRules_0 : ([(0, .iconst 0, 1), (1, .istore_n 2, 1), (2, .iload_n 2, 1), (3, .aload_n 0, 1), (4, .getfield 303, 3), (7, .if_icmp .ge 30, 3), (10, .aload_n 0, 1), (11, .getfield 89, 3), (14, .iload_n 2, 1), (15, .aload_n 0, 1), (16, .getfield 59, 3), (19, .iload_n 2, 1), (20, .iaload, 1), (21, .iload_n 1, 1), (22, .if_icmp .gt 7, 3), (25, .iconst 1, 1), (26, .goto 4, 3), (29, .iconst 0, 1), (30, .bastore, 1), (31, .iinc 2 1, 3), (34, .goto (-32), 3), (37, .aload_n 0, 1), (38, .getfield 303, 3), (41, .iconst 1, 1)] : List (Nat × Instr × Nat)).all (fun q => decide (decode cX12_findRules q.1 = .ok (q.2.1, q.2.2))) = true := by decide +kernel
theorem dX12_findRules_0 : decode cX12_findRules 0 = .ok (.iconst 0, 1) := all_at dvX12_findRules_0 0 rfl
theorem dX12_findRules_1 : decode cX12_findRules 1 = .ok (.istore_n 2, 1) := all_at dvX12_findRules_0 1 rfl
theorem dX12_findRules_2 : decode cX12_findRules 2 = .ok (.iload_n 2, 1) := all_at dvX12_findRules_0 2 rfl
theorem dX12_findRules_3 : decode cX12_findRules 3 = .ok (.aload_n 0, 1) := all_at dvX12_findRules_0 3 rfl
theorem dX12_findRules_4 : decode cX12_findRules 4 = .ok (.getfield 303, 3) := all_at dvX12_findRules_0 4 rfl
theorem dX12_findRules_7 : decode cX12_findRules 7 = .ok (.if_icmp .ge 30, 3) := all_at dvX12_findRules_0 5 rfl
theorem dX12_findRules_10 : decode cX12_findRules 10 = .ok (.aload_n 0, 1) := all_at dvX12_findRules_0 6 rfl
theorem dX12_findRules_11 : decode cX12_findRules 11 = .ok (.getfield 89, 3) := all_at dvX12_findRules_0 7 rfl
theorem dX12_findRules_14 : decode cX12_findRules 14 = .ok (.iload_n 2, 1) := all_at dvX12_findRules_0 8 rfl
theorem dX12_findRules_15 : decode cX12_findRules 15 = .ok (.aload_n 0, 1) := all_at dvX12_findRules_0 9 rfl
theorem dX12_findRules_16 : decode cX12_findRules 16 = .ok (.getfield 59, 3) := all_at dvX12_findRules_0 10 rfl
theorem dX12_findRules_19 : decode cX12_findRules 19 = .ok (.iload_n 2, 1) := all_at dvX12_findRules_0 11 rfl
theorem dX12_findRules_20 : decode cX12_findRules 20 = .ok (.iaload, 1) := all_at dvX12_findRules_0 12 rfl
theorem dX12_findRules_21 : decode cX12_findRules 21 = .ok (.iload_n 1, 1) := all_at dvX12_findRules_0 13 rfl
theorem dX12_findRules_22 : decode cX12_findRules 22 = .ok (.if_icmp .gt 7, 3) := all_at dvX12_findRules_0 14 rfl
theorem dX12_findRules_25 : decode cX12_findRules 25 = .ok (.iconst 1, 1) := all_at dvX12_findRules_0 15 rfl
theorem dX12_findRules_26 : decode cX12_findRules 26 = .ok (.goto 4, 3) := all_at dvX12_findRules_0 16 rfl
theorem dX12_findRules_29 : decode cX12_findRules 29 = .ok (.iconst 0, 1) := all_at dvX12_findRules_0 17 rfl
theorem dX12_findRules_30 : decode cX12_findRules 30 = .ok (.bastore, 1) := all_at dvX12_findRules_0 18 rfl
theorem dX12_findRules_31 : decode cX12_findRules 31 = .ok (.iinc 2 1, 3) := all_at dvX12_findRules_0 19 rfl
theorem dX12_findRules_34 : decode cX12_findRules 34 = .ok (.goto (-32), 3) := all_at dvX12_findRules_0 20 rfl
theorem dX12_findRules_37 : decode cX12_findRules 37 = .ok (.aload_n 0, 1) := all_at dvX12_findRules_0 21 rfl
theorem dX12_findRules_38 : decode cX12_findRules 38 = .ok (.getfield 303, 3) := all_at dvX12_findRules_0 22 rfl
theorem dX12_findRules_41 : decode cX12_findRules 41 = .ok (.iconst 1, 1) := all_at dvX12_findRules_0 23 rfl
set_option maxRecDepth 100000 in
theorem dvX12_findRules_42 : ([(42, .isub, 1), (43, .istore_n 2, 1), (44, .iload_n 2, 1), (45, .ifCond .lt 66, 3), (48, .bipush 12, 2), (50, .iload_n 2, 1), (51, .imul, 1), (52, .istore_n 3, 1), (53, .iload_n 3, 1), (54, .bipush 12, 2), (56, .iload_n 2, 1), (57, .imul, 1), (58, .aload_n 0, 1), (59, .getfield 62, 3), (62, .iload_n 2, 1), (63, .iaload, 1), (64, .iadd, 1), (65, .if_icmp .ge 40, 3), (68, .aload_n 0, 1), (69, .getfield 89, 3), (72, .iload_n 2, 1), (73, .baload, 1), (74, .ifCond .eq 31, 3), (77, .aload_n 0, 1)] : List (Nat × Instr × Nat)).all (fun q => decide (decode cX12_findRules q.1 = .ok (q.2.1, q.2.2))) = true := by decide +kernel
theorem dX12_findRules_42 : decode cX12_findRules 42 = .ok (.isub, 1) := all_at dvX12_findRules_42 0 rfl
theorem dX12_findRules_43 : decode cX12_findRules 43 = .ok (.istore_n 2, 1) := all_at dvX12_findRules_42 1 rfl
theorem dX12_findRules_44 : decode cX12_findRules 44 = .ok (.iload_n 2, 1) := all_at dvX12_findRules_42 2 rfl
theorem dX12_findRules_45 : decode cX12_findRules 45 = .ok (.ifCond .lt 66, 3) := all_at dvX12_findRules_42 3 rfl
theorem dX12_findRules_48 : decode cX12_findRules 48 = .ok (.bipush 12, 2) := all_at dvX12_findRules_42 4 rfl
theorem dX12_findRules_50 : decode cX12_findRules 50 = .ok (.iload_n 2, 1) := all_at dvX12_findRules_42 5 rfl
theorem dX12_findRules_51 : decode cX12_findRules 51 = .ok (.imul, 1) := all_at dvX12_findRules_42 6 rfl
theorem dX12_findRules_52 : decode cX12_findRules 52 = .ok (.istore_n 3, 1) := all_at dvX12_findRules_42 7 rfl
theorem dX12_findRules_53 : decode cX12_findRules 53 = .ok (.iload_n 3, 1) := all_at dvX12_findRules_42 8 rfl
theorem dX12_findRules_54 : decode cX12_findRules 54 = .ok (.bipush 12, 2) := all_at dvX12_findRules_42 9 rfl
theorem dX12_findRules_56 : decode cX12_findRules 56 = .ok (.iload_n 2, 1) := all_at dvX12_findRules_42 10 rfl
theorem dX12_findRules_57 : decode cX12_findRules 57 = .ok (.imul, 1) := all_at dvX12_findRules_42 11 rfl
theorem dX12_findRules_58 : decode cX12_findRules 58 = .ok (.aload_n 0, 1) := all_at dvX12_findRules_42 12 rfl
theorem dX12_findRules_59 : decode cX12_findRules 59 = .ok (.getfield 62, 3) := all_at dvX12_findRules_42 13 rfl
theorem dX12_findRules_62 : decode cX12_findRules 62 = .ok (.iload_n 2, 1) := all_at dvX12_findRules_42 14 rfl
theorem dX12_findRules_63 : decode cX12_findRules 63 = .ok (.iaload, 1) := all_at dvX12_findRules_42 15 rfl
theorem dX12_findRules_64 : decode cX12_findRules 64 = .ok (.iadd, 1) := all_at dvX12_findRules_42 16 rfl
theorem dX12_findRules_65 : decode cX12_findRules 65 = .ok (.if_icmp .ge 40, 3) := all_at dvX12_findRules_42 17 rfl
theorem dX12_findRules_68 : decode cX12_findRules 68 = .ok (.aload_n 0, 1) := all_at dvX12_findRules_42 18 rfl
theorem dX12_findRules_69 : decode cX12_findRules 69 = .ok (.getfield 89, 3) := all_at dvX12_findRules_42 19 rfl
theorem dX12_findRules_72 : decode cX12_findRules 72 = .ok (.iload_n 2, 1) := all_at dvX12_findRules_42 20 rfl
theorem dX12_findRules_73 : decode cX12_findRules 73 = .ok (.baload, 1) := all_at dvX12_findRules_42 21 rfl
theorem dX12_findRules_74 : decode cX12_findRules 74 = .ok (.ifCond .eq 31, 3) := all_at dvX12_findRules_42 22 rfl
theorem dX12_findRules_77 : decode cX12_findRules 77 = .ok (.aload_n 0, 1) := all_at dvX12_findRules_42 23 rfl
set_option maxRecDepth 100000 in
theorem dvX12_findRules_78 : ([(78, .getfield 65, 3), (81, .iload_n 3, 1), (82, .iaload, 1), (83, .iconst 3, 1), (84, .if_icmp .ne 15, 3), (87, .aload_n 0, 1), (88, .getfield 89, 3), (91, .aload_n 0, 1), (92, .getfield 71, 3), (95, .iload_n 3, 1), (96, .iaload, 1), (97, .iconst 0, 1), (98, .bastore, 1), (99, .iinc 3 1, 3), (102, .goto (-49), 3), (105, .iinc 2 (-1), 3), (108, .goto (-64), 3), (111, .aload_n 0, 1), (112, .iconst 0, 1), (113, .putfield 314, 3), (116, .iconst 0, 1), (117, .istore_n 2, 1), (118, .iload_n 2, 1), (119, .aload_n 0, 1)] : List (Nat × Instr × Nat)).all (fun q => decide (decode cX12_findRules q.1 = .ok (q.2.1, q.2.2))) = true := by decide +kernel
theorem dX12_findRules_78 : decode cX12_findRules 78 = .ok (.getfield 65, 3) := all_at dvX12_findRules_78 0 rfl
theorem dX12_findRules_81 : decode cX12_findRules 81 = .ok (.iload_n 3, 1) := all_at dvX12_findRules_78 1 rfl
theorem dX12_findRules_82 : decode cX12_findRules 82 = .ok (.iaload, 1) := all_at dvX12_findRules_78 2 rfl
theorem dX12_findRules_83 : decode cX12_findRules 83 = .ok (.iconst 3, 1) := all_at dvX12_findRules_78 3 rfl
theorem dX12_findRules_84 : decode cX12_findRules 84 = .ok (.if_icmp .ne 15, 3) := all_at dvX12_findRules_78 4 rfl
theorem dX12_findRules_87 : decode cX12_findRules 87 = .ok (.aload_n 0, 1) := all_at dvX12_findRules_78 5 rfl
theorem dX12_findRules_88 : decode cX12_findRules 88 = .ok (.getfield 89, 3) := all_at dvX12_findRules_78 6 rfl
theorem dX12_findRules_91 : decode cX12_findRules 91 = .ok (.aload_n 0, 1) := all_at dvX12_findRules_78 7 rfl
theorem dX12_findRules_92 : decode cX12_findRules 92 = .ok (.getfield 71, 3) := all_at dvX12_findRules_78 8 rfl
theorem dX12_findRules_95 : decode cX12_findRules 95 = .ok (.iload_n 3, 1) := all_at dvX12_findRules_78 9 rfl
theorem dX12_findRules_96 : decode cX12_findRules 96 = .ok (.iaload, 1) := all_at dvX12_findRules_78 10 rfl
theorem dX12_findRules_97 : decode cX12_findRules 97 = .ok (.iconst 0, 1) := all_at dvX12_findRules_78 11 rfl
theorem dX12_findRules_98 : decode cX12_findRules 98 = .ok (.bastore, 1) := all_at dvX12_findRules_78 12 rfl
theorem dX12_findRules_99 : decode cX12_findRules 99 = .ok (.iinc 3 1, 3) := all_at dvX12_findRules_78 13 rfl
theorem dX12_findRules_102 : decode cX12_findRules 102 = .ok (.goto (-49), 3) := all_at dvX12_findRules_78 14 rfl
theorem dX12_findRules_105 : decode cX12_findRules 105 = .ok (.iinc 2 (-1), 3) := all_at dvX12_findRules_78 15 rfl
theorem dX12_findRules_108 : decode cX12_findRules 108 = .ok (.goto (-64), 3) := all_at dvX12_findRules_78 16 rfl
theorem dX12_findRules_111 : decode cX12_findRules 111 = .ok (.aload_n 0, 1) := all_at dvX12_findRules_78 17 rfl
theorem dX12_findRules_112 : decode cX12_findRules 112 = .ok (.iconst 0, 1) := all_at dvX12_findRules_78 18 rfl
theorem dX12_findRules_113 : decode cX12_findRules 113 = .ok (.putfield 314, 3) := all_at dvX12_findRules_78 19 rfl
theorem dX12_findRules_116 : decode cX12_findRules 116 = .ok (.iconst 0, 1) := all_at dvX12_findRules_78 20 rfl
theorem dX12_findRules_117 : decode cX12_findRules 117 = .ok (.istore_n 2, 1) := all_at dvX12_findRules_78 21 rfl
theorem dX12_findRules_118 : decode cX12_findRules 118 = .ok (.iload_n 2, 1) := all_at dvX12_findRules_78 22 rfl
theorem dX12_findRules_119 : decode cX12_findRules 119 = .ok (.aload_n 0, 1) := all_at dvX12_findRules_78 23 rfl
set_option maxRecDepth 100000 in
theorem dvX12_findRules_120 : ([(120, .getfield 303, 3), (123, .if_icmp .ge 86, 3), (126, .aload_n 0, 1), (127, .getfield 89, 3), (130, .iload_n 2, 1), (131, .baload, 1), (132, .ifCond .eq 71, 3), (135, .aload_n 0, 1), (136, .getfield 314, 3), (139, .istore_n 3, 1), (140, .iload_n 3, 1), (141, .ifCond .le 45, 3), (144, .aload_n 0, 1), (145, .getfield 59, 3), (148, .aload_n 0, 1), (149, .getfield 93, 3), (152, .iload_n 3, 1), (153, .iconst 1, 1), (154, .isub, 1), (155, .iaload, 1), (156, .iaload, 1), (157, .aload_n 0, 1), (158, .getfield 59, 3), (161, .iload_n 2, 1)] : List (Nat × Instr × Nat)).all (fun q => decide (decode cX12_findRules q.1 = .ok (q.2.1, q.2.2))) = true := by decide +kernel
theorem dX12_findRules_120 : decode cX12_findRules 120 = .ok (.getfield 303, 3) := all_at dvX12_findRules_120 0 rfl
theorem dX12_findRules_123 : decode cX12_findRules 123 = .ok (.if_icmp .ge 86, 3) := all_at dvX12_findRules_120 1 rfl
theorem dX12_findRules_126 : decode cX12_findRules 126 = .ok (.aload_n 0, 1) := all_at dvX12_findRules_120 2 rfl
theorem dX12_findRules_127 : decode cX12_findRules 127 = .ok (.getfield 89, 3) := all_at dvX12_findRules_120 3 rfl
theorem dX12_findRules_130 : decode cX12_findRules 130 = .ok (.iload_n 2, 1) := all_at dvX12_findRules_120 4 rfl
theorem dX12_findRules_131 : decode cX12_findRules 131 = .ok (.baload, 1) := all_at dvX12_findRules_120 5 rfl
theorem dX12_findRules_132 : decode cX12_findRules 132 = .ok (.ifCond .eq 71, 3) := all_at dvX12_findRules_120 6 rfl
theorem dX12_findRules_135 : decode cX12_findRules 135 = .ok (.aload_n 0, 1) := all_at dvX12_findRules_120 7 rfl
theorem dX12_findRules_136 : decode cX12_findRules 136 = .ok (.getfield 314, 3) := all_at dvX12_findRules_120 8 rfl
theorem dX12_findRules_139 : decode cX12_findRules 139 = .ok (.istore_n 3, 1) := all_at dvX12_findRules_120 9 rfl
theorem dX12_findRules_140 : decode cX12_findRules 140 = .ok (.iload_n 3, 1) := all_at dvX12_findRules_120 10 rfl
theorem dX12_findRules_141 : decode cX12_findRules 141 = .ok (.ifCond .le 45, 3) := all_at dvX12_findRules_120 11 rfl
theorem dX12_findRules_144 : decode cX12_findRules 144 = .ok (.aload_n 0, 1) := all_at dvX12_findRules_120 12 rfl
theorem dX12_findRules_145 : decode cX12_findRules 145 = .ok (.getfield 59, 3) := all_at dvX12_findRules_120 13 rfl
theorem dX12_findRules_148 : decode cX12_findRules 148 = .ok (.aload_n 0, 1) := all_at dvX12_findRules_120 14 rfl
theorem dX12_findRules_149 : decode cX12_findRules 149 = .ok (.getfield 93, 3) := all_at dvX12_findRules_120 15 rfl
theorem dX12_findRules_152 : decode cX12_findRules 152 = .ok (.iload_n 3, 1) := all_at dvX12_findRules_120 16 rfl
theorem dX12_findRules_153 : decode cX12_findRules 153 = .ok (.iconst 1, 1) := all_at dvX12_findRules_120 17 rfl
theorem dX12_findRules_154 : decode cX12_findRules 154 = .ok (.isub, 1) := all_at dvX12_findRules_120 18 rfl
theorem dX12_findRules_155 : decode cX12_findRules 155 = .ok (.iaload, 1) := all_at dvX12_findRules_120 19 rfl
theorem dX12_findRules_156 : decode cX12_findRules 156 = .ok (.iaload, 1) := all_at dvX12_findRules_120 20 rfl
theorem dX12_findRules_157 : decode cX12_findRules 157 = .ok (.aload_n 0, 1) := all_at dvX12_findRules_120 21 rfl
theorem dX12_findRules_158 : decode cX12_findRules 158 = .ok (.getfield 59, 3) := all_at dvX12_findRules_120 22 rfl
theorem dX12_findRules_161 : decode cX12_findRules 161 = .ok (.iload_n 2, 1) := all_at dvX12_findRules_120 23 rfl
set_option maxRecDepth 100000 in
theorem dvX12_findRules_162 : ([(162, .iaload, 1), (163, .if_icmp .le 23, 3), (166, .aload_n 0, 1), (167, .getfield 93, 3), (170, .iload_n 3, 1), (171, .aload_n 0, 1), (172, .getfield 93, 3), (175, .iload_n 3, 1), (176, .iconst 1, 1), (177, .isub, 1), (178, .iaload, 1), (179, .iastore, 1), (180, .iinc 3 (-1), 3), (183, .goto (-43), 3), (186, .aload_n 0, 1), (187, .getfield 93, 3), (190, .iload_n 3, 1), (191, .iload_n 2, 1), (192, .iastore, 1), (193, .aload_n 0, 1), (194, .dup, 1), (195, .getfield 314, 3), (198, .iconst 1, 1), (199, .iadd, 1)] : List (Nat × Instr × Nat)).all (fun q => decide (decode cX12_findRules q.1 = .ok (q.2.1, q.2.2))) = true := by decide +kernel
theorem dX12_findRules_162 : decode cX12_findRules 162 = .ok (.iaload, 1) := all_at dvX12_findRules_162 0 rfl
theorem dX12_findRules_163 : decode cX12_findRules 163 = .ok (.if_icmp .le 23, 3) := all_at dvX12_findRules_162 1 rfl
theorem dX12_findRules_166 : decode cX12_findRules 166 = .ok (.aload_n 0, 1) := all_at dvX12_findRules_162 2 rfl
theorem dX12_findRules_167 : decode cX12_findRules 167 = .ok (.getfield 93, 3) := all_at dvX12_findRules_162 3 rfl
theorem dX12_findRules_170 : decode cX12_findRules 170 = .ok (.iload_n 3, 1) := all_at dvX12_findRules_162 4 rfl
theorem dX12_findRules_171 : decode cX12_findRules 171 = .ok (.aload_n 0, 1) := all_at dvX12_findRules_162 5 rfl
theorem dX12_findRules_172 : decode cX12_findRules 172 = .ok (.getfield 93, 3) := all_at dvX12_findRules_162 6 rfl
theorem dX12_findRules_175 : decode cX12_findRules 175 = .ok (.iload_n 3, 1) := all_at dvX12_findRules_162 7 rfl
theorem dX12_findRules_176 : decode cX12_findRules 176 = .ok (.iconst 1, 1) := all_at dvX12_findRules_162 8 rfl
theorem dX12_findRules_177 : decode cX12_findRules 177 = .ok (.isub, 1) := all_at dvX12_findRules_162 9 rfl
theorem dX12_findRules_178 : decode cX12_findRules 178 = .ok (.iaload, 1) := all_at dvX12_findRules_162 10 rfl
theorem dX12_findRules_179 : decode cX12_findRules 179 = .ok (.iastore, 1) := all_at dvX12_findRules_162 11 rfl
theorem dX12_findRules_180 : decode cX12_findRules 180 = .ok (.iinc 3 (-1), 3) := all_at dvX12_findRules_162 12 rfl
theorem dX12_findRules_183 : decode cX12_findRules 183 = .ok (.goto (-43), 3) := all_at dvX12_findRules_162 13 rfl
theorem dX12_findRules_186 : decode cX12_findRules 186 = .ok (.aload_n 0, 1) := all_at dvX12_findRules_162 14 rfl
theorem dX12_findRules_187 : decode cX12_findRules 187 = .ok (.getfield 93, 3) := all_at dvX12_findRules_162 15 rfl
theorem dX12_findRules_190 : decode cX12_findRules 190 = .ok (.iload_n 3, 1) := all_at dvX12_findRules_162 16 rfl
theorem dX12_findRules_191 : decode cX12_findRules 191 = .ok (.iload_n 2, 1) := all_at dvX12_findRules_162 17 rfl
theorem dX12_findRules_192 : decode cX12_findRules 192 = .ok (.iastore, 1) := all_at dvX12_findRules_162 18 rfl
theorem dX12_findRules_193 : decode cX12_findRules 193 = .ok (.aload_n 0, 1) := all_at dvX12_findRules_162 19 rfl
theorem dX12_findRules_194 : decode cX12_findRules 194 = .ok (.dup, 1) := all_at dvX12_findRules_162 20 rfl
theorem dX12_findRules_195 : decode cX12_findRules 195 = .ok (.getfield 314, 3) := all_at dvX12_findRules_162 21 rfl
theorem dX12_findRules_198 : decode cX12_findRules 198 = .ok (.iconst 1, 1) := all_at dvX12_findRules_162 22 rfl
theorem dX12_findRules_199 : decode cX12_findRules 199 = .ok (.iadd, 1) := all_at dvX12_findRules_162 23 rfl
set_option maxRecDepth 100000 in
theorem dvX12_findRules_200 : ([(200, .putfield 314, 3), (203, .iinc 2 1, 3), (206, .goto (-88), 3), (209, .return_, 1)] : List (Nat × Instr × Nat)).all (fun q => decide (decode cX12_findRules q.1 = .ok (q.2.1, q.2.2))) = true := by decide +kernel
theorem dX12_findRules_200 : decode cX12_findRules 200 = .ok (.putfield 314, 3) := all_at dvX12_findRules_200 0 rfl
theorem dX12_findRules_203 : decode cX12_findRules 203 = .ok (.iinc 2 1, 3) := all_at dvX12_findRules_200 1 rfl
theorem dX12_findRules_206 : decode cX12_findRules 206 = .ok (.goto (-88), 3) := all_at dvX12_findRules_200 2 rfl
theorem dX12_findRules_209 : decode cX12_findRules 209 = .ok (.return_, 1) := all_at dvX12_findRules_200 3 rfl
set_option maxRecDepth 100000 in
theorem dvX12_force_0 : ([(0, .iload_n 1, 1), (1, .i2l, 1), (2, .lconst 0, 1), (3, .ldc2_w 323, 3), (6, .invokestatic 167, 3), (9, .ifCond .eq 19, 3), (12, .iload_n 2, 1), (13, .invokestatic 216, 3), (16, .ifCond .eq 12, 3), (19, .aload_n 0, 1), (20, .iload_n 1, 1), (21, .iload_n 2, 1), (22, .invokevirtual 325, 3), (25, .goto 5, 3), (28, .ldc 178, 2), (30, .ireturn, 1)] : List (Nat × Instr × Nat)).all (fun q => decide (decode cX12_force q.1 = .ok (q.2.1, q.2.2))) = true := by decide +kernel
theorem dX12_force_0 : decode cX12_force 0 = .ok (.iload_n 1, 1) := all_at dvX12_force_0 0 rfl
theorem dX12_force_1 : decode cX12_force 1 = .ok (.i2l, 1) := all_at dvX12_force_0 1 rfl
theorem dX12_force_2 : decode cX12_force 2 = .ok (.lconst 0, 1) := all_at dvX12_force_0 2 rfl
theorem dX12_force_3 : decode cX12_force 3 = .ok (.ldc2_w 323, 3) := all_at dvX12_force_0 3 rfl
theorem dX12_force_6 : decode cX12_force 6 = .ok (.invokestatic 167, 3) := all_at dvX12_force_0 4 rfl
theorem dX12_force_9 : decode cX12_force 9 = .ok (.ifCond .eq 19, 3) := all_at dvX12_force_0 5 rfl
theorem dX12_force_12 : decode cX12_force 12 = .ok (.iload_n 2, 1) := all_at dvX12_force_0 6 rfl
theorem dX12_force_13 : decode cX12_force 13 = .ok (.invokestatic 216, 3) := all_at dvX12_force_0 7 rfl
theorem dX12_force_16 : decode cX12_force 16 = .ok (.ifCond .eq 12, 3) := all_at dvX12_force_0 8 rfl
theorem dX12_force_19 : decode cX12_force 19 = .ok (.aload_n 0, 1) := all_at dvX12_force_0 9 rfl
theorem dX12_force_20 : decode cX12_force 20 = .ok (.iload_n 1, 1) := all_at dvX12_force_0 10 rfl
theorem dX12_force_21 : decode cX12_force 21 = .ok (.iload_n 2, 1) := all_at dvX12_force_0 11 rfl
theorem dX12_force_22 : decode cX12_force 22 = .ok (.invokevirtual 325, 3) := all_at dvX12_force_0 12 rfl
theorem dX12_force_25 : decode cX12_force 25 = .ok (.goto 5, 3) := all_at dvX12_force_0 13 rfl
theorem dX12_force_28 : decode cX12_force 28 = .ok (.ldc 178, 2) := all_at dvX12_force_0 14 rfl
theorem dX12_force_30 : decode cX12_force 30 = .ok (.ireturn, 1) := all_at dvX12_force_0 15 rfl
set_option maxRecDepth 100000 in
theorem dvX12_forceOf_0 : ([(0, .aload_n 0, 1), (1, .iload_n 2, 1), (2, .invokevirtual 317, 3), (5, .iload_n 1, 1), (6, .invokestatic 320, 3), (9, .istore_n 3, 1), (10, .iconst 0, 1), (11, .istore 4, 2), (13, .iload 4, 2), (15, .aload_n 0, 1), (16, .getfield 314, 3), (19, .if_icmp .ge 124, 3), (22, .bipush 12, 2), (24, .aload_n 0, 1), (25, .getfield 93, 3), (28, .iload 4, 2), (30, .iaload, 1), (31, .imul, 1), (32, .istore 5, 2), (34, .iload 5, 2), (36, .bipush 12, 2), (38, .aload_n 0, 1), (39, .getfield 93, 3), (42, .iload 4, 2)] : List (Nat × Instr × Nat)).all (fun q => decide (decode cX12_forceOf q.1 = .ok (q.2.1, q.2.2))) = true := by decide +kernel
theorem dX12_forceOf_0 : decode cX12_forceOf 0 = .ok (.aload_n 0, 1) := all_at dvX12_forceOf_0 0 rfl
theorem dX12_forceOf_1 : decode cX12_forceOf 1 = .ok (.iload_n 2, 1) := all_at dvX12_forceOf_0 1 rfl
theorem dX12_forceOf_2 : decode cX12_forceOf 2 = .ok (.invokevirtual 317, 3) := all_at dvX12_forceOf_0 2 rfl
theorem dX12_forceOf_5 : decode cX12_forceOf 5 = .ok (.iload_n 1, 1) := all_at dvX12_forceOf_0 3 rfl
theorem dX12_forceOf_6 : decode cX12_forceOf 6 = .ok (.invokestatic 320, 3) := all_at dvX12_forceOf_0 4 rfl
theorem dX12_forceOf_9 : decode cX12_forceOf 9 = .ok (.istore_n 3, 1) := all_at dvX12_forceOf_0 5 rfl
theorem dX12_forceOf_10 : decode cX12_forceOf 10 = .ok (.iconst 0, 1) := all_at dvX12_forceOf_0 6 rfl
theorem dX12_forceOf_11 : decode cX12_forceOf 11 = .ok (.istore 4, 2) := all_at dvX12_forceOf_0 7 rfl
theorem dX12_forceOf_13 : decode cX12_forceOf 13 = .ok (.iload 4, 2) := all_at dvX12_forceOf_0 8 rfl
theorem dX12_forceOf_15 : decode cX12_forceOf 15 = .ok (.aload_n 0, 1) := all_at dvX12_forceOf_0 9 rfl
theorem dX12_forceOf_16 : decode cX12_forceOf 16 = .ok (.getfield 314, 3) := all_at dvX12_forceOf_0 10 rfl
theorem dX12_forceOf_19 : decode cX12_forceOf 19 = .ok (.if_icmp .ge 124, 3) := all_at dvX12_forceOf_0 11 rfl
theorem dX12_forceOf_22 : decode cX12_forceOf 22 = .ok (.bipush 12, 2) := all_at dvX12_forceOf_0 12 rfl
theorem dX12_forceOf_24 : decode cX12_forceOf 24 = .ok (.aload_n 0, 1) := all_at dvX12_forceOf_0 13 rfl
theorem dX12_forceOf_25 : decode cX12_forceOf 25 = .ok (.getfield 93, 3) := all_at dvX12_forceOf_0 14 rfl
theorem dX12_forceOf_28 : decode cX12_forceOf 28 = .ok (.iload 4, 2) := all_at dvX12_forceOf_0 15 rfl
theorem dX12_forceOf_30 : decode cX12_forceOf 30 = .ok (.iaload, 1) := all_at dvX12_forceOf_0 16 rfl
theorem dX12_forceOf_31 : decode cX12_forceOf 31 = .ok (.imul, 1) := all_at dvX12_forceOf_0 17 rfl
theorem dX12_forceOf_32 : decode cX12_forceOf 32 = .ok (.istore 5, 2) := all_at dvX12_forceOf_0 18 rfl
theorem dX12_forceOf_34 : decode cX12_forceOf 34 = .ok (.iload 5, 2) := all_at dvX12_forceOf_0 19 rfl
theorem dX12_forceOf_36 : decode cX12_forceOf 36 = .ok (.bipush 12, 2) := all_at dvX12_forceOf_0 20 rfl
theorem dX12_forceOf_38 : decode cX12_forceOf 38 = .ok (.aload_n 0, 1) := all_at dvX12_forceOf_0 21 rfl
theorem dX12_forceOf_39 : decode cX12_forceOf 39 = .ok (.getfield 93, 3) := all_at dvX12_forceOf_0 22 rfl
theorem dX12_forceOf_42 : decode cX12_forceOf 42 = .ok (.iload 4, 2) := all_at dvX12_forceOf_0 23 rfl
set_option maxRecDepth 100000 in
theorem dvX12_forceOf_44 : ([(44, .iaload, 1), (45, .imul, 1), (46, .aload_n 0, 1), (47, .getfield 62, 3), (50, .aload_n 0, 1), (51, .getfield 93, 3), (54, .iload 4, 2), (56, .iaload, 1), (57, .iaload, 1), (58, .iadd, 1), (59, .if_icmp .ge 78, 3), (62, .iload_n 1, 1), (63, .iconst 5, 1), (64, .if_icmp .ne 22, 3), (67, .aload_n 0, 1), (68, .getfield 65, 3), (71, .iload 5, 2), (73, .iaload, 1), (74, .iconst 1, 1), (75, .if_icmp .ne 7, 3), (78, .iconst 1, 1), (79, .goto 33, 3), (82, .iconst 0, 1), (83, .goto 29, 3)] : List (Nat × Instr × Nat)).all (fun q => decide (decode cX12_forceOf q.1 = .ok (q.2.1, q.2.2))) = true := by decide +kernel
theorem dX12_forceOf_44 : decode cX12_forceOf 44 = .ok (.iaload, 1) := all_at dvX12_forceOf_44 0 rfl
theorem dX12_forceOf_45 : decode cX12_forceOf 45 = .ok (.imul, 1) := all_at dvX12_forceOf_44 1 rfl
theorem dX12_forceOf_46 : decode cX12_forceOf 46 = .ok (.aload_n 0, 1) := all_at dvX12_forceOf_44 2 rfl
theorem dX12_forceOf_47 : decode cX12_forceOf 47 = .ok (.getfield 62, 3) := all_at dvX12_forceOf_44 3 rfl
theorem dX12_forceOf_50 : decode cX12_forceOf 50 = .ok (.aload_n 0, 1) := all_at dvX12_forceOf_44 4 rfl
theorem dX12_forceOf_51 : decode cX12_forceOf 51 = .ok (.getfield 93, 3) := all_at dvX12_forceOf_44 5 rfl
theorem dX12_forceOf_54 : decode cX12_forceOf 54 = .ok (.iload 4, 2) := all_at dvX12_forceOf_44 6 rfl
theorem dX12_forceOf_56 : decode cX12_forceOf 56 = .ok (.iaload, 1) := all_at dvX12_forceOf_44 7 rfl
theorem dX12_forceOf_57 : decode cX12_forceOf 57 = .ok (.iaload, 1) := all_at dvX12_forceOf_44 8 rfl
theorem dX12_forceOf_58 : decode cX12_forceOf 58 = .ok (.iadd, 1) := all_at dvX12_forceOf_44 9 rfl
theorem dX12_forceOf_59 : decode cX12_forceOf 59 = .ok (.if_icmp .ge 78, 3) := all_at dvX12_forceOf_44 10 rfl
theorem dX12_forceOf_62 : decode cX12_forceOf 62 = .ok (.iload_n 1, 1) := all_at dvX12_forceOf_44 11 rfl
theorem dX12_forceOf_63 : decode cX12_forceOf 63 = .ok (.iconst 5, 1) := all_at dvX12_forceOf_44 12 rfl
theorem dX12_forceOf_64 : decode cX12_forceOf 64 = .ok (.if_icmp .ne 22, 3) := all_at dvX12_forceOf_44 13 rfl
theorem dX12_forceOf_67 : decode cX12_forceOf 67 = .ok (.aload_n 0, 1) := all_at dvX12_forceOf_44 14 rfl
theorem dX12_forceOf_68 : decode cX12_forceOf 68 = .ok (.getfield 65, 3) := all_at dvX12_forceOf_44 15 rfl
theorem dX12_forceOf_71 : decode cX12_forceOf 71 = .ok (.iload 5, 2) := all_at dvX12_forceOf_44 16 rfl
theorem dX12_forceOf_73 : decode cX12_forceOf 73 = .ok (.iaload, 1) := all_at dvX12_forceOf_44 17 rfl
theorem dX12_forceOf_74 : decode cX12_forceOf 74 = .ok (.iconst 1, 1) := all_at dvX12_forceOf_44 18 rfl
theorem dX12_forceOf_75 : decode cX12_forceOf 75 = .ok (.if_icmp .ne 7, 3) := all_at dvX12_forceOf_44 19 rfl
theorem dX12_forceOf_78 : decode cX12_forceOf 78 = .ok (.iconst 1, 1) := all_at dvX12_forceOf_44 20 rfl
theorem dX12_forceOf_79 : decode cX12_forceOf 79 = .ok (.goto 33, 3) := all_at dvX12_forceOf_44 21 rfl
theorem dX12_forceOf_82 : decode cX12_forceOf 82 = .ok (.iconst 0, 1) := all_at dvX12_forceOf_44 22 rfl
theorem dX12_forceOf_83 : decode cX12_forceOf 83 = .ok (.goto 29, 3) := all_at dvX12_forceOf_44 23 rfl
set_option maxRecDepth 100000 in
theorem dvX12_forceOf_86 : ([(86, .aload_n 0, 1), (87, .getfield 65, 3), (90, .iload 5, 2), (92, .iaload, 1), (93, .ifCond .ne 18, 3), (96, .aload_n 0, 1), (97, .getfield 68, 3), (100, .iload 5, 2), (102, .iaload, 1), (103, .iload_n 1, 1), (104, .if_icmp .ne 7, 3), (107, .iconst 1, 1), (108, .goto 4, 3), (111, .iconst 0, 1), (112, .istore 6, 2), (114, .iload 6, 2), (116, .ifCond .eq 13, 3), (119, .aload_n 0, 1), (120, .getfield 71, 3), (123, .iload 5, 2), (125, .iaload, 1), (126, .goto 4, 3), (129, .iload_n 3, 1), (130, .istore_n 3, 1)] : List (Nat × Instr × Nat)).all (fun q => decide (decode cX12_forceOf q.1 = .ok (q.2.1, q.2.2))) = true := by decide +kernel
theorem dX12_forceOf_86 : decode cX12_forceOf 86 = .ok (.aload_n 0, 1) := all_at dvX12_forceOf_86 0 rfl
theorem dX12_forceOf_87 : decode cX12_forceOf 87 = .ok (.getfield 65, 3) := all_at dvX12_forceOf_86 1 rfl
theorem dX12_forceOf_90 : decode cX12_forceOf 90 = .ok (.iload 5, 2) := all_at dvX12_forceOf_86 2 rfl
theorem dX12_forceOf_92 : decode cX12_forceOf 92 = .ok (.iaload, 1) := all_at dvX12_forceOf_86 3 rfl
theorem dX12_forceOf_93 : decode cX12_forceOf 93 = .ok (.ifCond .ne 18, 3) := all_at dvX12_forceOf_86 4 rfl
theorem dX12_forceOf_96 : decode cX12_forceOf 96 = .ok (.aload_n 0, 1) := all_at dvX12_forceOf_86 5 rfl
theorem dX12_forceOf_97 : decode cX12_forceOf 97 = .ok (.getfield 68, 3) := all_at dvX12_forceOf_86 6 rfl
theorem dX12_forceOf_100 : decode cX12_forceOf 100 = .ok (.iload 5, 2) := all_at dvX12_forceOf_86 7 rfl
theorem dX12_forceOf_102 : decode cX12_forceOf 102 = .ok (.iaload, 1) := all_at dvX12_forceOf_86 8 rfl
theorem dX12_forceOf_103 : decode cX12_forceOf 103 = .ok (.iload_n 1, 1) := all_at dvX12_forceOf_86 9 rfl
theorem dX12_forceOf_104 : decode cX12_forceOf 104 = .ok (.if_icmp .ne 7, 3) := all_at dvX12_forceOf_86 10 rfl
theorem dX12_forceOf_107 : decode cX12_forceOf 107 = .ok (.iconst 1, 1) := all_at dvX12_forceOf_86 11 rfl
theorem dX12_forceOf_108 : decode cX12_forceOf 108 = .ok (.goto 4, 3) := all_at dvX12_forceOf_86 12 rfl
theorem dX12_forceOf_111 : decode cX12_forceOf 111 = .ok (.iconst 0, 1) := all_at dvX12_forceOf_86 13 rfl
theorem dX12_forceOf_112 : decode cX12_forceOf 112 = .ok (.istore 6, 2) := all_at dvX12_forceOf_86 14 rfl
theorem dX12_forceOf_114 : decode cX12_forceOf 114 = .ok (.iload 6, 2) := all_at dvX12_forceOf_86 15 rfl
theorem dX12_forceOf_116 : decode cX12_forceOf 116 = .ok (.ifCond .eq 13, 3) := all_at dvX12_forceOf_86 16 rfl
theorem dX12_forceOf_119 : decode cX12_forceOf 119 = .ok (.aload_n 0, 1) := all_at dvX12_forceOf_86 17 rfl
theorem dX12_forceOf_120 : decode cX12_forceOf 120 = .ok (.getfield 71, 3) := all_at dvX12_forceOf_86 18 rfl
theorem dX12_forceOf_123 : decode cX12_forceOf 123 = .ok (.iload 5, 2) := all_at dvX12_forceOf_86 19 rfl
theorem dX12_forceOf_125 : decode cX12_forceOf 125 = .ok (.iaload, 1) := all_at dvX12_forceOf_86 20 rfl
theorem dX12_forceOf_126 : decode cX12_forceOf 126 = .ok (.goto 4, 3) := all_at dvX12_forceOf_86 21 rfl
theorem dX12_forceOf_129 : decode cX12_forceOf 129 = .ok (.iload_n 3, 1) := all_at dvX12_forceOf_86 22 rfl
theorem dX12_forceOf_130 : decode cX12_forceOf 130 = .ok (.istore_n 3, 1) := all_at dvX12_forceOf_86 23 rfl
set_option maxRecDepth 100000 in
theorem dvX12_forceOf_131 : ([(131, .iinc 5 1, 3), (134, .goto (-100), 3), (137, .iinc 4 1, 3), (140, .goto (-127), 3), (143, .iload_n 3, 1), (144, .ireturn, 1)] : List (Nat × Instr × Nat)).all (fun q => decide (decode cX12_forceOf q.1 = .ok (q.2.1, q.2.2))) = true := by decide +kernel
theorem dX12_forceOf_131 : decode cX12_forceOf 131 = .ok (.iinc 5 1, 3) := all_at dvX12_forceOf_131 0 rfl
theorem dX12_forceOf_134 : decode cX12_forceOf 134 = .ok (.goto (-100), 3) := all_at dvX12_forceOf_131 1 rfl
theorem dX12_forceOf_137 : decode cX12_forceOf 137 = .ok (.iinc 4 1, 3) := all_at dvX12_forceOf_131 2 rfl
theorem dX12_forceOf_140 : decode cX12_forceOf 140 = .ok (.goto (-127), 3) := all_at dvX12_forceOf_131 3 rfl
theorem dX12_forceOf_143 : decode cX12_forceOf 143 = .ok (.iload_n 3, 1) := all_at dvX12_forceOf_131 4 rfl
theorem dX12_forceOf_144 : decode cX12_forceOf 144 = .ok (.ireturn, 1) := all_at dvX12_forceOf_131 5 rfl
set_option maxRecDepth 100000 in
theorem dvX12_named_0 : ([(0, .aload_n 0, 1), (1, .iload_n 1, 1), (2, .invokevirtual 183, 3), (5, .ifCond .eq 6, 3), (8, .ldc 187, 2), (10, .ireturn, 1), (11, .iload_n 2, 1), (12, .invokestatic 216, 3), (15, .ifCond .ne 6, 3), (18, .ldc 178, 2), (20, .ireturn, 1), (21, .aload_n 0, 1), (22, .getfield 109, 3), (25, .iload_n 1, 1), (26, .iaload, 1), (27, .istore_n 3, 1), (28, .iconst 0, 1), (29, .istore 4, 2), (31, .iconst 0, 1), (32, .istore 5, 2), (34, .iload 5, 2), (36, .iload_n 3, 1), (37, .if_icmp .ge 28, 3), (40, .iload 4, 2)] : List (Nat × Instr × Nat)).all (fun q => decide (decode cX12_named q.1 = .ok (q.2.1, q.2.2))) = true := by decide +kernel
theorem dX12_named_0 : decode cX12_named 0 = .ok (.aload_n 0, 1) := all_at dvX12_named_0 0 rfl
theorem dX12_named_1 : decode cX12_named 1 = .ok (.iload_n 1, 1) := all_at dvX12_named_0 1 rfl
theorem dX12_named_2 : decode cX12_named 2 = .ok (.invokevirtual 183, 3) := all_at dvX12_named_0 2 rfl
theorem dX12_named_5 : decode cX12_named 5 = .ok (.ifCond .eq 6, 3) := all_at dvX12_named_0 3 rfl
theorem dX12_named_8 : decode cX12_named 8 = .ok (.ldc 187, 2) := all_at dvX12_named_0 4 rfl
theorem dX12_named_10 : decode cX12_named 10 = .ok (.ireturn, 1) := all_at dvX12_named_0 5 rfl
theorem dX12_named_11 : decode cX12_named 11 = .ok (.iload_n 2, 1) := all_at dvX12_named_0 6 rfl
theorem dX12_named_12 : decode cX12_named 12 = .ok (.invokestatic 216, 3) := all_at dvX12_named_0 7 rfl
theorem dX12_named_15 : decode cX12_named 15 = .ok (.ifCond .ne 6, 3) := all_at dvX12_named_0 8 rfl
theorem dX12_named_18 : decode cX12_named 18 = .ok (.ldc 178, 2) := all_at dvX12_named_0 9 rfl
theorem dX12_named_20 : decode cX12_named 20 = .ok (.ireturn, 1) := all_at dvX12_named_0 10 rfl
theorem dX12_named_21 : decode cX12_named 21 = .ok (.aload_n 0, 1) := all_at dvX12_named_0 11 rfl
theorem dX12_named_22 : decode cX12_named 22 = .ok (.getfield 109, 3) := all_at dvX12_named_0 12 rfl
theorem dX12_named_25 : decode cX12_named 25 = .ok (.iload_n 1, 1) := all_at dvX12_named_0 13 rfl
theorem dX12_named_26 : decode cX12_named 26 = .ok (.iaload, 1) := all_at dvX12_named_0 14 rfl
theorem dX12_named_27 : decode cX12_named 27 = .ok (.istore_n 3, 1) := all_at dvX12_named_0 15 rfl
theorem dX12_named_28 : decode cX12_named 28 = .ok (.iconst 0, 1) := all_at dvX12_named_0 16 rfl
theorem dX12_named_29 : decode cX12_named 29 = .ok (.istore 4, 2) := all_at dvX12_named_0 17 rfl
theorem dX12_named_31 : decode cX12_named 31 = .ok (.iconst 0, 1) := all_at dvX12_named_0 18 rfl
theorem dX12_named_32 : decode cX12_named 32 = .ok (.istore 5, 2) := all_at dvX12_named_0 19 rfl
theorem dX12_named_34 : decode cX12_named 34 = .ok (.iload 5, 2) := all_at dvX12_named_0 20 rfl
theorem dX12_named_36 : decode cX12_named 36 = .ok (.iload_n 3, 1) := all_at dvX12_named_0 21 rfl
theorem dX12_named_37 : decode cX12_named 37 = .ok (.if_icmp .ge 28, 3) := all_at dvX12_named_0 22 rfl
theorem dX12_named_40 : decode cX12_named 40 = .ok (.iload 4, 2) := all_at dvX12_named_0 23 rfl
set_option maxRecDepth 100000 in
theorem dvX12_named_42 : ([(42, .iconst 2, 1), (43, .aload_n 0, 1), (44, .getfield 112, 3), (47, .bipush 12, 2), (49, .iload_n 1, 1), (50, .imul, 1), (51, .iload 5, 2), (53, .iadd, 1), (54, .iaload, 1), (55, .imul, 1), (56, .iadd, 1), (57, .istore 4, 2), (59, .iinc 5 1, 3), (62, .goto (-28), 3), (65, .aload_n 0, 1), (66, .iload_n 2, 1), (67, .invokevirtual 317, 3), (70, .iconst (-1), 1), (71, .istore 5, 2), (73, .iconst 0, 1), (74, .istore 6, 2), (76, .iload 6, 2), (78, .aload_n 0, 1), (79, .getfield 314, 3)] : List (Nat × Instr × Nat)).all (fun q => decide (decode cX12_named q.1 = .ok (q.2.1, q.2.2))) = true := by decide +kernel
theorem dX12_named_42 : decode cX12_named 42 = .ok (.iconst 2, 1) := all_at dvX12_named_42 0 rfl
theorem dX12_named_43 : decode cX12_named 43 = .ok (.aload_n 0, 1) := all_at dvX12_named_42 1 rfl
theorem dX12_named_44 : decode cX12_named 44 = .ok (.getfield 112, 3) := all_at dvX12_named_42 2 rfl
theorem dX12_named_47 : decode cX12_named 47 = .ok (.bipush 12, 2) := all_at dvX12_named_42 3 rfl
theorem dX12_named_49 : decode cX12_named 49 = .ok (.iload_n 1, 1) := all_at dvX12_named_42 4 rfl
theorem dX12_named_50 : decode cX12_named 50 = .ok (.imul, 1) := all_at dvX12_named_42 5 rfl
theorem dX12_named_51 : decode cX12_named 51 = .ok (.iload 5, 2) := all_at dvX12_named_42 6 rfl
theorem dX12_named_53 : decode cX12_named 53 = .ok (.iadd, 1) := all_at dvX12_named_42 7 rfl
theorem dX12_named_54 : decode cX12_named 54 = .ok (.iaload, 1) := all_at dvX12_named_42 8 rfl
theorem dX12_named_55 : decode cX12_named 55 = .ok (.imul, 1) := all_at dvX12_named_42 9 rfl
theorem dX12_named_56 : decode cX12_named 56 = .ok (.iadd, 1) := all_at dvX12_named_42 10 rfl
theorem dX12_named_57 : decode cX12_named 57 = .ok (.istore 4, 2) := all_at dvX12_named_42 11 rfl
theorem dX12_named_59 : decode cX12_named 59 = .ok (.iinc 5 1, 3) := all_at dvX12_named_42 12 rfl
theorem dX12_named_62 : decode cX12_named 62 = .ok (.goto (-28), 3) := all_at dvX12_named_42 13 rfl
theorem dX12_named_65 : decode cX12_named 65 = .ok (.aload_n 0, 1) := all_at dvX12_named_42 14 rfl
theorem dX12_named_66 : decode cX12_named 66 = .ok (.iload_n 2, 1) := all_at dvX12_named_42 15 rfl
theorem dX12_named_67 : decode cX12_named 67 = .ok (.invokevirtual 317, 3) := all_at dvX12_named_42 16 rfl
theorem dX12_named_70 : decode cX12_named 70 = .ok (.iconst (-1), 1) := all_at dvX12_named_42 17 rfl
theorem dX12_named_71 : decode cX12_named 71 = .ok (.istore 5, 2) := all_at dvX12_named_42 18 rfl
theorem dX12_named_73 : decode cX12_named 73 = .ok (.iconst 0, 1) := all_at dvX12_named_42 19 rfl
theorem dX12_named_74 : decode cX12_named 74 = .ok (.istore 6, 2) := all_at dvX12_named_42 20 rfl
theorem dX12_named_76 : decode cX12_named 76 = .ok (.iload 6, 2) := all_at dvX12_named_42 21 rfl
theorem dX12_named_78 : decode cX12_named 78 = .ok (.aload_n 0, 1) := all_at dvX12_named_42 22 rfl
theorem dX12_named_79 : decode cX12_named 79 = .ok (.getfield 314, 3) := all_at dvX12_named_42 23 rfl
set_option maxRecDepth 100000 in
theorem dvX12_named_82 : ([(82, .if_icmp .ge 107, 3), (85, .iload_n 3, 1), (86, .ifCond .le 103, 3), (89, .aload_n 0, 1), (90, .getfield 93, 3), (93, .iload 6, 2), (95, .iaload, 1), (96, .istore 7, 2), (98, .iconst 0, 1), (99, .istore 8, 2), (101, .iload 8, 2), (103, .aload_n 0, 1), (104, .getfield 62, 3), (107, .iload 7, 2), (109, .iaload, 1), (110, .if_icmp .ge 73, 3), (113, .bipush 12, 2), (115, .iload 7, 2), (117, .imul, 1), (118, .iload 8, 2), (120, .iadd, 1), (121, .istore 9, 2), (123, .aload_n 0, 1), (124, .getfield 65, 3)] : List (Nat × Instr × Nat)).all (fun q => decide (decode cX12_named q.1 = .ok (q.2.1, q.2.2))) = true := by decide +kernel
theorem dX12_named_82 : decode cX12_named 82 = .ok (.if_icmp .ge 107, 3) := all_at dvX12_named_82 0 rfl
theorem dX12_named_85 : decode cX12_named 85 = .ok (.iload_n 3, 1) := all_at dvX12_named_82 1 rfl
theorem dX12_named_86 : decode cX12_named 86 = .ok (.ifCond .le 103, 3) := all_at dvX12_named_82 2 rfl
theorem dX12_named_89 : decode cX12_named 89 = .ok (.aload_n 0, 1) := all_at dvX12_named_82 3 rfl
theorem dX12_named_90 : decode cX12_named 90 = .ok (.getfield 93, 3) := all_at dvX12_named_82 4 rfl
theorem dX12_named_93 : decode cX12_named 93 = .ok (.iload 6, 2) := all_at dvX12_named_82 5 rfl
theorem dX12_named_95 : decode cX12_named 95 = .ok (.iaload, 1) := all_at dvX12_named_82 6 rfl
theorem dX12_named_96 : decode cX12_named 96 = .ok (.istore 7, 2) := all_at dvX12_named_82 7 rfl
theorem dX12_named_98 : decode cX12_named 98 = .ok (.iconst 0, 1) := all_at dvX12_named_82 8 rfl
theorem dX12_named_99 : decode cX12_named 99 = .ok (.istore 8, 2) := all_at dvX12_named_82 9 rfl
theorem dX12_named_101 : decode cX12_named 101 = .ok (.iload 8, 2) := all_at dvX12_named_82 10 rfl
theorem dX12_named_103 : decode cX12_named 103 = .ok (.aload_n 0, 1) := all_at dvX12_named_82 11 rfl
theorem dX12_named_104 : decode cX12_named 104 = .ok (.getfield 62, 3) := all_at dvX12_named_82 12 rfl
theorem dX12_named_107 : decode cX12_named 107 = .ok (.iload 7, 2) := all_at dvX12_named_82 13 rfl
theorem dX12_named_109 : decode cX12_named 109 = .ok (.iaload, 1) := all_at dvX12_named_82 14 rfl
theorem dX12_named_110 : decode cX12_named 110 = .ok (.if_icmp .ge 73, 3) := all_at dvX12_named_82 15 rfl
theorem dX12_named_113 : decode cX12_named 113 = .ok (.bipush 12, 2) := all_at dvX12_named_82 16 rfl
theorem dX12_named_115 : decode cX12_named 115 = .ok (.iload 7, 2) := all_at dvX12_named_82 17 rfl
theorem dX12_named_117 : decode cX12_named 117 = .ok (.imul, 1) := all_at dvX12_named_82 18 rfl
theorem dX12_named_118 : decode cX12_named 118 = .ok (.iload 8, 2) := all_at dvX12_named_82 19 rfl
theorem dX12_named_120 : decode cX12_named 120 = .ok (.iadd, 1) := all_at dvX12_named_82 20 rfl
theorem dX12_named_121 : decode cX12_named 121 = .ok (.istore 9, 2) := all_at dvX12_named_82 21 rfl
theorem dX12_named_123 : decode cX12_named 123 = .ok (.aload_n 0, 1) := all_at dvX12_named_82 22 rfl
theorem dX12_named_124 : decode cX12_named 124 = .ok (.getfield 65, 3) := all_at dvX12_named_82 23 rfl
set_option maxRecDepth 100000 in
theorem dvX12_named_127 : ([(127, .iload 9, 2), (129, .iaload, 1), (130, .iconst 2, 1), (131, .if_icmp .ne 42, 3), (134, .iload 4, 2), (136, .iload_n 3, 1), (137, .aload_n 0, 1), (138, .getfield 71, 3), (141, .iload 9, 2), (143, .iaload, 1), (144, .imul, 1), (145, .if_icmp .lt 28, 3), (148, .iload 4, 2), (150, .iload_n 3, 1), (151, .aload_n 0, 1), (152, .getfield 74, 3), (155, .iload 9, 2), (157, .iaload, 1), (158, .imul, 1), (159, .if_icmp .ge 14, 3), (162, .bipush 100, 2), (164, .iload 7, 2), (166, .imul, 1), (167, .iload 8, 2)] : List (Nat × Instr × Nat)).all (fun q => decide (decode cX12_named q.1 = .ok (q.2.1, q.2.2))) = true := by decide +kernel
theorem dX12_named_127 : decode cX12_named 127 = .ok (.iload 9, 2) := all_at dvX12_named_127 0 rfl
theorem dX12_named_129 : decode cX12_named 129 = .ok (.iaload, 1) := all_at dvX12_named_127 1 rfl
theorem dX12_named_130 : decode cX12_named 130 = .ok (.iconst 2, 1) := all_at dvX12_named_127 2 rfl
theorem dX12_named_131 : decode cX12_named 131 = .ok (.if_icmp .ne 42, 3) := all_at dvX12_named_127 3 rfl
theorem dX12_named_134 : decode cX12_named 134 = .ok (.iload 4, 2) := all_at dvX12_named_127 4 rfl
theorem dX12_named_136 : decode cX12_named 136 = .ok (.iload_n 3, 1) := all_at dvX12_named_127 5 rfl
theorem dX12_named_137 : decode cX12_named 137 = .ok (.aload_n 0, 1) := all_at dvX12_named_127 6 rfl
theorem dX12_named_138 : decode cX12_named 138 = .ok (.getfield 71, 3) := all_at dvX12_named_127 7 rfl
theorem dX12_named_141 : decode cX12_named 141 = .ok (.iload 9, 2) := all_at dvX12_named_127 8 rfl
theorem dX12_named_143 : decode cX12_named 143 = .ok (.iaload, 1) := all_at dvX12_named_127 9 rfl
theorem dX12_named_144 : decode cX12_named 144 = .ok (.imul, 1) := all_at dvX12_named_127 10 rfl
theorem dX12_named_145 : decode cX12_named 145 = .ok (.if_icmp .lt 28, 3) := all_at dvX12_named_127 11 rfl
theorem dX12_named_148 : decode cX12_named 148 = .ok (.iload 4, 2) := all_at dvX12_named_127 12 rfl
theorem dX12_named_150 : decode cX12_named 150 = .ok (.iload_n 3, 1) := all_at dvX12_named_127 13 rfl
theorem dX12_named_151 : decode cX12_named 151 = .ok (.aload_n 0, 1) := all_at dvX12_named_127 14 rfl
theorem dX12_named_152 : decode cX12_named 152 = .ok (.getfield 74, 3) := all_at dvX12_named_127 15 rfl
theorem dX12_named_155 : decode cX12_named 155 = .ok (.iload 9, 2) := all_at dvX12_named_127 16 rfl
theorem dX12_named_157 : decode cX12_named 157 = .ok (.iaload, 1) := all_at dvX12_named_127 17 rfl
theorem dX12_named_158 : decode cX12_named 158 = .ok (.imul, 1) := all_at dvX12_named_127 18 rfl
theorem dX12_named_159 : decode cX12_named 159 = .ok (.if_icmp .ge 14, 3) := all_at dvX12_named_127 19 rfl
theorem dX12_named_162 : decode cX12_named 162 = .ok (.bipush 100, 2) := all_at dvX12_named_127 20 rfl
theorem dX12_named_164 : decode cX12_named 164 = .ok (.iload 7, 2) := all_at dvX12_named_127 21 rfl
theorem dX12_named_166 : decode cX12_named 166 = .ok (.imul, 1) := all_at dvX12_named_127 22 rfl
theorem dX12_named_167 : decode cX12_named 167 = .ok (.iload 8, 2) := all_at dvX12_named_127 23 rfl
set_option maxRecDepth 100000 in
theorem dvX12_named_169 : ([(169, .iadd, 1), (170, .goto 5, 3), (173, .iload 5, 2), (175, .istore 5, 2), (177, .iinc 8 1, 3), (180, .goto (-79), 3), (183, .iinc 6 1, 3), (186, .goto (-110), 3), (189, .iload 5, 2), (191, .ireturn, 1)] : List (Nat × Instr × Nat)).all (fun q => decide (decode cX12_named q.1 = .ok (q.2.1, q.2.2))) = true := by decide +kernel
theorem dX12_named_169 : decode cX12_named 169 = .ok (.iadd, 1) := all_at dvX12_named_169 0 rfl
theorem dX12_named_170 : decode cX12_named 170 = .ok (.goto 5, 3) := all_at dvX12_named_169 1 rfl
theorem dX12_named_173 : decode cX12_named 173 = .ok (.iload 5, 2) := all_at dvX12_named_169 2 rfl
theorem dX12_named_175 : decode cX12_named 175 = .ok (.istore 5, 2) := all_at dvX12_named_169 3 rfl
theorem dX12_named_177 : decode cX12_named 177 = .ok (.iinc 8 1, 3) := all_at dvX12_named_169 4 rfl
theorem dX12_named_180 : decode cX12_named 180 = .ok (.goto (-79), 3) := all_at dvX12_named_169 5 rfl
theorem dX12_named_183 : decode cX12_named 183 = .ok (.iinc 6 1, 3) := all_at dvX12_named_169 6 rfl
theorem dX12_named_186 : decode cX12_named 186 = .ok (.goto (-110), 3) := all_at dvX12_named_169 7 rfl
theorem dX12_named_189 : decode cX12_named 189 = .ok (.iload 5, 2) := all_at dvX12_named_169 8 rfl
theorem dX12_named_191 : decode cX12_named 191 = .ok (.ireturn, 1) := all_at dvX12_named_169 9 rfl
set_option maxHeartbeats 4000000 in
set_option maxRecDepth 100000 in
/-- X12_findRules -/
theorem c_X12_findRules (l : Launch) (dC : Nat → ClassId) (dI : Nat → Nat → Nat) (sz : Nat) (h : Nat) (g : Nat → Nat → Nat) (ca : Nat → Nat → ClassId) (iv : Nat → Nat → Int32) (lv : Nat → Nat → Int64) (fa : Nat → Nat → Nat → Int32) (la : Nat → Nat → Nat → Int64) (hI : IX iv fa) (a : Int32) (hJC : JCf (iv 12 23).toInt (fa 12 25) (fa 12 26) (fa 12 27) (fa 12 28)) : Met l yX12_findRules (wc yX12_findRules cX12_findRules 4 none) ({ frames := 0, cells := 0, slots := 0, locals := 0 } : Room) (pW (dC, dI) classes (WM h g ca iv lv fa la) (TM ca) sz [.ref h, .int a]) (va_Qv (fun (u : SS) => ∃ (na_12_39 : Nat → Int32) (na_12_40 : Nat → Int32) (ni_12_41 : Int32), (∀ j, inb (bA 12 39 j) (na_12_39 j)) ∧ (∀ j, inb (bA 12 40 j) (na_12_40 j)) ∧ inb (bI 12 41) ni_12_41 ∧ (∀ j : Nat, (j : Int) < (ni_12_41).toInt → (na_12_40 j).toInt < (iv 12 23).toInt) ∧ ((ni_12_41).toInt ≤ (iv 12 23).toInt) ∧ u = ((u2 iv 12 41 ni_12_41), lv, (u2 (u2 fa 12 39 na_12_39) 12 40 na_12_40), la)) (bM (dC, dI) h g ca (va_A (WM h g ca iv lv fa la) sz)) (va_A (WM h g ca iv lv fa la) sz)) 0 0 (va_A (WM h g ca iv lv fa la) sz) := by
  refine Met.ofW (cc := cX12_findRules) (maxL := 4) (ret := none) (by decide) rfl ?_
  intro p e s m args below meth c s₁ B hml hv
  obtain ⟨rfl, hsz, hP, hK, hD0⟩ := hv
  have hx := B.exec
  have hb := B.bytes
  have hr := B.returns
  have ht := tb_tl (atoms_spec (ws := wc yX12_findRules cX12_findRules 4 none) B.pre)
  have hown : s.vm.findClass RX12 = some m.cls := findClass_of_methodNamed B.named
  have hlocks := B.notSynchronized
  subst hsz
  have hD := hD0.self (sz := s.heap.size)
  generalize hAe : va_A (WM h g ca iv lv fa la) s.heap.size = A at hD ⊢
  have hA : ∀ q : Nat, s.heap.size ≤ q → A q := fun q h => by rw [← hAe]; exact Or.inr h
  have hS : va_S A s.heap s.heap [] := va_S.rf
  have hl := lv_entry [.ref h, .int a] (n := 4) (Nat.le_of_ble_eq_true rfl)
  rw [lg_entry_eq]
  generalize (lg_sl [.ref h, .int a] ++ List.replicate (4 - (lg_sl [.ref h, .int a]).length) Slot.unset).toArray = ls at hl ⊢
  have hl : lv_has ls 4 [(0, .ref h), (1, .int a)] := hl
  refine lv_iconst (v := 0) hx hb dX12_findRules_0 (by decide) ?_
  refine lv_istore_n (lv' := [(2, .int 0), (0, .ref h), (1, .int a)]) hx hb dX12_findRules_1 rfl hl (by decide) rfl (fun ls hl => ?_)
  have lp10204 : ∀ (nn10204 : Nat) (x10203_2 : Int32) (w10203_a_12_39 : Nat → Int32), 0 ≤ x10203_2.toInt ∧ x10203_2.toInt ≤ 8 → (∀ j, inb (bA 12 39 j) (w10203_a_12_39 j)) → 8 - x10203_2.toInt < (nn10204 : Int) → ∀ (H : Heap) (locs : List Loc), ∀ (ls : Array Slot), va_P (dC, dI) classes (WM h g ca iv lv (u2 fa 12 39 w10203_a_12_39) la) H → va_D A (WM h g ca iv lv (u2 fa 12 39 w10203_a_12_39) la) → va_S A s.heap H locs → lv_has ls 4 [(2, .int x10203_2), (0, .ref h), (1, .int a)] → W p l e ({ frames := 0, cells := 0, slots := 0, locals := 0 } : Room) s m ([.ref h, .int a] : List Value).toArray below meth c H locs 0 0 (MQ below (va_Qv (fun (u : SS) => ∃ (na_12_39 : Nat → Int32) (na_12_40 : Nat → Int32) (ni_12_41 : Int32), (∀ j, inb (bA 12 39 j) (na_12_39 j)) ∧ (∀ j, inb (bA 12 40 j) (na_12_40 j)) ∧ inb (bI 12 41) ni_12_41 ∧ (∀ j : Nat, (j : Int) < (ni_12_41).toInt → (na_12_40 j).toInt < (iv 12 23).toInt) ∧ ((ni_12_41).toInt ≤ (iv 12 23).toInt) ∧ u = ((u2 iv 12 41 ni_12_41), lv, (u2 (u2 fa 12 39 na_12_39) 12 40 na_12_40), la)) (bM (dC, dI) h g ca A) A) ([.ref h, .int a] : List Value).toArray s 0 0 A) (F0 m 2 ls []) := by
    intro nn10204
    induction nn10204 with
    | zero => intro x10203_2 w10203_a_12_39 hx10203_2 hw10203_a_12_39 hm10204; exfalso; omega
    | succ nn10204 ih10204 =>
      intro x10203_2 w10203_a_12_39 hx10203_2 hw10203_a_12_39 hm10204 H locs ls hP hD hS hl
      refine lv_iload_n hx hb dX12_findRules_2 rfl (lv_at hl 0 rfl) ?_
      refine lv_aload_n hx hb dX12_findRules_3 rfl (lv_at hl 1 rfl) ?_
      have i_12_23 : 0 ≤ (iv 12 23).toInt ∧ (iv 12 23).toInt ≤ 8 := hI.1 12 23
      refine gM_12_23 hx hb ht hown hK hP m_1162 (v := (iv 12 23)) rfl dX12_findRules_4 ?_
      refine lv_icmp_ge (tgt := 37) hx hb dX12_findRules_7 (by decide) (fun c10205 => ?_) (fun c10205 => ?_)
      · have fc10205 := z_le (rfl : ((iv 12 23)).toInt = _) (rfl : (x10203_2).toInt = _) c10205
        refine lv_aload_n hx hb dX12_findRules_37 rfl (lv_at hl 1 rfl) ?_
        refine gM_12_23 hx hb ht hown hK hP m_1162 (v := (iv 12 23)) rfl dX12_findRules_38 ?_
        refine lv_iconst (v := 1) hx hb dX12_findRules_41 (by decide) ?_
        refine lv_isub hx hb dX12_findRules_42 ?_
        refine lv_topi (fun v10206 ev10206 => ?_)
        have tv10206 := z_sub ev10206 (rfl : ((iv 12 23)).toInt = _) (by decide : (1 : Int32).toInt = 1) (by omega) (by omega)
        refine lv_istore_n (lv' := [(2, .int v10206), (0, .ref h), (1, .int a)]) hx hb dX12_findRules_43 rfl hl (by decide) rfl (fun ls hl => ?_)
        have lp11396 : ∀ (nn11396 : Nat) (x11395_2 : Int32) (w11395_a_12_39 : Nat → Int32), (-1) ≤ x11395_2.toInt ∧ x11395_2.toInt ≤ 7 → (∀ j, inb (bA 12 39 j) (w11395_a_12_39 j)) → (x11395_2 : Int32).toInt + 1 ≤ ((iv 12 23) : Int32).toInt → x11395_2.toInt - (-1) < (nn11396 : Int) → ∀ (H : Heap) (locs : List Loc), ∀ (ls : Array Slot), va_P (dC, dI) classes (WM h g ca iv lv (u2 fa 12 39 w11395_a_12_39) la) H → va_D A (WM h g ca iv lv (u2 fa 12 39 w11395_a_12_39) la) → va_S A s.heap H locs → lv_has ls 4 [(2, .int x11395_2), (0, .ref h), (1, .int a)] → W p l e ({ frames := 0, cells := 0, slots := 0, locals := 0 } : Room) s m ([.ref h, .int a] : List Value).toArray below meth c H locs 0 0 (MQ below (va_Qv (fun (u : SS) => ∃ (na_12_39 : Nat → Int32) (na_12_40 : Nat → Int32) (ni_12_41 : Int32), (∀ j, inb (bA 12 39 j) (na_12_39 j)) ∧ (∀ j, inb (bA 12 40 j) (na_12_40 j)) ∧ inb (bI 12 41) ni_12_41 ∧ (∀ j : Nat, (j : Int) < (ni_12_41).toInt → (na_12_40 j).toInt < (iv 12 23).toInt) ∧ ((ni_12_41).toInt ≤ (iv 12 23).toInt) ∧ u = ((u2 iv 12 41 ni_12_41), lv, (u2 (u2 fa 12 39 na_12_39) 12 40 na_12_40), la)) (bM (dC, dI) h g ca A) A) ([.ref h, .int a] : List Value).toArray s 0 0 A) (F0 m 44 ls []) := by
          intro nn11396
          induction nn11396 with
          | zero => intro x11395_2 w11395_a_12_39 hx11395_2 hw11395_a_12_39 hq11396_0 hm11396; exfalso; omega
          | succ nn11396 ih11396 =>
            intro x11395_2 w11395_a_12_39 hx11395_2 hw11395_a_12_39 hq11396_0 hm11396 H locs ls hP hD hS hl
            refine lv_iload_n hx hb dX12_findRules_44 rfl (lv_at hl 0 rfl) ?_
            refine lv_if_lt (tgt := 111) hx hb dX12_findRules_45 (by decide) (fun c11397 => ?_) (fun c11397 => ?_)
            · have fc11397 := z_lt (rfl : (x11395_2).toInt = _) (by decide : (0 : Int32).toInt = 0) c11397
              refine lv_aload_n hx hb dX12_findRules_111 rfl (lv_at hl 1 rfl) ?_
              refine lv_iconst (v := 0) hx hb dX12_findRules_112 (by decide) ?_
              refine pM_12_41 (v := 0) hx hb ht hown hK hP hD hS m_1180 dX12_findRules_113 (fun H locs hP hD hS => ?_)
              refine lv_iconst (v := 0) hx hb dX12_findRules_116 (by decide) ?_
              refine lv_istore_n (lv' := [(2, .int 0), (0, .ref h), (1, .int a)]) hx hb dX12_findRules_117 rfl hl (by decide) rfl (fun ls hl => ?_)
              have lp11871 : ∀ (nn11871 : Nat) (x11870_2 : Int32) (w11870_i_12_41 : Int32) (w11870_a_12_40 : Nat → Int32), 0 ≤ x11870_2.toInt ∧ x11870_2.toInt ≤ 8 → 0 ≤ w11870_i_12_41.toInt ∧ w11870_i_12_41.toInt ≤ 8 → (∀ j, inb (bA 12 40 j) (w11870_a_12_40 j)) → (∀ j : Nat, (j : Int) < (w11870_i_12_41 : Int32).toInt → (w11870_a_12_40 j).toInt < ((iv 12 23) : Int32).toInt) → (w11870_i_12_41 : Int32).toInt ≤ (x11870_2 : Int32).toInt → 0 ≤ (w11870_i_12_41 : Int32).toInt → (x11870_2 : Int32).toInt ≤ ((iv 12 23) : Int32).toInt → 8 - x11870_2.toInt < (nn11871 : Int) → ∀ (H : Heap) (locs : List Loc), ∀ (ls : Array Slot), va_P (dC, dI) classes (WM h g ca (u2 iv 12 41 w11870_i_12_41) lv (u2 (u2 fa 12 39 w11395_a_12_39) 12 40 w11870_a_12_40) la) H → va_D A (WM h g ca (u2 iv 12 41 w11870_i_12_41) lv (u2 (u2 fa 12 39 w11395_a_12_39) 12 40 w11870_a_12_40) la) → va_S A s.heap H locs → lv_has ls 4 [(2, .int x11870_2), (0, .ref h), (1, .int a)] → W p l e ({ frames := 0, cells := 0, slots := 0, locals := 0 } : Room) s m ([.ref h, .int a] : List Value).toArray below meth c H locs 0 0 (MQ below (va_Qv (fun (u : SS) => ∃ (na_12_39 : Nat → Int32) (na_12_40 : Nat → Int32) (ni_12_41 : Int32), (∀ j, inb (bA 12 39 j) (na_12_39 j)) ∧ (∀ j, inb (bA 12 40 j) (na_12_40 j)) ∧ inb (bI 12 41) ni_12_41 ∧ (∀ j : Nat, (j : Int) < (ni_12_41).toInt → (na_12_40 j).toInt < (iv 12 23).toInt) ∧ ((ni_12_41).toInt ≤ (iv 12 23).toInt) ∧ u = ((u2 iv 12 41 ni_12_41), lv, (u2 (u2 fa 12 39 na_12_39) 12 40 na_12_40), la)) (bM (dC, dI) h g ca A) A) ([.ref h, .int a] : List Value).toArray s 0 0 A) (F0 m 118 ls []) := by
                intro nn11871
                induction nn11871 with
                | zero => intro x11870_2 w11870_i_12_41 w11870_a_12_40 hx11870_2 hw11870_i_12_41 hw11870_a_12_40 hq11871_0 hq11871_1 hq11871_2 hq11871_3 hm11871; exfalso; omega
                | succ nn11871 ih11871 =>
                  intro x11870_2 w11870_i_12_41 w11870_a_12_40 hx11870_2 hw11870_i_12_41 hw11870_a_12_40 hq11871_0 hq11871_1 hq11871_2 hq11871_3 hm11871 H locs ls hP hD hS hl
                  refine lv_iload_n hx hb dX12_findRules_118 rfl (lv_at hl 0 rfl) ?_
                  refine lv_aload_n hx hb dX12_findRules_119 rfl (lv_at hl 1 rfl) ?_
                  refine gM_12_23 hx hb ht hown hK hP m_1162 (v := (iv 12 23)) rfl dX12_findRules_120 ?_
                  refine lv_icmp_ge (tgt := 209) hx hb dX12_findRules_123 (by decide) (fun c11872 => ?_) (fun c11872 => ?_)
                  · have fc11872 := z_le (rfl : ((iv 12 23)).toInt = _) (rfl : (x11870_2).toInt = _) c11872
                    have hP9 : va_P (dC, dI) classes (WM h g ca (u2 iv 12 41 w11870_i_12_41) lv (u2 (u2 fa 12 39 w11395_a_12_39) 12 40 w11870_a_12_40) la) H := hP
                    have hD9 : va_D A (WM h g ca (u2 iv 12 41 w11870_i_12_41) lv (u2 (u2 fa 12 39 w11395_a_12_39) 12 40 w11870_a_12_40) la) := hD
                    exact W.vret hx hb hr (fun t ht9 hW => ⟨⟨((u2 iv 12 41 w11870_i_12_41), lv, (u2 (u2 fa 12 39 w11395_a_12_39) 12 40 w11870_a_12_40), la), rfl, ⟨w11395_a_12_39, w11870_a_12_40, w11870_i_12_41, hw11395_a_12_39, hw11870_a_12_40, (show inb (0, 8) w11870_i_12_41 from ⟨by omega, by omega⟩), (show ∀ j : Nat, (j : Int) < (w11870_i_12_41 : Int32).toInt → (w11870_a_12_40 j).toInt < ((iv 12 23) : Int32).toInt from hq11871_0), (show (w11870_i_12_41 : Int32).toInt ≤ ((iv 12 23) : Int32).toInt from by omega), rfl⟩, by rw [ht9]; exact hP9, hD9⟩, hS.F ht9⟩) hS.2.2 dX12_findRules_209
                  · have fc11872 := z_nle (rfl : ((iv 12 23)).toInt = _) (rfl : (x11870_2).toInt = _) c11872
                    refine lv_aload_n hx hb dX12_findRules_126 rfl (lv_at hl 1 rfl) ?_
                    refine gM_12_39 hx hb ht hown hK hP m_1178 dX12_findRules_127 ?_
                    refine lv_iload_n hx hb dX12_findRules_130 rfl (lv_at hl 0 rfl) ?_
                    refine lM_12_39 hx hb hK hP (f := w11395_a_12_39) rfl (vp_in_iff.mpr ⟨by omega, by omega⟩) dX12_findRules_131 ?_
                    refine lv_topi (fun v11873 ev11873 => ?_)
                    have tv11873 : 0 ≤ v11873.toInt ∧ v11873.toInt ≤ 1 := by rw [ev11873]; exact hw11395_a_12_39 _
                    refine lv_if_eq (tgt := 203) hx hb dX12_findRules_132 (by decide) (fun c11874 => ?_) (fun c11874 => ?_)
                    · have fc11874 := z_eq (rfl : (v11873).toInt = _) (by decide : (0 : Int32).toInt = 0) c11874
                      obtain ⟨v11875, ev11875⟩ : ∃ y : Int32, y = x11870_2 + 1 := ⟨_, rfl⟩
                      have tv11875 := z_add ev11875 rfl (by decide : (1 : Int32).toInt = 1) (by omega) (by omega)
                      refine lv_iinc (v := v11875) (lv' := [(2, .int v11875), (0, .ref h), (1, .int a)]) hx hb dX12_findRules_203 hl (k := 0) rfl (by rw [ev11875]; rfl) (by decide) rfl (fun ls hl => ?_)
                      refine lv_goto (tgt := 118) hx hb dX12_findRules_206 (by decide) ?_
                      exact ih11871 v11875 w11870_i_12_41 w11870_a_12_40 ⟨by omega, by omega⟩ ⟨by omega, by omega⟩ hw11870_a_12_40 (show ∀ j : Nat, (j : Int) < (w11870_i_12_41 : Int32).toInt → (w11870_a_12_40 j).toInt < ((iv 12 23) : Int32).toInt from hq11871_0) (show (w11870_i_12_41 : Int32).toInt ≤ (v11875 : Int32).toInt from by omega) (show 0 ≤ (w11870_i_12_41 : Int32).toInt from by omega) (show (v11875 : Int32).toInt ≤ ((iv 12 23) : Int32).toInt from by omega) (by omega) _ _ ls hP hD hS (lv_sub hl [0, 1, 2] rfl)
                    · have fc11874 := z_ne (rfl : (v11873).toInt = _) (by decide : (0 : Int32).toInt = 0) c11874
                      refine lv_aload_n hx hb dX12_findRules_135 rfl (lv_at hl 1 rfl) ?_
                      refine gM_12_41 hx hb ht hown hK hP m_1180 (v := w11870_i_12_41) rfl dX12_findRules_136 ?_
                      refine lv_istore_n (lv' := [(3, .int w11870_i_12_41), (2, .int x11870_2), (0, .ref h), (1, .int a)]) hx hb dX12_findRules_139 rfl hl (by decide) rfl (fun ls hl => ?_)
                      have lp11911 : ∀ (nn11911 : Nat) (x11910_3 : Int32) (w11910_a_12_40 : Nat → Int32), 0 ≤ x11910_3.toInt ∧ x11910_3.toInt ≤ 8 → (∀ j, inb (bA 12 40 j) (w11910_a_12_40 j)) → (∀ j : Nat, (j : Int) ≤ (w11870_i_12_41 : Int32).toInt → (j : Int) ≠ (x11910_3 : Int32).toInt → (w11910_a_12_40 j).toInt < ((iv 12 23) : Int32).toInt) → (x11910_3 : Int32).toInt ≤ (w11870_i_12_41 : Int32).toInt → 0 ≤ (x11910_3 : Int32).toInt → x11910_3.toInt - 0 < (nn11911 : Int) → ∀ (H : Heap) (locs : List Loc), ∀ (ls : Array Slot), va_P (dC, dI) classes (WM h g ca (u2 iv 12 41 w11870_i_12_41) lv (u2 (u2 fa 12 39 w11395_a_12_39) 12 40 w11910_a_12_40) la) H → va_D A (WM h g ca (u2 iv 12 41 w11870_i_12_41) lv (u2 (u2 fa 12 39 w11395_a_12_39) 12 40 w11910_a_12_40) la) → va_S A s.heap H locs → lv_has ls 4 [(3, .int x11910_3), (2, .int x11870_2), (0, .ref h), (1, .int a)] → W p l e ({ frames := 0, cells := 0, slots := 0, locals := 0 } : Room) s m ([.ref h, .int a] : List Value).toArray below meth c H locs 0 0 (MQ below (va_Qv (fun (u : SS) => ∃ (na_12_39 : Nat → Int32) (na_12_40 : Nat → Int32) (ni_12_41 : Int32), (∀ j, inb (bA 12 39 j) (na_12_39 j)) ∧ (∀ j, inb (bA 12 40 j) (na_12_40 j)) ∧ inb (bI 12 41) ni_12_41 ∧ (∀ j : Nat, (j : Int) < (ni_12_41).toInt → (na_12_40 j).toInt < (iv 12 23).toInt) ∧ ((ni_12_41).toInt ≤ (iv 12 23).toInt) ∧ u = ((u2 iv 12 41 ni_12_41), lv, (u2 (u2 fa 12 39 na_12_39) 12 40 na_12_40), la)) (bM (dC, dI) h g ca A) A) ([.ref h, .int a] : List Value).toArray s 0 0 A) (F0 m 140 ls []) := by
                        intro nn11911
                        induction nn11911 with
                        | zero => intro x11910_3 w11910_a_12_40 hx11910_3 hw11910_a_12_40 hq11911_0 hq11911_1 hq11911_2 hm11911; exfalso; omega
                        | succ nn11911 ih11911 =>
                          intro x11910_3 w11910_a_12_40 hx11910_3 hw11910_a_12_40 hq11911_0 hq11911_1 hq11911_2 hm11911 H locs ls hP hD hS hl
                          refine lv_iload_n hx hb dX12_findRules_140 rfl (lv_at hl 0 rfl) ?_
                          refine lv_if_le (tgt := 186) hx hb dX12_findRules_141 (by decide) (fun c11912 => ?_) (fun c11912 => ?_)
                          · have fc11912 := z_le (rfl : (x11910_3).toInt = _) (by decide : (0 : Int32).toInt = 0) c11912
                            refine lv_aload_n hx hb dX12_findRules_186 rfl (lv_at hl 2 rfl) ?_
                            refine gM_12_40 hx hb ht hown hK hP m_1179 dX12_findRules_187 ?_
                            refine lv_iload_n hx hb dX12_findRules_190 rfl (lv_at hl 0 rfl) ?_
                            refine lv_iload_n hx hb dX12_findRules_191 rfl (lv_at hl 1 rfl) ?_
                            refine tM_12_40 hx hb hK hP hD hS (f0 := w11910_a_12_40) rfl (i := x11910_3) (x := x11870_2) (vp_in_iff.mpr ⟨by omega, by omega⟩) dX12_findRules_192 (fun f11913 ef11913 H locs hP hD hS => ?_)
                            have hf11913 : ∀ j, inb (bA 12 40 j) (f11913 j) := by rw [ef11913]; exact upd_b (b := bA 12 40) hw11910_a_12_40 (show inb (0, 7) x11870_2 from ⟨by omega, by omega⟩)
                            have hP : va_P (dC, dI) classes (WM h g ca (u2 iv 12 41 w11870_i_12_41) lv (u2 (u2 fa 12 39 w11395_a_12_39) 12 40 f11913) la) H := hP
                            have hD : va_D A (WM h g ca (u2 iv 12 41 w11870_i_12_41) lv (u2 (u2 fa 12 39 w11395_a_12_39) 12 40 f11913) la) := hD
                            refine lv_aload_n hx hb dX12_findRules_193 rfl (lv_at hl 2 rfl) ?_
                            refine lv_dup hx hb dX12_findRules_194 rfl ?_
                            refine gM_12_41 hx hb ht hown hK hP m_1180 (v := w11870_i_12_41) rfl dX12_findRules_195 ?_
                            refine lv_iconst (v := 1) hx hb dX12_findRules_198 (by decide) ?_
                            refine lv_iadd hx hb dX12_findRules_199 ?_
                            refine lv_topi (fun v11914 ev11914 => ?_)
                            have tv11914 := z_add ev11914 (rfl : (w11870_i_12_41).toInt = _) (by decide : (1 : Int32).toInt = 1) (by omega) (by omega)
                            have : 0 ≤ (v11914 : Int32).toInt ∧ (v11914 : Int32).toInt ≤ 8 := ⟨by omega, by omega⟩
                            refine pM_12_41 (v := v11914) hx hb ht hown hK hP hD hS m_1180 dX12_findRules_200 (fun H locs hP hD hS => ?_)
                            have hP : va_P (dC, dI) classes (WM h g ca (u2 iv 12 41 v11914) lv (u2 (u2 fa 12 39 w11395_a_12_39) 12 40 f11913) la) H := hP
                            have hD : va_D A (WM h g ca (u2 iv 12 41 v11914) lv (u2 (u2 fa 12 39 w11395_a_12_39) 12 40 f11913) la) := hD
                            obtain ⟨v11915, ev11915⟩ : ∃ y : Int32, y = x11870_2 + 1 := ⟨_, rfl⟩
                            have tv11915 := z_add ev11915 rfl (by decide : (1 : Int32).toInt = 1) (by omega) (by omega)
                            refine lv_iinc (v := v11915) (lv' := [(2, .int v11915), (3, .int x11910_3), (0, .ref h), (1, .int a)]) hx hb dX12_findRules_203 hl (k := 1) rfl (by rw [ev11915]; rfl) (by decide) rfl (fun ls hl => ?_)
                            refine lv_goto (tgt := 118) hx hb dX12_findRules_206 (by decide) ?_
                            exact ih11871 v11915 v11914 f11913 ⟨by omega, by omega⟩ ⟨by omega, by omega⟩ hf11913 (show ∀ j : Nat, (j : Int) < (v11914 : Int32).toInt → (f11913 j).toInt < ((iv 12 23) : Int32).toInt from (fun j h => by
                                  rw [ef11913]
                                  by_cases hj : j = (x11910_3 : Int32).toNatClampNeg
                                  · rw [hj, upd_eq]; omega
                                  · rw [upd_ne hj]; have hj2 : j ≠ (x11910_3 : Int32).toInt.toNat := hj; exact hq11911_0 j (by omega) (by omega))) (show (v11914 : Int32).toInt ≤ (v11915 : Int32).toInt from by omega) (show 0 ≤ (v11914 : Int32).toInt from by omega) (show (v11915 : Int32).toInt ≤ ((iv 12 23) : Int32).toInt from by omega) (by omega) _ _ ls hP hD hS (lv_sub hl [0, 2, 3] rfl)
                          · have fc11912 := z_nle (rfl : (x11910_3).toInt = _) (by decide : (0 : Int32).toInt = 0) c11912
                            refine lv_aload_n hx hb dX12_findRules_144 rfl (lv_at hl 2 rfl) ?_
                            refine gM_12_24 hx hb ht hown hK hP m_1163 dX12_findRules_145 ?_
                            refine lv_aload_n hx hb dX12_findRules_148 rfl (lv_at hl 2 rfl) ?_
                            refine gM_12_40 hx hb ht hown hK hP m_1179 dX12_findRules_149 ?_
                            refine lv_iload_n hx hb dX12_findRules_152 rfl (lv_at hl 0 rfl) ?_
                            refine lv_iconst (v := 1) hx hb dX12_findRules_153 (by decide) ?_
                            refine lv_isub hx hb dX12_findRules_154 ?_
                            refine lv_topi (fun v11916 ev11916 => ?_)
                            have tv11916 := z_sub ev11916 (rfl : (x11910_3).toInt = _) (by decide : (1 : Int32).toInt = 1) (by omega) (by omega)
                            refine lM_12_40 hx hb hK hP (f := w11910_a_12_40) rfl (vp_in_iff.mpr ⟨by omega, by omega⟩) dX12_findRules_155 ?_
                            refine lv_topi (fun v11917 ev11917 => ?_)
                            have tv11917 : 0 ≤ v11917.toInt ∧ v11917.toInt ≤ 7 := by rw [ev11917]; exact hw11910_a_12_40 _
                            refine lM_12_24 hx hb hK hP (f := (fa 12 24)) rfl (vp_in_iff.mpr ⟨by omega, by omega⟩) dX12_findRules_156 ?_
                            refine lv_topi (fun v11918 ev11918 => ?_)
                            refine lv_aload_n hx hb dX12_findRules_157 rfl (lv_at hl 2 rfl) ?_
                            refine gM_12_24 hx hb ht hown hK hP m_1163 dX12_findRules_158 ?_
                            refine lv_iload_n hx hb dX12_findRules_161 rfl (lv_at hl 1 rfl) ?_
                            refine lM_12_24 hx hb hK hP (f := (fa 12 24)) rfl (vp_in_iff.mpr ⟨by omega, by omega⟩) dX12_findRules_162 ?_
                            refine lv_topi (fun v11919 ev11919 => ?_)
                            refine lv_icmp_le (tgt := 186) hx hb dX12_findRules_163 (by decide) (fun c11920 => ?_) (fun c11920 => ?_)
                            · have fc11920 := z_le (rfl : (v11918).toInt = _) (rfl : (v11919).toInt = _) c11920
                              refine lv_aload_n hx hb dX12_findRules_186 rfl (lv_at hl 2 rfl) ?_
                              refine gM_12_40 hx hb ht hown hK hP m_1179 dX12_findRules_187 ?_
                              refine lv_iload_n hx hb dX12_findRules_190 rfl (lv_at hl 0 rfl) ?_
                              refine lv_iload_n hx hb dX12_findRules_191 rfl (lv_at hl 1 rfl) ?_
                              have : 0 ≤ (x11910_3 : Int32).toInt ∧ (x11910_3 : Int32).toInt ≤ 7 := ⟨by omega, by omega⟩
                              refine tM_12_40 hx hb hK hP hD hS (f0 := w11910_a_12_40) rfl (i := x11910_3) (x := x11870_2) (vp_in_iff.mpr ⟨by omega, by omega⟩) dX12_findRules_192 (fun f11921 ef11921 H locs hP hD hS => ?_)
                              have hf11921 : ∀ j, inb (bA 12 40 j) (f11921 j) := by rw [ef11921]; exact upd_b (b := bA 12 40) hw11910_a_12_40 (show inb (0, 7) x11870_2 from ⟨by omega, by omega⟩)
                              have hP : va_P (dC, dI) classes (WM h g ca (u2 iv 12 41 w11870_i_12_41) lv (u2 (u2 fa 12 39 w11395_a_12_39) 12 40 f11921) la) H := hP
                              have hD : va_D A (WM h g ca (u2 iv 12 41 w11870_i_12_41) lv (u2 (u2 fa 12 39 w11395_a_12_39) 12 40 f11921) la) := hD
                              refine lv_aload_n hx hb dX12_findRules_193 rfl (lv_at hl 2 rfl) ?_
                              refine lv_dup hx hb dX12_findRules_194 rfl ?_
                              refine gM_12_41 hx hb ht hown hK hP m_1180 (v := w11870_i_12_41) rfl dX12_findRules_195 ?_
                              refine lv_iconst (v := 1) hx hb dX12_findRules_198 (by decide) ?_
                              refine lv_iadd hx hb dX12_findRules_199 ?_
                              refine lv_topi (fun v11922 ev11922 => ?_)
                              have tv11922 := z_add ev11922 (rfl : (w11870_i_12_41).toInt = _) (by decide : (1 : Int32).toInt = 1) (by omega) (by omega)
                              have : 0 ≤ (v11922 : Int32).toInt ∧ (v11922 : Int32).toInt ≤ 8 := ⟨by omega, by omega⟩
                              refine pM_12_41 (v := v11922) hx hb ht hown hK hP hD hS m_1180 dX12_findRules_200 (fun H locs hP hD hS => ?_)
                              have hP : va_P (dC, dI) classes (WM h g ca (u2 iv 12 41 v11922) lv (u2 (u2 fa 12 39 w11395_a_12_39) 12 40 f11921) la) H := hP
                              have hD : va_D A (WM h g ca (u2 iv 12 41 v11922) lv (u2 (u2 fa 12 39 w11395_a_12_39) 12 40 f11921) la) := hD
                              obtain ⟨v11923, ev11923⟩ : ∃ y : Int32, y = x11870_2 + 1 := ⟨_, rfl⟩
                              have tv11923 := z_add ev11923 rfl (by decide : (1 : Int32).toInt = 1) (by omega) (by omega)
                              refine lv_iinc (v := v11923) (lv' := [(2, .int v11923), (3, .int x11910_3), (0, .ref h), (1, .int a)]) hx hb dX12_findRules_203 hl (k := 1) rfl (by rw [ev11923]; rfl) (by decide) rfl (fun ls hl => ?_)
                              refine lv_goto (tgt := 118) hx hb dX12_findRules_206 (by decide) ?_
                              exact ih11871 v11923 v11922 f11921 ⟨by omega, by omega⟩ ⟨by omega, by omega⟩ hf11921 (show ∀ j : Nat, (j : Int) < (v11922 : Int32).toInt → (f11921 j).toInt < ((iv 12 23) : Int32).toInt from (fun j h => by
                                    rw [ef11921]
                                    by_cases hj : j = (x11910_3 : Int32).toNatClampNeg
                                    · rw [hj, upd_eq]; omega
                                    · rw [upd_ne hj]; have hj2 : j ≠ (x11910_3 : Int32).toInt.toNat := hj; exact hq11911_0 j (by omega) (by omega))) (show (v11922 : Int32).toInt ≤ (v11923 : Int32).toInt from by omega) (show 0 ≤ (v11922 : Int32).toInt from by omega) (show (v11923 : Int32).toInt ≤ ((iv 12 23) : Int32).toInt from by omega) (by omega) _ _ ls hP hD hS (lv_sub hl [0, 2, 3] rfl)
                            · have fc11920 := z_nle (rfl : (v11918).toInt = _) (rfl : (v11919).toInt = _) c11920
                              refine lv_aload_n hx hb dX12_findRules_166 rfl (lv_at hl 2 rfl) ?_
                              refine gM_12_40 hx hb ht hown hK hP m_1179 dX12_findRules_167 ?_
                              refine lv_iload_n hx hb dX12_findRules_170 rfl (lv_at hl 0 rfl) ?_
                              refine lv_aload_n hx hb dX12_findRules_171 rfl (lv_at hl 2 rfl) ?_
                              refine gM_12_40 hx hb ht hown hK hP m_1179 dX12_findRules_172 ?_
                              refine lv_iload_n hx hb dX12_findRules_175 rfl (lv_at hl 0 rfl) ?_
                              refine lv_iconst (v := 1) hx hb dX12_findRules_176 (by decide) ?_
                              refine lv_isub hx hb dX12_findRules_177 ?_
                              refine lv_topi (fun v11924 ev11924 => ?_)
                              obtain rfl : v11916 = v11924 := ev11916.trans ev11924.symm
                              refine lM_12_40 hx hb hK hP (f := w11910_a_12_40) rfl (vp_in_iff.mpr ⟨by omega, by omega⟩) dX12_findRules_178 ?_
                              refine lv_topi (fun v11925 ev11925 => ?_)
                              obtain rfl : v11917 = v11925 := ev11917.trans ev11925.symm
                              have : 0 ≤ (x11910_3 : Int32).toInt ∧ (x11910_3 : Int32).toInt ≤ 7 := ⟨by omega, by omega⟩
                              refine tM_12_40 hx hb hK hP hD hS (f0 := w11910_a_12_40) rfl (i := x11910_3) (x := v11917) (vp_in_iff.mpr ⟨by omega, by omega⟩) dX12_findRules_179 (fun f11926 ef11926 H locs hP hD hS => ?_)
                              have hf11926 : ∀ j, inb (bA 12 40 j) (f11926 j) := by rw [ef11926]; exact upd_b (b := bA 12 40) hw11910_a_12_40 (show inb (0, 7) v11917 from ⟨by omega, by omega⟩)
                              have hP : va_P (dC, dI) classes (WM h g ca (u2 iv 12 41 w11870_i_12_41) lv (u2 (u2 fa 12 39 w11395_a_12_39) 12 40 f11926) la) H := hP
                              have hD : va_D A (WM h g ca (u2 iv 12 41 w11870_i_12_41) lv (u2 (u2 fa 12 39 w11395_a_12_39) 12 40 f11926) la) := hD
                              obtain ⟨v11927, ev11927⟩ : ∃ y : Int32, y = x11910_3 + (-1) := ⟨_, rfl⟩
                              have tv11927 := z_add ev11927 rfl (by decide : ((-1) : Int32).toInt = (-1)) (by omega) (by omega)
                              refine lv_iinc (v := v11927) (lv' := [(3, .int v11927), (2, .int x11870_2), (0, .ref h), (1, .int a)]) hx hb dX12_findRules_180 hl (k := 0) rfl (by rw [ev11927]; rfl) (by decide) rfl (fun ls hl => ?_)
                              refine lv_goto (tgt := 140) hx hb dX12_findRules_183 (by decide) ?_
                              exact ih11911 v11927 f11926 ⟨by omega, by omega⟩ hf11926 (show ∀ j : Nat, (j : Int) ≤ (w11870_i_12_41 : Int32).toInt → (j : Int) ≠ (v11927 : Int32).toInt → (f11926 j).toInt < ((iv 12 23) : Int32).toInt from (fun j h1 h2 => by
                                    rw [ef11926]
                                    by_cases hj : j = (x11910_3 : Int32).toNatClampNeg
                                    · rw [hj, upd_eq, ev11917]; exact hq11911_0 _ (by show (((v11916 : Int32).toInt.toNat : Nat) : Int) ≤ _; omega) (by show (((v11916 : Int32).toInt.toNat : Nat) : Int) ≠ _; omega)
                                    · rw [upd_ne hj]; have hj2 : j ≠ (x11910_3 : Int32).toInt.toNat := hj; exact hq11911_0 j h1 (by omega))) (show (v11927 : Int32).toInt ≤ (w11870_i_12_41 : Int32).toInt from by omega) (show 0 ≤ (v11927 : Int32).toInt from by omega) (by omega) _ _ ls hP hD hS (lv_sub hl [0, 1, 2, 3] rfl)
                      exact lp11911 9 w11870_i_12_41 w11870_a_12_40 ⟨by omega, by omega⟩ hw11870_a_12_40 (show ∀ j : Nat, (j : Int) ≤ (w11870_i_12_41 : Int32).toInt → (j : Int) ≠ (w11870_i_12_41 : Int32).toInt → (w11870_a_12_40 j).toInt < ((iv 12 23) : Int32).toInt from (fun j h1 h2 => hq11871_0 j (by omega))) (show (w11870_i_12_41 : Int32).toInt ≤ (w11870_i_12_41 : Int32).toInt from by omega) (show 0 ≤ (w11870_i_12_41 : Int32).toInt from by omega) (by first | decide | omega) _ _ ls hP hD hS (lv_sub hl [0, 1, 2, 3] rfl)
              have : (0 : Int32).toInt = 0 := (by decide)
              exact lp11871 9 0 0 (fa 12 40) ⟨by decide, by decide⟩ ⟨by decide, by decide⟩ (hI.2 12 40) (show ∀ j : Nat, (j : Int) < (0 : Int32).toInt → ((fa 12 40) j).toInt < ((iv 12 23) : Int32).toInt from fun j h => by omega) (show (0 : Int32).toInt ≤ (0 : Int32).toInt from by omega) (show 0 ≤ (0 : Int32).toInt from by omega) (show (0 : Int32).toInt ≤ ((iv 12 23) : Int32).toInt from by omega) (by first | decide | omega) _ _ ls hP hD hS (lv_sub hl [0, 1, 2] rfl)
            · have fc11397 := z_nlt (rfl : (x11395_2).toInt = _) (by decide : (0 : Int32).toInt = 0) c11397
              refine lv_bipush (v := 12) hx hb dX12_findRules_48 (by decide) ?_
              refine lv_iload_n hx hb dX12_findRules_50 rfl (lv_at hl 0 rfl) ?_
              refine lv_imul hx hb dX12_findRules_51 ?_
              refine lv_topi (fun v11928 ev11928 => ?_)
              have tv11928 := z_mul ev11928 (by decide : (12 : Int32).toInt = 12) (rfl : (x11395_2).toInt = _) (by omega) (by omega)
              refine lv_istore_n (lv' := [(3, .int v11928), (2, .int x11395_2), (0, .ref h), (1, .int a)]) hx hb dX12_findRules_52 rfl hl (by decide) rfl (fun ls hl => ?_)
              have lp11975 : ∀ (nn11975 : Nat) (x11974_3 : Int32) (w11974_a_12_39 : Nat → Int32), 0 ≤ x11974_3.toInt ∧ x11974_3.toInt ≤ 96 → (∀ j, inb (bA 12 39 j) (w11974_a_12_39 j)) → 12 * (x11395_2 : Int32).toInt ≤ (x11974_3 : Int32).toInt → 96 - x11974_3.toInt < (nn11975 : Int) → ∀ (H : Heap) (locs : List Loc), ∀ (ls : Array Slot), va_P (dC, dI) classes (WM h g ca iv lv (u2 fa 12 39 w11974_a_12_39) la) H → va_D A (WM h g ca iv lv (u2 fa 12 39 w11974_a_12_39) la) → va_S A s.heap H locs → lv_has ls 4 [(3, .int x11974_3), (2, .int x11395_2), (0, .ref h), (1, .int a)] → W p l e ({ frames := 0, cells := 0, slots := 0, locals := 0 } : Room) s m ([.ref h, .int a] : List Value).toArray below meth c H locs 0 0 (MQ below (va_Qv (fun (u : SS) => ∃ (na_12_39 : Nat → Int32) (na_12_40 : Nat → Int32) (ni_12_41 : Int32), (∀ j, inb (bA 12 39 j) (na_12_39 j)) ∧ (∀ j, inb (bA 12 40 j) (na_12_40 j)) ∧ inb (bI 12 41) ni_12_41 ∧ (∀ j : Nat, (j : Int) < (ni_12_41).toInt → (na_12_40 j).toInt < (iv 12 23).toInt) ∧ ((ni_12_41).toInt ≤ (iv 12 23).toInt) ∧ u = ((u2 iv 12 41 ni_12_41), lv, (u2 (u2 fa 12 39 na_12_39) 12 40 na_12_40), la)) (bM (dC, dI) h g ca A) A) ([.ref h, .int a] : List Value).toArray s 0 0 A) (F0 m 53 ls []) := by
                intro nn11975
                induction nn11975 with
                | zero => intro x11974_3 w11974_a_12_39 hx11974_3 hw11974_a_12_39 hq11975_0 hm11975; exfalso; omega
                | succ nn11975 ih11975 =>
                  intro x11974_3 w11974_a_12_39 hx11974_3 hw11974_a_12_39 hq11975_0 hm11975 H locs ls hP hD hS hl
                  refine lv_iload_n hx hb dX12_findRules_53 rfl (lv_at hl 0 rfl) ?_
                  refine lv_bipush (v := 12) hx hb dX12_findRules_54 (by decide) ?_
                  refine lv_iload_n hx hb dX12_findRules_56 rfl (lv_at hl 1 rfl) ?_
                  refine lv_imul hx hb dX12_findRules_57 ?_
                  refine lv_topi (fun v11976 ev11976 => ?_)
                  obtain rfl : v11928 = v11976 := ev11928.trans ev11976.symm
                  refine lv_aload_n hx hb dX12_findRules_58 rfl (lv_at hl 2 rfl) ?_
                  refine gM_12_25 hx hb ht hown hK hP m_1164 dX12_findRules_59 ?_
                  refine lv_iload_n hx hb dX12_findRules_62 rfl (lv_at hl 1 rfl) ?_
                  refine lM_12_25 hx hb hK hP (f := (fa 12 25)) rfl (vp_in_iff.mpr ⟨by omega, by omega⟩) dX12_findRules_63 ?_
                  refine lv_topi (fun v11977 ev11977 => ?_)
                  have tv11977 : 0 ≤ v11977.toInt ∧ v11977.toInt ≤ 12 := by rw [ev11977]; exact hI.2 12 25 _
                  refine lv_iadd hx hb dX12_findRules_64 ?_
                  refine lv_topi (fun v11978 ev11978 => ?_)
                  have tv11978 := z_add ev11978 (rfl : (v11928).toInt = _) (rfl : (v11977).toInt = _) (by omega) (by omega)
                  refine lv_icmp_ge (tgt := 105) hx hb dX12_findRules_65 (by decide) (fun c11979 => ?_) (fun c11979 => ?_)
                  · have fc11979 := z_le (rfl : (v11978).toInt = _) (rfl : (x11974_3).toInt = _) c11979
                    obtain ⟨v11980, ev11980⟩ : ∃ y : Int32, y = x11395_2 + (-1) := ⟨_, rfl⟩
                    have tv11980 := z_add ev11980 rfl (by decide : ((-1) : Int32).toInt = (-1)) (by omega) (by omega)
                    refine lv_iinc (v := v11980) (lv' := [(2, .int v11980), (3, .int x11974_3), (0, .ref h), (1, .int a)]) hx hb dX12_findRules_105 hl (k := 1) rfl (by rw [ev11980]; rfl) (by decide) rfl (fun ls hl => ?_)
                    refine lv_goto (tgt := 44) hx hb dX12_findRules_108 (by decide) ?_
                    exact ih11396 v11980 w11974_a_12_39 ⟨by omega, by omega⟩ hw11974_a_12_39 (show (v11980 : Int32).toInt + 1 ≤ ((iv 12 23) : Int32).toInt from by omega) (by omega) _ _ ls hP hD hS (lv_sub hl [0, 2, 3] rfl)
                  · have fc11979 := z_nle (rfl : (v11978).toInt = _) (rfl : (x11974_3).toInt = _) c11979
                    refine lv_aload_n hx hb dX12_findRules_68 rfl (lv_at hl 2 rfl) ?_
                    refine gM_12_39 hx hb ht hown hK hP m_1178 dX12_findRules_69 ?_
                    refine lv_iload_n hx hb dX12_findRules_72 rfl (lv_at hl 1 rfl) ?_
                    refine lM_12_39 hx hb hK hP (f := w11974_a_12_39) rfl (vp_in_iff.mpr ⟨by omega, by omega⟩) dX12_findRules_73 ?_
                    refine lv_topi (fun v11981 ev11981 => ?_)
                    have tv11981 : 0 ≤ v11981.toInt ∧ v11981.toInt ≤ 1 := by rw [ev11981]; exact hw11974_a_12_39 _
                    refine lv_if_eq (tgt := 105) hx hb dX12_findRules_74 (by decide) (fun c11982 => ?_) (fun c11982 => ?_)
                    · have fc11982 := z_eq (rfl : (v11981).toInt = _) (by decide : (0 : Int32).toInt = 0) c11982
                      obtain ⟨v11983, ev11983⟩ : ∃ y : Int32, y = x11395_2 + (-1) := ⟨_, rfl⟩
                      have tv11983 := z_add ev11983 rfl (by decide : ((-1) : Int32).toInt = (-1)) (by omega) (by omega)
                      refine lv_iinc (v := v11983) (lv' := [(2, .int v11983), (3, .int x11974_3), (0, .ref h), (1, .int a)]) hx hb dX12_findRules_105 hl (k := 1) rfl (by rw [ev11983]; rfl) (by decide) rfl (fun ls hl => ?_)
                      refine lv_goto (tgt := 44) hx hb dX12_findRules_108 (by decide) ?_
                      exact ih11396 v11983 w11974_a_12_39 ⟨by omega, by omega⟩ hw11974_a_12_39 (show (v11983 : Int32).toInt + 1 ≤ ((iv 12 23) : Int32).toInt from by omega) (by omega) _ _ ls hP hD hS (lv_sub hl [0, 2, 3] rfl)
                    · have fc11982 := z_ne (rfl : (v11981).toInt = _) (by decide : (0 : Int32).toInt = 0) c11982
                      refine lv_aload_n hx hb dX12_findRules_77 rfl (lv_at hl 2 rfl) ?_
                      refine gM_12_26 hx hb ht hown hK hP m_1165 dX12_findRules_78 ?_
                      refine lv_iload_n hx hb dX12_findRules_81 rfl (lv_at hl 0 rfl) ?_
                      refine lM_12_26 hx hb hK hP (f := (fa 12 26)) rfl (vp_in_iff.mpr ⟨by omega, by omega⟩) dX12_findRules_82 ?_
                      refine lv_topi (fun v11984 ev11984 => ?_)
                      refine lv_iconst (v := 3) hx hb dX12_findRules_83 (by decide) ?_
                      refine lv_icmp_ne (tgt := 99) hx hb dX12_findRules_84 (by decide) (fun c11985 => ?_) (fun c11985 => ?_)
                      · have fc11985 := z_ne (rfl : (v11984).toInt = _) (by decide : (3 : Int32).toInt = 3) c11985
                        obtain ⟨v11986, ev11986⟩ : ∃ y : Int32, y = x11974_3 + 1 := ⟨_, rfl⟩
                        have tv11986 := z_add ev11986 rfl (by decide : (1 : Int32).toInt = 1) (by omega) (by omega)
                        refine lv_iinc (v := v11986) (lv' := [(3, .int v11986), (2, .int x11395_2), (0, .ref h), (1, .int a)]) hx hb dX12_findRules_99 hl (k := 0) rfl (by rw [ev11986]; rfl) (by decide) rfl (fun ls hl => ?_)
                        refine lv_goto (tgt := 53) hx hb dX12_findRules_102 (by decide) ?_
                        exact ih11975 v11986 w11974_a_12_39 ⟨by omega, by omega⟩ hw11974_a_12_39 (show 12 * (x11395_2 : Int32).toInt ≤ (v11986 : Int32).toInt from by omega) (by omega) _ _ ls hP hD hS (lv_sub hl [0, 1, 2, 3] rfl)
                      · have fc11985 := z_eq (rfl : (v11984).toInt = _) (by decide : (3 : Int32).toInt = 3) c11985
                        refine lv_aload_n hx hb dX12_findRules_87 rfl (lv_at hl 2 rfl) ?_
                        refine gM_12_39 hx hb ht hown hK hP m_1178 dX12_findRules_88 ?_
                        refine lv_aload_n hx hb dX12_findRules_91 rfl (lv_at hl 2 rfl) ?_
                        refine gM_12_28 hx hb ht hown hK hP m_1167 dX12_findRules_92 ?_
                        refine lv_iload_n hx hb dX12_findRules_95 rfl (lv_at hl 0 rfl) ?_
                        refine lM_12_28 hx hb hK hP (f := (fa 12 28)) rfl (vp_in_iff.mpr ⟨by omega, by omega⟩) dX12_findRules_96 ?_
                        refine lv_topi (fun v11987 ev11987 => ?_)
                        refine lv_iconst (v := 0) hx hb dX12_findRules_97 (by decide) ?_
                        have gq := hJC x11395_2 x11974_3 (by omega) (by omega) (by omega) (by rw [← ev11977]; omega)
                        rw [← ev11984, ← ev11987] at gq
                        have gq2 := gq.1 (by omega)
                        refine tM_12_39 hx hb hK hP hD hS (f0 := w11974_a_12_39) rfl (i := v11987) (x := 0) (vp_in_iff.mpr ⟨by omega, by omega⟩) dX12_findRules_98 (fun f11988 ef11988 H locs hP hD hS => ?_)
                        have hf11988 : ∀ j, inb (bA 12 39 j) (f11988 j) := by rw [ef11988]; exact upd_b (b := bA 12 39) hw11974_a_12_39 (show inb (0, 1) (vp_nar .boolean 0) from ⟨by decide, by decide⟩)
                        have hP : va_P (dC, dI) classes (WM h g ca iv lv (u2 fa 12 39 f11988) la) H := hP
                        have hD : va_D A (WM h g ca iv lv (u2 fa 12 39 f11988) la) := hD
                        obtain ⟨v11989, ev11989⟩ : ∃ y : Int32, y = x11974_3 + 1 := ⟨_, rfl⟩
                        have tv11989 := z_add ev11989 rfl (by decide : (1 : Int32).toInt = 1) (by omega) (by omega)
                        refine lv_iinc (v := v11989) (lv' := [(3, .int v11989), (2, .int x11395_2), (0, .ref h), (1, .int a)]) hx hb dX12_findRules_99 hl (k := 0) rfl (by rw [ev11989]; rfl) (by decide) rfl (fun ls hl => ?_)
                        refine lv_goto (tgt := 53) hx hb dX12_findRules_102 (by decide) ?_
                        exact ih11975 v11989 f11988 ⟨by omega, by omega⟩ hf11988 (show 12 * (x11395_2 : Int32).toInt ≤ (v11989 : Int32).toInt from by omega) (by omega) _ _ ls hP hD hS (lv_sub hl [0, 1, 2, 3] rfl)
              exact lp11975 97 v11928 w11395_a_12_39 ⟨by omega, by omega⟩ hw11395_a_12_39 (show 12 * (x11395_2 : Int32).toInt ≤ (v11928 : Int32).toInt from by omega) (by first | decide | omega) _ _ ls hP hD hS (lv_sub hl [0, 1, 2, 3] rfl)
        exact lp11396 9 v10206 w10203_a_12_39 ⟨by omega, by omega⟩ hw10203_a_12_39 (show (v10206 : Int32).toInt + 1 ≤ ((iv 12 23) : Int32).toInt from by omega) (by first | decide | omega) _ _ ls hP hD hS (lv_sub hl [0, 1, 2] rfl)
      · have fc10205 := z_nle (rfl : ((iv 12 23)).toInt = _) (rfl : (x10203_2).toInt = _) c10205
        refine lv_aload_n hx hb dX12_findRules_10 rfl (lv_at hl 1 rfl) ?_
        refine gM_12_39 hx hb ht hown hK hP m_1178 dX12_findRules_11 ?_
        refine lv_iload_n hx hb dX12_findRules_14 rfl (lv_at hl 0 rfl) ?_
        refine lv_aload_n hx hb dX12_findRules_15 rfl (lv_at hl 1 rfl) ?_
        refine gM_12_24 hx hb ht hown hK hP m_1163 dX12_findRules_16 ?_
        refine lv_iload_n hx hb dX12_findRules_19 rfl (lv_at hl 0 rfl) ?_
        refine lM_12_24 hx hb hK hP (f := (fa 12 24)) rfl (vp_in_iff.mpr ⟨by omega, by omega⟩) dX12_findRules_20 ?_
        refine lv_topi (fun v11990 ev11990 => ?_)
        refine lv_iload_n hx hb dX12_findRules_21 rfl (lv_at hl 2 rfl) ?_
        refine lv_icmp_gt (tgt := 29) hx hb dX12_findRules_22 (by decide) (fun c11991 => ?_) (fun c11991 => ?_)
        · have fc11991 := z_lt (rfl : (a).toInt = _) (rfl : (v11990).toInt = _) c11991
          refine lv_iconst (v := 0) hx hb dX12_findRules_29 (by decide) ?_
          refine tM_12_39 hx hb hK hP hD hS (f0 := w10203_a_12_39) rfl (i := x10203_2) (x := 0) (vp_in_iff.mpr ⟨by omega, by omega⟩) dX12_findRules_30 (fun f11992 ef11992 H locs hP hD hS => ?_)
          have hf11992 : ∀ j, inb (bA 12 39 j) (f11992 j) := by rw [ef11992]; exact upd_b (b := bA 12 39) hw10203_a_12_39 (show inb (0, 1) (vp_nar .boolean 0) from ⟨by decide, by decide⟩)
          have hP : va_P (dC, dI) classes (WM h g ca iv lv (u2 fa 12 39 f11992) la) H := hP
          have hD : va_D A (WM h g ca iv lv (u2 fa 12 39 f11992) la) := hD
          obtain ⟨v11993, ev11993⟩ : ∃ y : Int32, y = x10203_2 + 1 := ⟨_, rfl⟩
          have tv11993 := z_add ev11993 rfl (by decide : (1 : Int32).toInt = 1) (by omega) (by omega)
          refine lv_iinc (v := v11993) (lv' := [(2, .int v11993), (0, .ref h), (1, .int a)]) hx hb dX12_findRules_31 hl (k := 0) rfl (by rw [ev11993]; rfl) (by decide) rfl (fun ls hl => ?_)
          refine lv_goto (tgt := 2) hx hb dX12_findRules_34 (by decide) ?_
          exact ih10204 v11993 f11992 ⟨by omega, by omega⟩ hf11992 (by omega) _ _ ls hP hD hS (lv_sub hl [0, 1, 2] rfl)
        · have fc11991 := z_nlt (rfl : (a).toInt = _) (rfl : (v11990).toInt = _) c11991
          refine lv_iconst (v := 1) hx hb dX12_findRules_25 (by decide) ?_
          refine lv_goto (tgt := 30) hx hb dX12_findRules_26 (by decide) ?_
          refine tM_12_39 hx hb hK hP hD hS (f0 := w10203_a_12_39) rfl (i := x10203_2) (x := 1) (vp_in_iff.mpr ⟨by omega, by omega⟩) dX12_findRules_30 (fun f11994 ef11994 H locs hP hD hS => ?_)
          have hf11994 : ∀ j, inb (bA 12 39 j) (f11994 j) := by rw [ef11994]; exact upd_b (b := bA 12 39) hw10203_a_12_39 (show inb (0, 1) (vp_nar .boolean 1) from ⟨by decide, by decide⟩)
          have hP : va_P (dC, dI) classes (WM h g ca iv lv (u2 fa 12 39 f11994) la) H := hP
          have hD : va_D A (WM h g ca iv lv (u2 fa 12 39 f11994) la) := hD
          obtain ⟨v11995, ev11995⟩ : ∃ y : Int32, y = x10203_2 + 1 := ⟨_, rfl⟩
          have tv11995 := z_add ev11995 rfl (by decide : (1 : Int32).toInt = 1) (by omega) (by omega)
          refine lv_iinc (v := v11995) (lv' := [(2, .int v11995), (0, .ref h), (1, .int a)]) hx hb dX12_findRules_31 hl (k := 0) rfl (by rw [ev11995]; rfl) (by decide) rfl (fun ls hl => ?_)
          refine lv_goto (tgt := 2) hx hb dX12_findRules_34 (by decide) ?_
          exact ih10204 v11995 f11994 ⟨by omega, by omega⟩ hf11994 (by omega) _ _ ls hP hD hS (lv_sub hl [0, 1, 2] rfl)
  exact lp10204 9 0 (fa 12 39) ⟨by decide, by decide⟩ (hI.2 12 39) (by first | decide | omega) _ _ ls hP hD hS (lv_sub hl [0, 1, 2] rfl)
set_option maxHeartbeats 4000000 in
set_option maxRecDepth 100000 in
/-- X12_forceOf -/
theorem c_X12_forceOf (l : Launch) (dC : Nat → ClassId) (dI : Nat → Nat → Nat) (sz : Nat) (h : Nat) (g : Nat → Nat → Nat) (ca : Nat → Nat → ClassId) (iv : Nat → Nat → Int32) (lv : Nat → Nat → Int64) (fa : Nat → Nat → Nat → Int32) (la : Nat → Nat → Nat → Int64) (hI : IX iv fa) (a : Int32) (b : Int32) (h_a : 0 ≤ a.toInt ∧ a.toInt ≤ 5) (hJC : JCf (iv 12 23).toInt (fa 12 25) (fa 12 26) (fa 12 27) (fa 12 28)) : Met l yX12_forceOf (wc yX12_forceOf cX12_forceOf 7 (some .int)) ({ frames := 1, cells := 0, slots := 0, locals := 23 } : Room) (pW (dC, dI) classes (WM h g ca iv lv fa la) (TM ca) sz [.ref h, .int a, .int b]) (va_Qi (fun r (u : SS) => ∃ (na_12_39 : Nat → Int32) (na_12_40 : Nat → Int32) (ni_12_41 : Int32), (∀ j, inb (bA 12 39 j) (na_12_39 j)) ∧ (∀ j, inb (bA 12 40 j) (na_12_40 j)) ∧ inb (bI 12 41) ni_12_41 ∧ (True) ∧ u = ((u2 iv 12 41 ni_12_41), lv, (u2 (u2 fa 12 39 na_12_39) 12 40 na_12_40), la)) (bM (dC, dI) h g ca (va_A (WM h g ca iv lv fa la) sz)) (va_A (WM h g ca iv lv fa la) sz)) 0 0 (va_A (WM h g ca iv lv fa la) sz) := by
  refine Met.ofW (cc := cX12_forceOf) (maxL := 7) (ret := (some .int)) (by decide) rfl ?_
  intro p e s m args below meth c s₁ B hml hv
  obtain ⟨rfl, hsz, hP, hK, hD0⟩ := hv
  have hx := B.exec
  have hb := B.bytes
  have hr := B.returns
  have ht := tb_tl (atoms_spec (ws := wc yX12_forceOf cX12_forceOf 7 (some .int)) B.pre)
  have hown : s.vm.findClass RX12 = some m.cls := findClass_of_methodNamed B.named
  have hlocks := B.notSynchronized
  subst hsz
  have hD := hD0.self (sz := s.heap.size)
  generalize hAe : va_A (WM h g ca iv lv fa la) s.heap.size = A at hD ⊢
  have hA : ∀ q : Nat, s.heap.size ≤ q → A q := fun q h => by rw [← hAe]; exact Or.inr h
  have hS : va_S A s.heap s.heap [] := va_S.rf
  have hl := lv_entry [.ref h, .int a, .int b] (n := 7) (Nat.le_of_ble_eq_true rfl)
  rw [lg_entry_eq]
  generalize (lg_sl [.ref h, .int a, .int b] ++ List.replicate (7 - (lg_sl [.ref h, .int a, .int b]).length) Slot.unset).toArray = ls at hl ⊢
  have hl : lv_has ls 7 [(0, .ref h), (1, .int a), (2, .int b)] := hl
  refine lv_aload_n hx hb dX12_forceOf_0 rfl (lv_at hl 0 rfl) ?_
  refine lv_iload_n hx hb dX12_forceOf_1 rfl (lv_at hl 2 rfl) ?_
  have hFc := free_all hD hS hA
  refine va_callv (va_runV (As := [.int b]) (rest := []) ⟨hx, hb, hml, hown, ht⟩ (c_X12_findRules l dC dI s.heap.size h g ca iv lv fa la hI b hJC) (kV 1 ht m_1513 m_1515 m_56 m_89 m_1516 rfl rfl hd_X12_findRules_v ⟨Nat.le_of_ble_eq_true rfl, Nat.le_of_ble_eq_true rfl⟩) (vW hP hK hD (rM_12 hK hP)) rfl rfl hl.1 rfl (lv_room (Nat.le_of_ble_eq_true rfl)) dX12_forceOf_2 ⟨Nat.le_of_ble_eq_true rfl, Nat.le_of_ble_eq_true rfl⟩) hS (fun q _ h => hFc q h) hFc (fun u t H1 locs ht9 hvm hr1 hB hz1 hk1 hS => ?_)
  obtain ⟨n2, n3, n4, hn2, hn3, hn4, xr1_0, xr1_1, rfl⟩ := hr1
  have hn4 : 0 ≤ n4.toInt ∧ n4.toInt ≤ 8 := hn4
  obtain ⟨hP, hD⟩ := hB
  rw [ht9] at hP
  generalize H1 = H at hP hS ⊢
  have hP : va_P (dC, dI) classes (WM h g ca (u2 iv 12 41 n4) lv (u2 (u2 fa 12 39 n2) 12 40 n3) la) H := hP
  have hD : va_D A (WM h g ca (u2 iv 12 41 n4) lv (u2 (u2 fa 12 39 n2) 12 40 n3) la) := (show va_D _ (WM h g ca (u2 iv 12 41 n4) lv (u2 (u2 fa 12 39 n2) 12 40 n3) la) from hD).weaken (fun _ _ _ h => hFc _ h)
  have i_12_23 : 0 ≤ (iv 12 23).toInt ∧ (iv 12 23).toInt ≤ 8 := hI.1 12 23
  have xr1_0 : ∀ j : Nat, (j : Int) < (n4 : Int32).toInt → (n3 j).toInt < ((iv 12 23) : Int32).toInt := xr1_0
  have xr1_1 : (n4 : Int32).toInt ≤ ((iv 12 23) : Int32).toInt := xr1_1
  refine lv_iload_n hx hb dX12_forceOf_5 rfl (lv_at hl 1 rfl) ?_
  refine vp_callSi (W.runS (As := [.int a]) (rest := []) ⟨hx, hb, hml, hown, ht⟩ (c_X12_atFirst l dC dI a) (kS 1 ht m_1517 m_1518 m_89 m_1519 rfl rfl hd_X12_atFirst_v ⟨Nat.le_of_ble_eq_true rfl, Nat.le_of_ble_eq_true rfl⟩) (sR noP (hK.sub (tys' := []) [] rfl)) rfl rfl hl.1 rfl (lv_room (Nat.le_of_ble_eq_true rfl)) dX12_forceOf_6 ⟨Nat.le_of_ble_eq_true rfl, Nat.le_of_ble_eq_true rfl⟩) (fun r5 hr5 => ?_)
  refine lv_istore_n (lv' := [(3, .int r5), (0, .ref h), (1, .int a), (2, .int b)]) hx hb dX12_forceOf_9 rfl hl (by decide) rfl (fun ls hl => ?_)
  refine lv_iconst (v := 0) hx hb dX12_forceOf_10 (by decide) ?_
  refine lv_istore (lv' := [(4, .int 0), (3, .int r5), (0, .ref h), (1, .int a), (2, .int b)]) hx hb dX12_forceOf_11 hl (by decide) rfl (fun ls hl => ?_)
  have lp1024 : ∀ (nn1024 : Nat) (x1023_4 : Int32) (x1023_3 : Int32), 0 ≤ x1023_4.toInt ∧ x1023_4.toInt ≤ 8 → 8 - x1023_4.toInt < (nn1024 : Int) → ∀ (H : Heap) (locs : List Loc), ∀ (ls : Array Slot), va_P (dC, dI) classes (WM h g ca (u2 iv 12 41 n4) lv (u2 (u2 fa 12 39 n2) 12 40 n3) la) H → va_D A (WM h g ca (u2 iv 12 41 n4) lv (u2 (u2 fa 12 39 n2) 12 40 n3) la) → va_S A s.heap H locs → lv_has ls 7 [(4, .int x1023_4), (3, .int x1023_3), (0, .ref h), (1, .int a), (2, .int b)] → W p l e ({ frames := 1, cells := 0, slots := 0, locals := 23 } : Room) s m ([.ref h, .int a, .int b] : List Value).toArray below meth c H locs 0 0 (MQ below (va_Qi (fun r (u : SS) => ∃ (na_12_39 : Nat → Int32) (na_12_40 : Nat → Int32) (ni_12_41 : Int32), (∀ j, inb (bA 12 39 j) (na_12_39 j)) ∧ (∀ j, inb (bA 12 40 j) (na_12_40 j)) ∧ inb (bI 12 41) ni_12_41 ∧ (True) ∧ u = ((u2 iv 12 41 ni_12_41), lv, (u2 (u2 fa 12 39 na_12_39) 12 40 na_12_40), la)) (bM (dC, dI) h g ca A) A) ([.ref h, .int a, .int b] : List Value).toArray s 0 0 A) (F0 m 13 ls []) := by
    intro nn1024
    induction nn1024 with
    | zero => intro x1023_4 x1023_3 hx1023_4 hm1024; exfalso; omega
    | succ nn1024 ih1024 =>
      intro x1023_4 x1023_3 hx1023_4 hm1024 H locs ls hP hD hS hl
      refine lv_iload hx hb dX12_forceOf_13 (lv_at hl 0 rfl) ?_
      refine lv_aload_n hx hb dX12_forceOf_15 rfl (lv_at hl 2 rfl) ?_
      refine gM_12_41 hx hb ht hown hK hP m_1180 (v := n4) rfl dX12_forceOf_16 ?_
      refine lv_icmp_ge (tgt := 143) hx hb dX12_forceOf_19 (by decide) (fun c1025 => ?_) (fun c1025 => ?_)
      · have fc1025 := z_le (rfl : (n4).toInt = _) (rfl : (x1023_4).toInt = _) c1025
        refine lv_iload_n hx hb dX12_forceOf_143 rfl (lv_at hl 1 rfl) ?_
        have hP9 : va_P (dC, dI) classes (WM h g ca (u2 iv 12 41 n4) lv (u2 (u2 fa 12 39 n2) 12 40 n3) la) H := hP
        have hD9 : va_D A (WM h g ca (u2 iv 12 41 n4) lv (u2 (u2 fa 12 39 n2) 12 40 n3) la) := hD
        exact W.iret (v := x1023_3) hx hb hr (fun t ht9 hW => ⟨⟨x1023_3, ((u2 iv 12 41 n4), lv, (u2 (u2 fa 12 39 n2) 12 40 n3), la), rfl, ⟨n2, n3, n4, hn2, hn3, (show inb (0, 8) n4 from ⟨by omega, by omega⟩), trivial, rfl⟩, by rw [ht9]; exact hP9, hD9⟩, hS.F ht9⟩) hS.2.2 dX12_forceOf_144
      · have fc1025 := z_nle (rfl : (n4).toInt = _) (rfl : (x1023_4).toInt = _) c1025
        refine lv_bipush (v := 12) hx hb dX12_forceOf_22 (by decide) ?_
        refine lv_aload_n hx hb dX12_forceOf_24 rfl (lv_at hl 2 rfl) ?_
        refine gM_12_40 hx hb ht hown hK hP m_1179 dX12_forceOf_25 ?_
        refine lv_iload hx hb dX12_forceOf_28 (lv_at hl 0 rfl) ?_
        refine lM_12_40 hx hb hK hP (f := n3) rfl (vp_in_iff.mpr ⟨by omega, by omega⟩) dX12_forceOf_30 ?_
        refine lv_topi (fun v1026 ev1026 => ?_)
        have tv1026 : 0 ≤ v1026.toInt ∧ v1026.toInt ≤ 7 := by rw [ev1026]; exact hn3 _
        refine lv_imul hx hb dX12_forceOf_31 ?_
        refine lv_topi (fun v1027 ev1027 => ?_)
        have tv1027 := z_mul ev1027 (by decide : (12 : Int32).toInt = 12) (rfl : (v1026).toInt = _) (by omega) (by omega)
        refine lv_istore (lv' := [(5, .int v1027), (4, .int x1023_4), (3, .int x1023_3), (0, .ref h), (1, .int a), (2, .int b)]) hx hb dX12_forceOf_32 hl (by decide) rfl (fun ls hl => ?_)
        have lp1110 : ∀ (nn1110 : Nat) (x1109_5 : Int32) (x1109_3 : Int32), 0 ≤ x1109_5.toInt ∧ x1109_5.toInt ≤ 96 → 96 - x1109_5.toInt < (nn1110 : Int) → ∀ (H : Heap) (locs : List Loc), ∀ (ls : Array Slot), va_P (dC, dI) classes (WM h g ca (u2 iv 12 41 n4) lv (u2 (u2 fa 12 39 n2) 12 40 n3) la) H → va_D A (WM h g ca (u2 iv 12 41 n4) lv (u2 (u2 fa 12 39 n2) 12 40 n3) la) → va_S A s.heap H locs → lv_has ls 7 [(5, .int x1109_5), (4, .int x1023_4), (3, .int x1109_3), (0, .ref h), (1, .int a), (2, .int b)] → W p l e ({ frames := 1, cells := 0, slots := 0, locals := 23 } : Room) s m ([.ref h, .int a, .int b] : List Value).toArray below meth c H locs 0 0 (MQ below (va_Qi (fun r (u : SS) => ∃ (na_12_39 : Nat → Int32) (na_12_40 : Nat → Int32) (ni_12_41 : Int32), (∀ j, inb (bA 12 39 j) (na_12_39 j)) ∧ (∀ j, inb (bA 12 40 j) (na_12_40 j)) ∧ inb (bI 12 41) ni_12_41 ∧ (True) ∧ u = ((u2 iv 12 41 ni_12_41), lv, (u2 (u2 fa 12 39 na_12_39) 12 40 na_12_40), la)) (bM (dC, dI) h g ca A) A) ([.ref h, .int a, .int b] : List Value).toArray s 0 0 A) (F0 m 34 ls []) := by
          intro nn1110
          induction nn1110 with
          | zero => intro x1109_5 x1109_3 hx1109_5 hm1110; exfalso; omega
          | succ nn1110 ih1110 =>
            intro x1109_5 x1109_3 hx1109_5 hm1110 H locs ls hP hD hS hl
            refine lv_iload hx hb dX12_forceOf_34 (lv_at hl 0 rfl) ?_
            refine lv_bipush (v := 12) hx hb dX12_forceOf_36 (by decide) ?_
            refine lv_aload_n hx hb dX12_forceOf_38 rfl (lv_at hl 3 rfl) ?_
            refine gM_12_40 hx hb ht hown hK hP m_1179 dX12_forceOf_39 ?_
            refine lv_iload hx hb dX12_forceOf_42 (lv_at hl 1 rfl) ?_
            refine lM_12_40 hx hb hK hP (f := n3) rfl (vp_in_iff.mpr ⟨by omega, by omega⟩) dX12_forceOf_44 ?_
            refine lv_topi (fun v1111 ev1111 => ?_)
            obtain rfl : v1026 = v1111 := ev1026.trans ev1111.symm
            refine lv_imul hx hb dX12_forceOf_45 ?_
            refine lv_topi (fun v1112 ev1112 => ?_)
            obtain rfl : v1027 = v1112 := ev1027.trans ev1112.symm
            refine lv_aload_n hx hb dX12_forceOf_46 rfl (lv_at hl 3 rfl) ?_
            refine gM_12_25 hx hb ht hown hK hP m_1164 dX12_forceOf_47 ?_
            refine lv_aload_n hx hb dX12_forceOf_50 rfl (lv_at hl 3 rfl) ?_
            refine gM_12_40 hx hb ht hown hK hP m_1179 dX12_forceOf_51 ?_
            refine lv_iload hx hb dX12_forceOf_54 (lv_at hl 1 rfl) ?_
            refine lM_12_40 hx hb hK hP (f := n3) rfl (vp_in_iff.mpr ⟨by omega, by omega⟩) dX12_forceOf_56 ?_
            refine lv_topi (fun v1113 ev1113 => ?_)
            obtain rfl : v1026 = v1113 := ev1026.trans ev1113.symm
            refine lM_12_25 hx hb hK hP (f := (fa 12 25)) rfl (vp_in_iff.mpr ⟨by omega, by omega⟩) dX12_forceOf_57 ?_
            refine lv_topi (fun v1114 ev1114 => ?_)
            have tv1114 : 0 ≤ v1114.toInt ∧ v1114.toInt ≤ 12 := by rw [ev1114]; exact hI.2 12 25 _
            refine lv_iadd hx hb dX12_forceOf_58 ?_
            refine lv_topi (fun v1115 ev1115 => ?_)
            have tv1115 := z_add ev1115 (rfl : (v1027).toInt = _) (rfl : (v1114).toInt = _) (by omega) (by omega)
            refine lv_icmp_ge (tgt := 137) hx hb dX12_forceOf_59 (by decide) (fun c1116 => ?_) (fun c1116 => ?_)
            · have fc1116 := z_le (rfl : (v1115).toInt = _) (rfl : (x1109_5).toInt = _) c1116
              obtain ⟨v1117, ev1117⟩ : ∃ y : Int32, y = x1023_4 + 1 := ⟨_, rfl⟩
              have tv1117 := z_add ev1117 rfl (by decide : (1 : Int32).toInt = 1) (by omega) (by omega)
              refine lv_iinc (v := v1117) (lv' := [(4, .int v1117), (5, .int x1109_5), (3, .int x1109_3), (0, .ref h), (1, .int a), (2, .int b)]) hx hb dX12_forceOf_137 hl (k := 1) rfl (by rw [ev1117]; rfl) (by decide) rfl (fun ls hl => ?_)
              refine lv_goto (tgt := 13) hx hb dX12_forceOf_140 (by decide) ?_
              exact ih1024 v1117 x1109_3 ⟨by omega, by omega⟩ (by omega) _ _ ls hP hD hS (lv_sub hl [0, 2, 3, 4, 5] rfl)
            · have fc1116 := z_nle (rfl : (v1115).toInt = _) (rfl : (x1109_5).toInt = _) c1116
              refine lv_iload_n hx hb dX12_forceOf_62 rfl (lv_at hl 4 rfl) ?_
              refine lv_iconst (v := 5) hx hb dX12_forceOf_63 (by decide) ?_
              refine lv_icmp_ne (tgt := 86) hx hb dX12_forceOf_64 (by decide) (fun c1118 => ?_) (fun c1118 => ?_)
              · have fc1118 := z_ne (rfl : (a).toInt = _) (by decide : (5 : Int32).toInt = 5) c1118
                refine lv_aload_n hx hb dX12_forceOf_86 rfl (lv_at hl 3 rfl) ?_
                refine gM_12_26 hx hb ht hown hK hP m_1165 dX12_forceOf_87 ?_
                refine lv_iload hx hb dX12_forceOf_90 (lv_at hl 0 rfl) ?_
                refine lM_12_26 hx hb hK hP (f := (fa 12 26)) rfl (vp_in_iff.mpr ⟨by omega, by omega⟩) dX12_forceOf_92 ?_
                refine lv_topi (fun v1119 ev1119 => ?_)
                refine lv_if_ne (tgt := 111) hx hb dX12_forceOf_93 (by decide) (fun c1120 => ?_) (fun c1120 => ?_)
                · have fc1120 := z_ne (rfl : (v1119).toInt = _) (by decide : (0 : Int32).toInt = 0) c1120
                  refine lv_iconst (v := 0) hx hb dX12_forceOf_111 (by decide) ?_
                  refine lv_istore (lv' := [(6, .int 0), (5, .int x1109_5), (4, .int x1023_4), (3, .int x1109_3), (0, .ref h), (1, .int a), (2, .int b)]) hx hb dX12_forceOf_112 hl (by decide) rfl (fun ls hl => ?_)
                  refine lv_iload hx hb dX12_forceOf_114 (lv_at hl 0 rfl) ?_
                  refine lv_if_eq (tgt := 129) hx hb dX12_forceOf_116 (by decide) (fun c1121 => ?_) (fun c1121 => ?_)
                  · skip
                    refine lv_iload_n hx hb dX12_forceOf_129 rfl (lv_at hl 3 rfl) ?_
                    refine lv_istore_n (lv' := [(3, .int x1109_3), (6, .int 0), (5, .int x1109_5), (4, .int x1023_4), (0, .ref h), (1, .int a), (2, .int b)]) hx hb dX12_forceOf_130 rfl hl (by decide) rfl (fun ls hl => ?_)
                    obtain ⟨v1122, ev1122⟩ : ∃ y : Int32, y = x1109_5 + 1 := ⟨_, rfl⟩
                    have tv1122 := z_add ev1122 rfl (by decide : (1 : Int32).toInt = 1) (by omega) (by omega)
                    refine lv_iinc (v := v1122) (lv' := [(5, .int v1122), (3, .int x1109_3), (6, .int 0), (4, .int x1023_4), (0, .ref h), (1, .int a), (2, .int b)]) hx hb dX12_forceOf_131 hl (k := 2) rfl (by rw [ev1122]; rfl) (by decide) rfl (fun ls hl => ?_)
                    refine lv_goto (tgt := 34) hx hb dX12_forceOf_134 (by decide) ?_
                    exact ih1110 v1122 x1109_3 ⟨by omega, by omega⟩ (by omega) _ _ ls hP hD hS (lv_sub hl [0, 3, 1, 4, 5, 6] rfl)
                  · exact absurd rfl c1121
                · have fc1120 := z_eq (rfl : (v1119).toInt = _) (by decide : (0 : Int32).toInt = 0) c1120
                  refine lv_aload_n hx hb dX12_forceOf_96 rfl (lv_at hl 3 rfl) ?_
                  refine gM_12_27 hx hb ht hown hK hP m_1166 dX12_forceOf_97 ?_
                  refine lv_iload hx hb dX12_forceOf_100 (lv_at hl 0 rfl) ?_
                  refine lM_12_27 hx hb hK hP (f := (fa 12 27)) rfl (vp_in_iff.mpr ⟨by omega, by omega⟩) dX12_forceOf_102 ?_
                  refine lv_topi (fun v1123 ev1123 => ?_)
                  refine lv_iload_n hx hb dX12_forceOf_103 rfl (lv_at hl 4 rfl) ?_
                  refine lv_icmp_ne (tgt := 111) hx hb dX12_forceOf_104 (by decide) (fun c1124 => ?_) (fun c1124 => ?_)
                  · have fc1124 := z_ne (rfl : (v1123).toInt = _) (rfl : (a).toInt = _) c1124
                    refine lv_iconst (v := 0) hx hb dX12_forceOf_111 (by decide) ?_
                    refine lv_istore (lv' := [(6, .int 0), (5, .int x1109_5), (4, .int x1023_4), (3, .int x1109_3), (0, .ref h), (1, .int a), (2, .int b)]) hx hb dX12_forceOf_112 hl (by decide) rfl (fun ls hl => ?_)
                    refine lv_iload hx hb dX12_forceOf_114 (lv_at hl 0 rfl) ?_
                    refine lv_if_eq (tgt := 129) hx hb dX12_forceOf_116 (by decide) (fun c1125 => ?_) (fun c1125 => ?_)
                    · skip
                      refine lv_iload_n hx hb dX12_forceOf_129 rfl (lv_at hl 3 rfl) ?_
                      refine lv_istore_n (lv' := [(3, .int x1109_3), (6, .int 0), (5, .int x1109_5), (4, .int x1023_4), (0, .ref h), (1, .int a), (2, .int b)]) hx hb dX12_forceOf_130 rfl hl (by decide) rfl (fun ls hl => ?_)
                      obtain ⟨v1126, ev1126⟩ : ∃ y : Int32, y = x1109_5 + 1 := ⟨_, rfl⟩
                      have tv1126 := z_add ev1126 rfl (by decide : (1 : Int32).toInt = 1) (by omega) (by omega)
                      refine lv_iinc (v := v1126) (lv' := [(5, .int v1126), (3, .int x1109_3), (6, .int 0), (4, .int x1023_4), (0, .ref h), (1, .int a), (2, .int b)]) hx hb dX12_forceOf_131 hl (k := 2) rfl (by rw [ev1126]; rfl) (by decide) rfl (fun ls hl => ?_)
                      refine lv_goto (tgt := 34) hx hb dX12_forceOf_134 (by decide) ?_
                      exact ih1110 v1126 x1109_3 ⟨by omega, by omega⟩ (by omega) _ _ ls hP hD hS (lv_sub hl [0, 3, 1, 4, 5, 6] rfl)
                    · exact absurd rfl c1125
                  · have fc1124 := z_eq (rfl : (v1123).toInt = _) (rfl : (a).toInt = _) c1124
                    refine lv_iconst (v := 1) hx hb dX12_forceOf_107 (by decide) ?_
                    refine lv_goto (tgt := 112) hx hb dX12_forceOf_108 (by decide) ?_
                    refine lv_istore (lv' := [(6, .int 1), (5, .int x1109_5), (4, .int x1023_4), (3, .int x1109_3), (0, .ref h), (1, .int a), (2, .int b)]) hx hb dX12_forceOf_112 hl (by decide) rfl (fun ls hl => ?_)
                    refine lv_iload hx hb dX12_forceOf_114 (lv_at hl 0 rfl) ?_
                    refine lv_if_eq (tgt := 129) hx hb dX12_forceOf_116 (by decide) (fun c1127 => ?_) (fun c1127 => ?_)
                    · exact absurd c1127 (by decide)
                    · skip
                      refine lv_aload_n hx hb dX12_forceOf_119 rfl (lv_at hl 4 rfl) ?_
                      refine gM_12_28 hx hb ht hown hK hP m_1167 dX12_forceOf_120 ?_
                      refine lv_iload hx hb dX12_forceOf_123 (lv_at hl 1 rfl) ?_
                      refine lM_12_28 hx hb hK hP (f := (fa 12 28)) rfl (vp_in_iff.mpr ⟨by omega, by omega⟩) dX12_forceOf_125 ?_
                      refine lv_topi (fun v1128 ev1128 => ?_)
                      refine lv_goto (tgt := 130) hx hb dX12_forceOf_126 (by decide) ?_
                      refine lv_istore_n (lv' := [(3, .int v1128), (6, .int 1), (5, .int x1109_5), (4, .int x1023_4), (0, .ref h), (1, .int a), (2, .int b)]) hx hb dX12_forceOf_130 rfl hl (by decide) rfl (fun ls hl => ?_)
                      obtain ⟨v1129, ev1129⟩ : ∃ y : Int32, y = x1109_5 + 1 := ⟨_, rfl⟩
                      have tv1129 := z_add ev1129 rfl (by decide : (1 : Int32).toInt = 1) (by omega) (by omega)
                      refine lv_iinc (v := v1129) (lv' := [(5, .int v1129), (3, .int v1128), (6, .int 1), (4, .int x1023_4), (0, .ref h), (1, .int a), (2, .int b)]) hx hb dX12_forceOf_131 hl (k := 2) rfl (by rw [ev1129]; rfl) (by decide) rfl (fun ls hl => ?_)
                      refine lv_goto (tgt := 34) hx hb dX12_forceOf_134 (by decide) ?_
                      exact ih1110 v1129 v1128 ⟨by omega, by omega⟩ (by omega) _ _ ls hP hD hS (lv_sub hl [0, 3, 1, 4, 5, 6] rfl)
              · have fc1118 := z_eq (rfl : (a).toInt = _) (by decide : (5 : Int32).toInt = 5) c1118
                refine lv_aload_n hx hb dX12_forceOf_67 rfl (lv_at hl 3 rfl) ?_
                refine gM_12_26 hx hb ht hown hK hP m_1165 dX12_forceOf_68 ?_
                refine lv_iload hx hb dX12_forceOf_71 (lv_at hl 0 rfl) ?_
                refine lM_12_26 hx hb hK hP (f := (fa 12 26)) rfl (vp_in_iff.mpr ⟨by omega, by omega⟩) dX12_forceOf_73 ?_
                refine lv_topi (fun v1130 ev1130 => ?_)
                refine lv_iconst (v := 1) hx hb dX12_forceOf_74 (by decide) ?_
                refine lv_icmp_ne (tgt := 82) hx hb dX12_forceOf_75 (by decide) (fun c1131 => ?_) (fun c1131 => ?_)
                · have fc1131 := z_ne (rfl : (v1130).toInt = _) (by decide : (1 : Int32).toInt = 1) c1131
                  refine lv_iconst (v := 0) hx hb dX12_forceOf_82 (by decide) ?_
                  refine lv_goto (tgt := 112) hx hb dX12_forceOf_83 (by decide) ?_
                  refine lv_istore (lv' := [(6, .int 0), (5, .int x1109_5), (4, .int x1023_4), (3, .int x1109_3), (0, .ref h), (1, .int a), (2, .int b)]) hx hb dX12_forceOf_112 hl (by decide) rfl (fun ls hl => ?_)
                  refine lv_iload hx hb dX12_forceOf_114 (lv_at hl 0 rfl) ?_
                  refine lv_if_eq (tgt := 129) hx hb dX12_forceOf_116 (by decide) (fun c1132 => ?_) (fun c1132 => ?_)
                  · skip
                    refine lv_iload_n hx hb dX12_forceOf_129 rfl (lv_at hl 3 rfl) ?_
                    refine lv_istore_n (lv' := [(3, .int x1109_3), (6, .int 0), (5, .int x1109_5), (4, .int x1023_4), (0, .ref h), (1, .int a), (2, .int b)]) hx hb dX12_forceOf_130 rfl hl (by decide) rfl (fun ls hl => ?_)
                    obtain ⟨v1133, ev1133⟩ : ∃ y : Int32, y = x1109_5 + 1 := ⟨_, rfl⟩
                    have tv1133 := z_add ev1133 rfl (by decide : (1 : Int32).toInt = 1) (by omega) (by omega)
                    refine lv_iinc (v := v1133) (lv' := [(5, .int v1133), (3, .int x1109_3), (6, .int 0), (4, .int x1023_4), (0, .ref h), (1, .int a), (2, .int b)]) hx hb dX12_forceOf_131 hl (k := 2) rfl (by rw [ev1133]; rfl) (by decide) rfl (fun ls hl => ?_)
                    refine lv_goto (tgt := 34) hx hb dX12_forceOf_134 (by decide) ?_
                    exact ih1110 v1133 x1109_3 ⟨by omega, by omega⟩ (by omega) _ _ ls hP hD hS (lv_sub hl [0, 3, 1, 4, 5, 6] rfl)
                  · exact absurd rfl c1132
                · have fc1131 := z_eq (rfl : (v1130).toInt = _) (by decide : (1 : Int32).toInt = 1) c1131
                  refine lv_iconst (v := 1) hx hb dX12_forceOf_78 (by decide) ?_
                  refine lv_goto (tgt := 112) hx hb dX12_forceOf_79 (by decide) ?_
                  refine lv_istore (lv' := [(6, .int 1), (5, .int x1109_5), (4, .int x1023_4), (3, .int x1109_3), (0, .ref h), (1, .int a), (2, .int b)]) hx hb dX12_forceOf_112 hl (by decide) rfl (fun ls hl => ?_)
                  refine lv_iload hx hb dX12_forceOf_114 (lv_at hl 0 rfl) ?_
                  refine lv_if_eq (tgt := 129) hx hb dX12_forceOf_116 (by decide) (fun c1134 => ?_) (fun c1134 => ?_)
                  · exact absurd c1134 (by decide)
                  · skip
                    refine lv_aload_n hx hb dX12_forceOf_119 rfl (lv_at hl 4 rfl) ?_
                    refine gM_12_28 hx hb ht hown hK hP m_1167 dX12_forceOf_120 ?_
                    refine lv_iload hx hb dX12_forceOf_123 (lv_at hl 1 rfl) ?_
                    refine lM_12_28 hx hb hK hP (f := (fa 12 28)) rfl (vp_in_iff.mpr ⟨by omega, by omega⟩) dX12_forceOf_125 ?_
                    refine lv_topi (fun v1135 ev1135 => ?_)
                    refine lv_goto (tgt := 130) hx hb dX12_forceOf_126 (by decide) ?_
                    refine lv_istore_n (lv' := [(3, .int v1135), (6, .int 1), (5, .int x1109_5), (4, .int x1023_4), (0, .ref h), (1, .int a), (2, .int b)]) hx hb dX12_forceOf_130 rfl hl (by decide) rfl (fun ls hl => ?_)
                    obtain ⟨v1136, ev1136⟩ : ∃ y : Int32, y = x1109_5 + 1 := ⟨_, rfl⟩
                    have tv1136 := z_add ev1136 rfl (by decide : (1 : Int32).toInt = 1) (by omega) (by omega)
                    refine lv_iinc (v := v1136) (lv' := [(5, .int v1136), (3, .int v1135), (6, .int 1), (4, .int x1023_4), (0, .ref h), (1, .int a), (2, .int b)]) hx hb dX12_forceOf_131 hl (k := 2) rfl (by rw [ev1136]; rfl) (by decide) rfl (fun ls hl => ?_)
                    refine lv_goto (tgt := 34) hx hb dX12_forceOf_134 (by decide) ?_
                    exact ih1110 v1136 v1135 ⟨by omega, by omega⟩ (by omega) _ _ ls hP hD hS (lv_sub hl [0, 3, 1, 4, 5, 6] rfl)
        exact lp1110 97 v1027 x1023_3 ⟨by omega, by omega⟩ (by first | decide | omega) _ _ ls hP hD hS (lv_sub hl [0, 1, 2, 3, 4, 5] rfl)
  exact lp1024 9 0 r5 ⟨by decide, by decide⟩ (by first | decide | omega) _ _ ls hP hD hS (lv_sub hl [0, 1, 2, 3, 4] rfl)
set_option maxHeartbeats 4000000 in
set_option maxRecDepth 100000 in
/-- X12_forceOf -/
theorem c_X12_forceOf_1 (l : Launch) (dC : Nat → ClassId) (dI : Nat → Nat → Nat) (sz : Nat) (h : Nat) (g : Nat → Nat → Nat) (ca : Nat → Nat → ClassId) (iv : Nat → Nat → Int32) (lv : Nat → Nat → Int64) (fa : Nat → Nat → Nat → Int32) (la : Nat → Nat → Nat → Int64) (hI : IX iv fa) (b : Int32) (hJC : JCf (iv 12 23).toInt (fa 12 25) (fa 12 26) (fa 12 27) (fa 12 28)) : Met l yX12_forceOf (wc yX12_forceOf cX12_forceOf 7 (some .int)) ({ frames := 1, cells := 0, slots := 0, locals := 23 } : Room) (pW (dC, dI) classes (WM h g ca iv lv fa la) (TM ca) sz [.ref h, .int 1, .int b]) (va_Qi (fun r (u : SS) => ∃ (na_12_39 : Nat → Int32) (na_12_40 : Nat → Int32) (ni_12_41 : Int32), (∀ j, inb (bA 12 39 j) (na_12_39 j)) ∧ (∀ j, inb (bA 12 40 j) (na_12_40 j)) ∧ inb (bI 12 41) ni_12_41 ∧ (1 ≤ r.toInt) ∧ (True) ∧ u = ((u2 iv 12 41 ni_12_41), lv, (u2 (u2 fa 12 39 na_12_39) 12 40 na_12_40), la)) (bM (dC, dI) h g ca (va_A (WM h g ca iv lv fa la) sz)) (va_A (WM h g ca iv lv fa la) sz)) 0 0 (va_A (WM h g ca iv lv fa la) sz) := by
  refine Met.ofW (cc := cX12_forceOf) (maxL := 7) (ret := (some .int)) (by decide) rfl ?_
  intro p e s m args below meth c s₁ B hml hv
  obtain ⟨rfl, hsz, hP, hK, hD0⟩ := hv
  have hx := B.exec
  have hb := B.bytes
  have hr := B.returns
  have ht := tb_tl (atoms_spec (ws := wc yX12_forceOf cX12_forceOf 7 (some .int)) B.pre)
  have hown : s.vm.findClass RX12 = some m.cls := findClass_of_methodNamed B.named
  have hlocks := B.notSynchronized
  subst hsz
  have hD := hD0.self (sz := s.heap.size)
  generalize hAe : va_A (WM h g ca iv lv fa la) s.heap.size = A at hD ⊢
  have hA : ∀ q : Nat, s.heap.size ≤ q → A q := fun q h => by rw [← hAe]; exact Or.inr h
  have hS : va_S A s.heap s.heap [] := va_S.rf
  have hl := lv_entry [.ref h, .int 1, .int b] (n := 7) (Nat.le_of_ble_eq_true rfl)
  rw [lg_entry_eq]
  generalize (lg_sl [.ref h, .int 1, .int b] ++ List.replicate (7 - (lg_sl [.ref h, .int 1, .int b]).length) Slot.unset).toArray = ls at hl ⊢
  have hl : lv_has ls 7 [(0, .ref h), (1, .int 1), (2, .int b)] := hl
  refine lv_aload_n hx hb dX12_forceOf_0 rfl (lv_at hl 0 rfl) ?_
  refine lv_iload_n hx hb dX12_forceOf_1 rfl (lv_at hl 2 rfl) ?_
  have hFc := free_all hD hS hA
  refine va_callv (va_runV (As := [.int b]) (rest := []) ⟨hx, hb, hml, hown, ht⟩ (c_X12_findRules l dC dI s.heap.size h g ca iv lv fa la hI b hJC) (kV 1 ht m_1513 m_1515 m_56 m_89 m_1516 rfl rfl hd_X12_findRules_v ⟨Nat.le_of_ble_eq_true rfl, Nat.le_of_ble_eq_true rfl⟩) (vW hP hK hD (rM_12 hK hP)) rfl rfl hl.1 rfl (lv_room (Nat.le_of_ble_eq_true rfl)) dX12_forceOf_2 ⟨Nat.le_of_ble_eq_true rfl, Nat.le_of_ble_eq_true rfl⟩) hS (fun q _ h => hFc q h) hFc (fun u t H1 locs ht9 hvm hr1 hB hz1 hk1 hS => ?_)
  obtain ⟨n2, n3, n4, hn2, hn3, hn4, xr1_0, xr1_1, rfl⟩ := hr1
  have hn4 : 0 ≤ n4.toInt ∧ n4.toInt ≤ 8 := hn4
  obtain ⟨hP, hD⟩ := hB
  rw [ht9] at hP
  generalize H1 = H at hP hS ⊢
  have hP : va_P (dC, dI) classes (WM h g ca (u2 iv 12 41 n4) lv (u2 (u2 fa 12 39 n2) 12 40 n3) la) H := hP
  have hD : va_D A (WM h g ca (u2 iv 12 41 n4) lv (u2 (u2 fa 12 39 n2) 12 40 n3) la) := (show va_D _ (WM h g ca (u2 iv 12 41 n4) lv (u2 (u2 fa 12 39 n2) 12 40 n3) la) from hD).weaken (fun _ _ _ h => hFc _ h)
  have i_12_23 : 0 ≤ (iv 12 23).toInt ∧ (iv 12 23).toInt ≤ 8 := hI.1 12 23
  have xr1_0 : ∀ j : Nat, (j : Int) < (n4 : Int32).toInt → (n3 j).toInt < ((iv 12 23) : Int32).toInt := xr1_0
  have xr1_1 : (n4 : Int32).toInt ≤ ((iv 12 23) : Int32).toInt := xr1_1
  refine lv_iload_n hx hb dX12_forceOf_5 rfl (lv_at hl 1 rfl) ?_
  refine vp_callSi (W.runS (As := [.int 1]) (rest := []) ⟨hx, hb, hml, hown, ht⟩ (c_X12_atFirst_1 l dC dI) (kS 1 ht m_1517 m_1518 m_89 m_1519 rfl rfl hd_X12_atFirst_v ⟨Nat.le_of_ble_eq_true rfl, Nat.le_of_ble_eq_true rfl⟩) (sR noP (hK.sub (tys' := []) [] rfl)) rfl rfl hl.1 rfl (lv_room (Nat.le_of_ble_eq_true rfl)) dX12_forceOf_6 ⟨Nat.le_of_ble_eq_true rfl, Nat.le_of_ble_eq_true rfl⟩) (fun r5 hr5 => ?_)
  obtain rfl : 3 = r5 := hr5.symm
  refine lv_istore_n (lv' := [(3, .int 3), (0, .ref h), (1, .int 1), (2, .int b)]) hx hb dX12_forceOf_9 rfl hl (by decide) rfl (fun ls hl => ?_)
  refine lv_iconst (v := 0) hx hb dX12_forceOf_10 (by decide) ?_
  refine lv_istore (lv' := [(4, .int 0), (3, .int 3), (0, .ref h), (1, .int 1), (2, .int b)]) hx hb dX12_forceOf_11 hl (by decide) rfl (fun ls hl => ?_)
  have lp772 : ∀ (nn772 : Nat) (x771_4 : Int32) (x771_3 : Int32), 0 ≤ x771_4.toInt ∧ x771_4.toInt ≤ 8 → 1 ≤ x771_3.toInt → 1 ≤ (x771_3 : Int32).toInt → 8 - x771_4.toInt < (nn772 : Int) → ∀ (H : Heap) (locs : List Loc), ∀ (ls : Array Slot), va_P (dC, dI) classes (WM h g ca (u2 iv 12 41 n4) lv (u2 (u2 fa 12 39 n2) 12 40 n3) la) H → va_D A (WM h g ca (u2 iv 12 41 n4) lv (u2 (u2 fa 12 39 n2) 12 40 n3) la) → va_S A s.heap H locs → lv_has ls 7 [(4, .int x771_4), (3, .int x771_3), (0, .ref h), (1, .int 1), (2, .int b)] → W p l e ({ frames := 1, cells := 0, slots := 0, locals := 23 } : Room) s m ([.ref h, .int 1, .int b] : List Value).toArray below meth c H locs 0 0 (MQ below (va_Qi (fun r (u : SS) => ∃ (na_12_39 : Nat → Int32) (na_12_40 : Nat → Int32) (ni_12_41 : Int32), (∀ j, inb (bA 12 39 j) (na_12_39 j)) ∧ (∀ j, inb (bA 12 40 j) (na_12_40 j)) ∧ inb (bI 12 41) ni_12_41 ∧ (1 ≤ r.toInt) ∧ (True) ∧ u = ((u2 iv 12 41 ni_12_41), lv, (u2 (u2 fa 12 39 na_12_39) 12 40 na_12_40), la)) (bM (dC, dI) h g ca A) A) ([.ref h, .int 1, .int b] : List Value).toArray s 0 0 A) (F0 m 13 ls []) := by
    intro nn772
    induction nn772 with
    | zero => intro x771_4 x771_3 hx771_4 hx771_3 hq772_0 hm772; exfalso; omega
    | succ nn772 ih772 =>
      intro x771_4 x771_3 hx771_4 hx771_3 hq772_0 hm772 H locs ls hP hD hS hl
      refine lv_iload hx hb dX12_forceOf_13 (lv_at hl 0 rfl) ?_
      refine lv_aload_n hx hb dX12_forceOf_15 rfl (lv_at hl 2 rfl) ?_
      refine gM_12_41 hx hb ht hown hK hP m_1180 (v := n4) rfl dX12_forceOf_16 ?_
      refine lv_icmp_ge (tgt := 143) hx hb dX12_forceOf_19 (by decide) (fun c773 => ?_) (fun c773 => ?_)
      · have fc773 := z_le (rfl : (n4).toInt = _) (rfl : (x771_4).toInt = _) c773
        refine lv_iload_n hx hb dX12_forceOf_143 rfl (lv_at hl 1 rfl) ?_
        have hP9 : va_P (dC, dI) classes (WM h g ca (u2 iv 12 41 n4) lv (u2 (u2 fa 12 39 n2) 12 40 n3) la) H := hP
        have hD9 : va_D A (WM h g ca (u2 iv 12 41 n4) lv (u2 (u2 fa 12 39 n2) 12 40 n3) la) := hD
        exact W.iret (v := x771_3) hx hb hr (fun t ht9 hW => ⟨⟨x771_3, ((u2 iv 12 41 n4), lv, (u2 (u2 fa 12 39 n2) 12 40 n3), la), rfl, ⟨n2, n3, n4, hn2, hn3, (show inb (0, 8) n4 from ⟨by omega, by omega⟩), (show 1 ≤ (x771_3 : Int32).toInt from by omega), trivial, rfl⟩, by rw [ht9]; exact hP9, hD9⟩, hS.F ht9⟩) hS.2.2 dX12_forceOf_144
      · have fc773 := z_nle (rfl : (n4).toInt = _) (rfl : (x771_4).toInt = _) c773
        refine lv_bipush (v := 12) hx hb dX12_forceOf_22 (by decide) ?_
        refine lv_aload_n hx hb dX12_forceOf_24 rfl (lv_at hl 2 rfl) ?_
        refine gM_12_40 hx hb ht hown hK hP m_1179 dX12_forceOf_25 ?_
        refine lv_iload hx hb dX12_forceOf_28 (lv_at hl 0 rfl) ?_
        refine lM_12_40 hx hb hK hP (f := n3) rfl (vp_in_iff.mpr ⟨by omega, by omega⟩) dX12_forceOf_30 ?_
        refine lv_topi (fun v774 ev774 => ?_)
        have tv774 : 0 ≤ v774.toInt ∧ v774.toInt ≤ 7 := by rw [ev774]; exact hn3 _
        refine lv_imul hx hb dX12_forceOf_31 ?_
        refine lv_topi (fun v775 ev775 => ?_)
        have tv775 := z_mul ev775 (by decide : (12 : Int32).toInt = 12) (rfl : (v774).toInt = _) (by omega) (by omega)
        refine lv_istore (lv' := [(5, .int v775), (4, .int x771_4), (3, .int x771_3), (0, .ref h), (1, .int 1), (2, .int b)]) hx hb dX12_forceOf_32 hl (by decide) rfl (fun ls hl => ?_)
        have lp837 : ∀ (nn837 : Nat) (x836_5 : Int32) (x836_3 : Int32), 0 ≤ x836_5.toInt ∧ x836_5.toInt ≤ 96 → 1 ≤ x836_3.toInt → 1 ≤ (x836_3 : Int32).toInt → (12 * (n3 (x771_4 : Int32).toNatClampNeg).toInt ≤ (x836_5 : Int32).toInt) → 96 - x836_5.toInt < (nn837 : Int) → ∀ (H : Heap) (locs : List Loc), ∀ (ls : Array Slot), va_P (dC, dI) classes (WM h g ca (u2 iv 12 41 n4) lv (u2 (u2 fa 12 39 n2) 12 40 n3) la) H → va_D A (WM h g ca (u2 iv 12 41 n4) lv (u2 (u2 fa 12 39 n2) 12 40 n3) la) → va_S A s.heap H locs → lv_has ls 7 [(5, .int x836_5), (4, .int x771_4), (3, .int x836_3), (0, .ref h), (1, .int 1), (2, .int b)] → W p l e ({ frames := 1, cells := 0, slots := 0, locals := 23 } : Room) s m ([.ref h, .int 1, .int b] : List Value).toArray below meth c H locs 0 0 (MQ below (va_Qi (fun r (u : SS) => ∃ (na_12_39 : Nat → Int32) (na_12_40 : Nat → Int32) (ni_12_41 : Int32), (∀ j, inb (bA 12 39 j) (na_12_39 j)) ∧ (∀ j, inb (bA 12 40 j) (na_12_40 j)) ∧ inb (bI 12 41) ni_12_41 ∧ (1 ≤ r.toInt) ∧ (True) ∧ u = ((u2 iv 12 41 ni_12_41), lv, (u2 (u2 fa 12 39 na_12_39) 12 40 na_12_40), la)) (bM (dC, dI) h g ca A) A) ([.ref h, .int 1, .int b] : List Value).toArray s 0 0 A) (F0 m 34 ls []) := by
          intro nn837
          induction nn837 with
          | zero => intro x836_5 x836_3 hx836_5 hx836_3 hq837_0 hq837_1 hm837; exfalso; omega
          | succ nn837 ih837 =>
            intro x836_5 x836_3 hx836_5 hx836_3 hq837_0 hq837_1 hm837 H locs ls hP hD hS hl
            refine lv_iload hx hb dX12_forceOf_34 (lv_at hl 0 rfl) ?_
            refine lv_bipush (v := 12) hx hb dX12_forceOf_36 (by decide) ?_
            refine lv_aload_n hx hb dX12_forceOf_38 rfl (lv_at hl 3 rfl) ?_
            refine gM_12_40 hx hb ht hown hK hP m_1179 dX12_forceOf_39 ?_
            refine lv_iload hx hb dX12_forceOf_42 (lv_at hl 1 rfl) ?_
            refine lM_12_40 hx hb hK hP (f := n3) rfl (vp_in_iff.mpr ⟨by omega, by omega⟩) dX12_forceOf_44 ?_
            refine lv_topi (fun v838 ev838 => ?_)
            obtain rfl : v774 = v838 := ev774.trans ev838.symm
            refine lv_imul hx hb dX12_forceOf_45 ?_
            refine lv_topi (fun v839 ev839 => ?_)
            obtain rfl : v775 = v839 := ev775.trans ev839.symm
            refine lv_aload_n hx hb dX12_forceOf_46 rfl (lv_at hl 3 rfl) ?_
            refine gM_12_25 hx hb ht hown hK hP m_1164 dX12_forceOf_47 ?_
            refine lv_aload_n hx hb dX12_forceOf_50 rfl (lv_at hl 3 rfl) ?_
            refine gM_12_40 hx hb ht hown hK hP m_1179 dX12_forceOf_51 ?_
            refine lv_iload hx hb dX12_forceOf_54 (lv_at hl 1 rfl) ?_
            refine lM_12_40 hx hb hK hP (f := n3) rfl (vp_in_iff.mpr ⟨by omega, by omega⟩) dX12_forceOf_56 ?_
            refine lv_topi (fun v840 ev840 => ?_)
            obtain rfl : v774 = v840 := ev774.trans ev840.symm
            refine lM_12_25 hx hb hK hP (f := (fa 12 25)) rfl (vp_in_iff.mpr ⟨by omega, by omega⟩) dX12_forceOf_57 ?_
            refine lv_topi (fun v841 ev841 => ?_)
            have tv841 : 0 ≤ v841.toInt ∧ v841.toInt ≤ 12 := by rw [ev841]; exact hI.2 12 25 _
            refine lv_iadd hx hb dX12_forceOf_58 ?_
            refine lv_topi (fun v842 ev842 => ?_)
            have tv842 := z_add ev842 (rfl : (v775).toInt = _) (rfl : (v841).toInt = _) (by omega) (by omega)
            refine lv_icmp_ge (tgt := 137) hx hb dX12_forceOf_59 (by decide) (fun c843 => ?_) (fun c843 => ?_)
            · have fc843 := z_le (rfl : (v842).toInt = _) (rfl : (x836_5).toInt = _) c843
              obtain ⟨v844, ev844⟩ : ∃ y : Int32, y = x771_4 + 1 := ⟨_, rfl⟩
              have tv844 := z_add ev844 rfl (by decide : (1 : Int32).toInt = 1) (by omega) (by omega)
              refine lv_iinc (v := v844) (lv' := [(4, .int v844), (5, .int x836_5), (3, .int x836_3), (0, .ref h), (1, .int 1), (2, .int b)]) hx hb dX12_forceOf_137 hl (k := 1) rfl (by rw [ev844]; rfl) (by decide) rfl (fun ls hl => ?_)
              refine lv_goto (tgt := 13) hx hb dX12_forceOf_140 (by decide) ?_
              exact ih772 v844 x836_3 ⟨by omega, by omega⟩ (by omega) (show 1 ≤ (x836_3 : Int32).toInt from by omega) (by omega) _ _ ls hP hD hS (lv_sub hl [0, 2, 3, 4, 5] rfl)
            · have fc843 := z_nle (rfl : (v842).toInt = _) (rfl : (x836_5).toInt = _) c843
              refine lv_iload_n hx hb dX12_forceOf_62 rfl (lv_at hl 4 rfl) ?_
              refine lv_iconst (v := 5) hx hb dX12_forceOf_63 (by decide) ?_
              refine lv_icmp_ne (tgt := 86) hx hb dX12_forceOf_64 (by decide) (fun c845 => ?_) (fun c845 => ?_)
              · skip
                refine lv_aload_n hx hb dX12_forceOf_86 rfl (lv_at hl 3 rfl) ?_
                refine gM_12_26 hx hb ht hown hK hP m_1165 dX12_forceOf_87 ?_
                refine lv_iload hx hb dX12_forceOf_90 (lv_at hl 0 rfl) ?_
                refine lM_12_26 hx hb hK hP (f := (fa 12 26)) rfl (vp_in_iff.mpr ⟨by omega, by omega⟩) dX12_forceOf_92 ?_
                refine lv_topi (fun v846 ev846 => ?_)
                refine lv_if_ne (tgt := 111) hx hb dX12_forceOf_93 (by decide) (fun c847 => ?_) (fun c847 => ?_)
                · have fc847 := z_ne (rfl : (v846).toInt = _) (by decide : (0 : Int32).toInt = 0) c847
                  refine lv_iconst (v := 0) hx hb dX12_forceOf_111 (by decide) ?_
                  refine lv_istore (lv' := [(6, .int 0), (5, .int x836_5), (4, .int x771_4), (3, .int x836_3), (0, .ref h), (1, .int 1), (2, .int b)]) hx hb dX12_forceOf_112 hl (by decide) rfl (fun ls hl => ?_)
                  refine lv_iload hx hb dX12_forceOf_114 (lv_at hl 0 rfl) ?_
                  refine lv_if_eq (tgt := 129) hx hb dX12_forceOf_116 (by decide) (fun c848 => ?_) (fun c848 => ?_)
                  · skip
                    refine lv_iload_n hx hb dX12_forceOf_129 rfl (lv_at hl 3 rfl) ?_
                    refine lv_istore_n (lv' := [(3, .int x836_3), (6, .int 0), (5, .int x836_5), (4, .int x771_4), (0, .ref h), (1, .int 1), (2, .int b)]) hx hb dX12_forceOf_130 rfl hl (by decide) rfl (fun ls hl => ?_)
                    obtain ⟨v849, ev849⟩ : ∃ y : Int32, y = x836_5 + 1 := ⟨_, rfl⟩
                    have tv849 := z_add ev849 rfl (by decide : (1 : Int32).toInt = 1) (by omega) (by omega)
                    refine lv_iinc (v := v849) (lv' := [(5, .int v849), (3, .int x836_3), (6, .int 0), (4, .int x771_4), (0, .ref h), (1, .int 1), (2, .int b)]) hx hb dX12_forceOf_131 hl (k := 2) rfl (by rw [ev849]; rfl) (by decide) rfl (fun ls hl => ?_)
                    refine lv_goto (tgt := 34) hx hb dX12_forceOf_134 (by decide) ?_
                    exact ih837 v849 x836_3 ⟨by omega, by omega⟩ (by omega) (show 1 ≤ (x836_3 : Int32).toInt from by omega) (show 12 * (n3 (x771_4 : Int32).toNatClampNeg).toInt ≤ (v849 : Int32).toInt from (by have hq9 := hq837_1; omega)) (by omega) _ _ ls hP hD hS (lv_sub hl [0, 3, 1, 4, 5, 6] rfl)
                  · exact absurd rfl c848
                · have fc847 := z_eq (rfl : (v846).toInt = _) (by decide : (0 : Int32).toInt = 0) c847
                  refine lv_aload_n hx hb dX12_forceOf_96 rfl (lv_at hl 3 rfl) ?_
                  refine gM_12_27 hx hb ht hown hK hP m_1166 dX12_forceOf_97 ?_
                  refine lv_iload hx hb dX12_forceOf_100 (lv_at hl 0 rfl) ?_
                  refine lM_12_27 hx hb hK hP (f := (fa 12 27)) rfl (vp_in_iff.mpr ⟨by omega, by omega⟩) dX12_forceOf_102 ?_
                  refine lv_topi (fun v850 ev850 => ?_)
                  refine lv_iload_n hx hb dX12_forceOf_103 rfl (lv_at hl 4 rfl) ?_
                  refine lv_icmp_ne (tgt := 111) hx hb dX12_forceOf_104 (by decide) (fun c851 => ?_) (fun c851 => ?_)
                  · have fc851 := z_ne (rfl : (v850).toInt = _) (by decide : (1 : Int32).toInt = 1) c851
                    refine lv_iconst (v := 0) hx hb dX12_forceOf_111 (by decide) ?_
                    refine lv_istore (lv' := [(6, .int 0), (5, .int x836_5), (4, .int x771_4), (3, .int x836_3), (0, .ref h), (1, .int 1), (2, .int b)]) hx hb dX12_forceOf_112 hl (by decide) rfl (fun ls hl => ?_)
                    refine lv_iload hx hb dX12_forceOf_114 (lv_at hl 0 rfl) ?_
                    refine lv_if_eq (tgt := 129) hx hb dX12_forceOf_116 (by decide) (fun c852 => ?_) (fun c852 => ?_)
                    · skip
                      refine lv_iload_n hx hb dX12_forceOf_129 rfl (lv_at hl 3 rfl) ?_
                      refine lv_istore_n (lv' := [(3, .int x836_3), (6, .int 0), (5, .int x836_5), (4, .int x771_4), (0, .ref h), (1, .int 1), (2, .int b)]) hx hb dX12_forceOf_130 rfl hl (by decide) rfl (fun ls hl => ?_)
                      obtain ⟨v853, ev853⟩ : ∃ y : Int32, y = x836_5 + 1 := ⟨_, rfl⟩
                      have tv853 := z_add ev853 rfl (by decide : (1 : Int32).toInt = 1) (by omega) (by omega)
                      refine lv_iinc (v := v853) (lv' := [(5, .int v853), (3, .int x836_3), (6, .int 0), (4, .int x771_4), (0, .ref h), (1, .int 1), (2, .int b)]) hx hb dX12_forceOf_131 hl (k := 2) rfl (by rw [ev853]; rfl) (by decide) rfl (fun ls hl => ?_)
                      refine lv_goto (tgt := 34) hx hb dX12_forceOf_134 (by decide) ?_
                      exact ih837 v853 x836_3 ⟨by omega, by omega⟩ (by omega) (show 1 ≤ (x836_3 : Int32).toInt from by omega) (show 12 * (n3 (x771_4 : Int32).toNatClampNeg).toInt ≤ (v853 : Int32).toInt from (by have hq9 := hq837_1; omega)) (by omega) _ _ ls hP hD hS (lv_sub hl [0, 3, 1, 4, 5, 6] rfl)
                    · exact absurd rfl c852
                  · have fc851 := z_eq (rfl : (v850).toInt = _) (by decide : (1 : Int32).toInt = 1) c851
                    refine lv_iconst (v := 1) hx hb dX12_forceOf_107 (by decide) ?_
                    refine lv_goto (tgt := 112) hx hb dX12_forceOf_108 (by decide) ?_
                    refine lv_istore (lv' := [(6, .int 1), (5, .int x836_5), (4, .int x771_4), (3, .int x836_3), (0, .ref h), (1, .int 1), (2, .int b)]) hx hb dX12_forceOf_112 hl (by decide) rfl (fun ls hl => ?_)
                    refine lv_iload hx hb dX12_forceOf_114 (lv_at hl 0 rfl) ?_
                    refine lv_if_eq (tgt := 129) hx hb dX12_forceOf_116 (by decide) (fun c854 => ?_) (fun c854 => ?_)
                    · exact absurd c854 (by decide)
                    · skip
                      refine lv_aload_n hx hb dX12_forceOf_119 rfl (lv_at hl 4 rfl) ?_
                      refine gM_12_28 hx hb ht hown hK hP m_1167 dX12_forceOf_120 ?_
                      refine lv_iload hx hb dX12_forceOf_123 (lv_at hl 1 rfl) ?_
                      refine lM_12_28 hx hb hK hP (f := (fa 12 28)) rfl (vp_in_iff.mpr ⟨by omega, by omega⟩) dX12_forceOf_125 ?_
                      refine lv_topi (fun v855 ev855 => ?_)
                      have hv := xr1_0 (x771_4 : Int32).toNatClampNeg (by show (((x771_4 : Int32).toInt.toNat : Nat) : Int) < _; omega)
                      rw [← ev774] at hv
                      have hq9 := hq837_1
                      rw [← ev774] at hq9
                      have gq := hJC v774 x836_5 (by omega) (by omega) (by omega) (by rw [← ev841]; omega)
                      rw [← ev846, ← ev850, ← ev855] at gq
                      have gq2 := gq.2 (by omega) (by omega)
                      refine lv_goto (tgt := 130) hx hb dX12_forceOf_126 (by decide) ?_
                      refine lv_istore_n (lv' := [(3, .int v855), (6, .int 1), (5, .int x836_5), (4, .int x771_4), (0, .ref h), (1, .int 1), (2, .int b)]) hx hb dX12_forceOf_130 rfl hl (by decide) rfl (fun ls hl => ?_)
                      obtain ⟨v856, ev856⟩ : ∃ y : Int32, y = x836_5 + 1 := ⟨_, rfl⟩
                      have tv856 := z_add ev856 rfl (by decide : (1 : Int32).toInt = 1) (by omega) (by omega)
                      refine lv_iinc (v := v856) (lv' := [(5, .int v856), (3, .int v855), (6, .int 1), (4, .int x771_4), (0, .ref h), (1, .int 1), (2, .int b)]) hx hb dX12_forceOf_131 hl (k := 2) rfl (by rw [ev856]; rfl) (by decide) rfl (fun ls hl => ?_)
                      refine lv_goto (tgt := 34) hx hb dX12_forceOf_134 (by decide) ?_
                      exact ih837 v856 v855 ⟨by omega, by omega⟩ (by omega) (show 1 ≤ (v855 : Int32).toInt from by omega) (show 12 * (n3 (x771_4 : Int32).toNatClampNeg).toInt ≤ (v856 : Int32).toInt from (by have hq9 := hq837_1; omega)) (by omega) _ _ ls hP hD hS (lv_sub hl [0, 3, 1, 4, 5, 6] rfl)
              · exact absurd c845 (by decide)
        exact lp837 97 v775 x771_3 ⟨by omega, by omega⟩ (by omega) (show 1 ≤ (x771_3 : Int32).toInt from by omega) (show 12 * (n3 (x771_4 : Int32).toNatClampNeg).toInt ≤ (v775 : Int32).toInt from (by have h9 := congrArg Int32.toInt ev774; omega)) (by first | decide | omega) _ _ ls hP hD hS (lv_sub hl [0, 1, 2, 3, 4, 5] rfl)
  have : (0 : Int32).toInt = 0 := (by decide)
  have : (3 : Int32).toInt = 3 := (by decide)
  exact lp772 9 0 3 ⟨by decide, by decide⟩ (by decide) (show 1 ≤ (3 : Int32).toInt from by omega) (by first | decide | omega) _ _ ls hP hD hS (lv_sub hl [0, 1, 2, 3, 4] rfl)
set_option maxHeartbeats 4000000 in
set_option maxRecDepth 100000 in
/-- X12_named -/
theorem c_X12_named (l : Launch) (dC : Nat → ClassId) (dI : Nat → Nat → Nat) (sz : Nat) (h : Nat) (g : Nat → Nat → Nat) (ca : Nat → Nat → ClassId) (iv : Nat → Nat → Int32) (lv : Nat → Nat → Int64) (fa : Nat → Nat → Nat → Int32) (la : Nat → Nat → Nat → Int64) (hI : IX iv fa) (a : Int32) (b : Int32) (hJC : JCf (iv 12 23).toInt (fa 12 25) (fa 12 26) (fa 12 27) (fa 12 28)) : Met l yX12_named (wc yX12_named cX12_named 10 (some .int)) ({ frames := 2, cells := 0, slots := 0, locals := 46 } : Room) (pW (dC, dI) classes (WM h g ca iv lv fa la) (TM ca) sz [.ref h, .int a, .int b]) (va_Qi (fun r (u : SS) => ∃ (na_12_39 : Nat → Int32) (na_12_40 : Nat → Int32) (ni_12_41 : Int32), (∀ j, inb (bA 12 39 j) (na_12_39 j)) ∧ (∀ j, inb (bA 12 40 j) (na_12_40 j)) ∧ inb (bI 12 41) ni_12_41 ∧ ((-100002) ≤ r.toInt ∧ r.toInt ≤ 767) ∧ u = ((u2 iv 12 41 ni_12_41), lv, (u2 (u2 fa 12 39 na_12_39) 12 40 na_12_40), la)) (bM (dC, dI) h g ca (va_A (WM h g ca iv lv fa la) sz)) (va_A (WM h g ca iv lv fa la) sz)) 0 0 (va_A (WM h g ca iv lv fa la) sz) := by
  refine Met.ofW (cc := cX12_named) (maxL := 10) (ret := (some .int)) (by decide) rfl ?_
  intro p e s m args below meth c s₁ B hml hv
  obtain ⟨rfl, hsz, hP, hK, hD0⟩ := hv
  have hx := B.exec
  have hb := B.bytes
  have hr := B.returns
  have ht := tb_tl (atoms_spec (ws := wc yX12_named cX12_named 10 (some .int)) B.pre)
  have hown : s.vm.findClass RX12 = some m.cls := findClass_of_methodNamed B.named
  have hlocks := B.notSynchronized
  subst hsz
  have hD := hD0.self (sz := s.heap.size)
  generalize hAe : va_A (WM h g ca iv lv fa la) s.heap.size = A at hD ⊢
  have hA : ∀ q : Nat, s.heap.size ≤ q → A q := fun q h => by rw [← hAe]; exact Or.inr h
  have hS : va_S A s.heap s.heap [] := va_S.rf
  have hl := lv_entry [.ref h, .int a, .int b] (n := 10) (Nat.le_of_ble_eq_true rfl)
  rw [lg_entry_eq]
  generalize (lg_sl [.ref h, .int a, .int b] ++ List.replicate (10 - (lg_sl [.ref h, .int a, .int b]).length) Slot.unset).toArray = ls at hl ⊢
  have hl : lv_has ls 10 [(0, .ref h), (1, .int a), (2, .int b)] := hl
  refine lv_aload_n hx hb dX12_named_0 rfl (lv_at hl 0 rfl) ?_
  refine lv_iload_n hx hb dX12_named_1 rfl (lv_at hl 1 rfl) ?_
  refine vp_callSi (W.runV (As := [.int a]) (rest := []) ⟨hx, hb, hml, hown, ht⟩ (c_X12_noBale l dC dI h g ca iv lv fa la hI a) (kV 1 ht m_1385 m_1387 m_42 m_89 m_1388 rfl rfl hd_X12_noBale_v ⟨Nat.le_of_ble_eq_true rfl, Nat.le_of_ble_eq_true rfl⟩) (vR hP hK (rM_12 hK hP)) rfl rfl hl.1 rfl (lv_room (Nat.le_of_ble_eq_true rfl)) dX12_named_2 ⟨Nat.le_of_ble_eq_true rfl, Nat.le_of_ble_eq_true rfl⟩) (fun r1 hr1 => ?_)
  rcases hr1 with ⟨rfl, fr1⟩ | ⟨rfl, fr1⟩
  · skip
    have i_12_1 : 0 ≤ (iv 12 1).toInt ∧ (iv 12 1).toInt ≤ 10 := hI.1 12 1
    have fr1 : ¬ (0 ≤ (a : Int32).toInt ∧ (a : Int32).toInt < ((iv 12 1) : Int32).toInt) := fr1
    refine lv_if_eq (tgt := 11) hx hb dX12_named_5 (by decide) (fun c2 => ?_) (fun c2 => ?_)
    · exact absurd c2 (by decide)
    · skip
      refine lv_ldc hx hb hown (ht _ m_1389) dX12_named_8 ?_
      have hP9 : va_P (dC, dI) classes (WM h g ca (u2 iv 12 41 (iv 12 41)) lv (u2 (u2 fa 12 39 (fa 12 39)) 12 40 (fa 12 40)) la) s.heap := hP
      have hD9 : va_D A (WM h g ca (u2 iv 12 41 (iv 12 41)) lv (u2 (u2 fa 12 39 (fa 12 39)) 12 40 (fa 12 40)) la) := hD
      exact W.iret (v := (-100001)) hx hb hr (fun t ht9 hW => ⟨⟨(-100001), ((u2 iv 12 41 (iv 12 41)), lv, (u2 (u2 fa 12 39 (fa 12 39)) 12 40 (fa 12 40)), la), rfl, ⟨(fa 12 39), (fa 12 40), (iv 12 41), (hI.2 12 39), (hI.2 12 40), (hI.1 12 41), ⟨by decide, by decide⟩, rfl⟩, by rw [ht9]; exact hP9, hD9⟩, hS.F ht9⟩) hS.2.2 dX12_named_10
  · skip
    have i_12_1 : 0 ≤ (iv 12 1).toInt ∧ (iv 12 1).toInt ≤ 10 := hI.1 12 1
    have fr1 : (0 ≤ (a : Int32).toInt ∧ (a : Int32).toInt < ((iv 12 1) : Int32).toInt) := Decidable.not_not.mp fr1
    refine lv_if_eq (tgt := 11) hx hb dX12_named_5 (by decide) (fun c3 => ?_) (fun c3 => ?_)
    · skip
      refine lv_iload_n hx hb dX12_named_11 rfl (lv_at hl 2 rfl) ?_
      refine vp_callSi (W.runS (As := [.int b]) (rest := []) ⟨hx, hb, hml, hown, ht⟩ (c_X12_isDay l dC dI b) (kS 1 ht m_1422 m_1423 m_89 m_1424 rfl rfl hd_X12_isDay_v ⟨Nat.le_of_ble_eq_true rfl, Nat.le_of_ble_eq_true rfl⟩) (sR noP (hK.sub (tys' := []) [] rfl)) rfl rfl hl.1 rfl (lv_room (Nat.le_of_ble_eq_true rfl)) dX12_named_12 ⟨Nat.le_of_ble_eq_true rfl, Nat.le_of_ble_eq_true rfl⟩) (fun r4 hr4 => ?_)
      rcases hr4 with ⟨rfl, fr4⟩ | ⟨rfl, fr4⟩
      · skip
        refine lv_if_ne (tgt := 21) hx hb dX12_named_15 (by decide) (fun c5 => ?_) (fun c5 => ?_)
        · skip
          refine lv_aload_n hx hb dX12_named_21 rfl (lv_at hl 0 rfl) ?_
          refine gM_12_51 hx hb ht hown hK hP m_1190 dX12_named_22 ?_
          refine lv_iload_n hx hb dX12_named_25 rfl (lv_at hl 1 rfl) ?_
          refine lM_12_51 hx hb hK hP (f := (fa 12 51)) rfl (vp_in_iff.mpr ⟨by omega, by omega⟩) dX12_named_26 ?_
          refine lv_topi (fun v6 ev6 => ?_)
          have tv6 : 0 ≤ v6.toInt ∧ v6.toInt ≤ 12 := by rw [ev6]; exact hI.2 12 51 _
          refine lv_istore_n (lv' := [(3, .int v6), (0, .ref h), (1, .int a), (2, .int b)]) hx hb dX12_named_27 rfl hl (by decide) rfl (fun ls hl => ?_)
          refine lv_iconst (v := 0) hx hb dX12_named_28 (by decide) ?_
          refine lv_istore (lv' := [(4, .int 0), (3, .int v6), (0, .ref h), (1, .int a), (2, .int b)]) hx hb dX12_named_29 hl (by decide) rfl (fun ls hl => ?_)
          refine lv_iconst (v := 0) hx hb dX12_named_31 (by decide) ?_
          refine lv_istore (lv' := [(5, .int 0), (4, .int 0), (3, .int v6), (0, .ref h), (1, .int a), (2, .int b)]) hx hb dX12_named_32 hl (by decide) rfl (fun ls hl => ?_)
          have lp34383 : ∀ (nn34383 : Nat) (x34382_5 : Int32) (x34382_4 : Int32), 0 ≤ x34382_5.toInt ∧ x34382_5.toInt ≤ 12 → 12 - x34382_5.toInt < (nn34383 : Int) → ∀ (H : Heap) (locs : List Loc), ∀ (ls : Array Slot), va_P (dC, dI) classes (WM h g ca iv lv fa la) H → va_D A (WM h g ca iv lv fa la) → va_S A s.heap H locs → lv_has ls 10 [(5, .int x34382_5), (4, .int x34382_4), (3, .int v6), (0, .ref h), (1, .int a), (2, .int b)] → W p l e ({ frames := 2, cells := 0, slots := 0, locals := 46 } : Room) s m ([.ref h, .int a, .int b] : List Value).toArray below meth c H locs 0 0 (MQ below (va_Qi (fun r (u : SS) => ∃ (na_12_39 : Nat → Int32) (na_12_40 : Nat → Int32) (ni_12_41 : Int32), (∀ j, inb (bA 12 39 j) (na_12_39 j)) ∧ (∀ j, inb (bA 12 40 j) (na_12_40 j)) ∧ inb (bI 12 41) ni_12_41 ∧ ((-100002) ≤ r.toInt ∧ r.toInt ≤ 767) ∧ u = ((u2 iv 12 41 ni_12_41), lv, (u2 (u2 fa 12 39 na_12_39) 12 40 na_12_40), la)) (bM (dC, dI) h g ca A) A) ([.ref h, .int a, .int b] : List Value).toArray s 0 0 A) (F0 m 34 ls []) := by
            intro nn34383
            induction nn34383 with
            | zero => intro x34382_5 x34382_4 hx34382_5 hm34383; exfalso; omega
            | succ nn34383 ih34383 =>
              intro x34382_5 x34382_4 hx34382_5 hm34383 H locs ls hP hD hS hl
              refine lv_iload hx hb dX12_named_34 (lv_at hl 0 rfl) ?_
              refine lv_iload_n hx hb dX12_named_36 rfl (lv_at hl 2 rfl) ?_
              refine lv_icmp_ge (tgt := 65) hx hb dX12_named_37 (by decide) (fun c34384 => ?_) (fun c34384 => ?_)
              · have fc34384 := z_le (rfl : (v6).toInt = _) (rfl : (x34382_5).toInt = _) c34384
                refine lv_aload_n hx hb dX12_named_65 rfl (lv_at hl 3 rfl) ?_
                refine lv_iload_n hx hb dX12_named_66 rfl (lv_at hl 5 rfl) ?_
                have hFc := free_all hD hS hA
                refine va_callv (va_runV (As := [.int b]) (rest := []) ⟨hx, hb, hml, hown, ht⟩ (c_X12_findRules l dC dI H.size h g ca iv lv fa la hI b hJC) (kV 1 ht m_1513 m_1515 m_56 m_89 m_1516 rfl rfl hd_X12_findRules_v ⟨Nat.le_of_ble_eq_true rfl, Nat.le_of_ble_eq_true rfl⟩) (vW hP hK hD (rM_12 hK hP)) rfl rfl hl.1 rfl (lv_room (Nat.le_of_ble_eq_true rfl)) dX12_named_67 ⟨Nat.le_of_ble_eq_true rfl, Nat.le_of_ble_eq_true rfl⟩) hS (fun q _ h => hFc q h) hFc (fun u t H1 locs ht9 hvm hr34385 hB hz1 hk1 hS => ?_)
                obtain ⟨n34386, n34387, n34388, hn34386, hn34387, hn34388, xr34385_0, xr34385_1, rfl⟩ := hr34385
                have hn34388 : 0 ≤ n34388.toInt ∧ n34388.toInt ≤ 8 := hn34388
                obtain ⟨hP, hD⟩ := hB
                rw [ht9] at hP
                generalize H1 = H at hP hS ⊢
                have hP : va_P (dC, dI) classes (WM h g ca (u2 iv 12 41 n34388) lv (u2 (u2 fa 12 39 n34386) 12 40 n34387) la) H := hP
                have hD : va_D A (WM h g ca (u2 iv 12 41 n34388) lv (u2 (u2 fa 12 39 n34386) 12 40 n34387) la) := (show va_D _ (WM h g ca (u2 iv 12 41 n34388) lv (u2 (u2 fa 12 39 n34386) 12 40 n34387) la) from hD).weaken (fun _ _ _ h => hFc _ h)
                have i_12_23 : 0 ≤ (iv 12 23).toInt ∧ (iv 12 23).toInt ≤ 8 := hI.1 12 23
                have xr34385_0 : ∀ j : Nat, (j : Int) < (n34388 : Int32).toInt → (n34387 j).toInt < ((iv 12 23) : Int32).toInt := xr34385_0
                have xr34385_1 : (n34388 : Int32).toInt ≤ ((iv 12 23) : Int32).toInt := xr34385_1
                refine lv_iconst (v := (-1)) hx hb dX12_named_70 (by decide) ?_
                refine lv_istore (lv' := [(5, .int (-1)), (4, .int x34382_4), (3, .int v6), (0, .ref h), (1, .int a), (2, .int b)]) hx hb dX12_named_71 hl (by decide) rfl (fun ls hl => ?_)
                refine lv_iconst (v := 0) hx hb dX12_named_73 (by decide) ?_
                refine lv_istore (lv' := [(6, .int 0), (5, .int (-1)), (4, .int x34382_4), (3, .int v6), (0, .ref h), (1, .int a), (2, .int b)]) hx hb dX12_named_74 hl (by decide) rfl (fun ls hl => ?_)
                have lp36955 : ∀ (nn36955 : Nat) (x36954_6 : Int32) (x36954_5 : Int32), 0 ≤ x36954_6.toInt ∧ x36954_6.toInt ≤ 8 → (-1) ≤ x36954_5.toInt ∧ x36954_5.toInt ≤ 767 → 8 - x36954_6.toInt < (nn36955 : Int) → ∀ (H : Heap) (locs : List Loc), ∀ (ls : Array Slot), va_P (dC, dI) classes (WM h g ca (u2 iv 12 41 n34388) lv (u2 (u2 fa 12 39 n34386) 12 40 n34387) la) H → va_D A (WM h g ca (u2 iv 12 41 n34388) lv (u2 (u2 fa 12 39 n34386) 12 40 n34387) la) → va_S A s.heap H locs → lv_has ls 10 [(6, .int x36954_6), (5, .int x36954_5), (4, .int x34382_4), (3, .int v6), (0, .ref h), (1, .int a), (2, .int b)] → W p l e ({ frames := 2, cells := 0, slots := 0, locals := 46 } : Room) s m ([.ref h, .int a, .int b] : List Value).toArray below meth c H locs 0 0 (MQ below (va_Qi (fun r (u : SS) => ∃ (na_12_39 : Nat → Int32) (na_12_40 : Nat → Int32) (ni_12_41 : Int32), (∀ j, inb (bA 12 39 j) (na_12_39 j)) ∧ (∀ j, inb (bA 12 40 j) (na_12_40 j)) ∧ inb (bI 12 41) ni_12_41 ∧ ((-100002) ≤ r.toInt ∧ r.toInt ≤ 767) ∧ u = ((u2 iv 12 41 ni_12_41), lv, (u2 (u2 fa 12 39 na_12_39) 12 40 na_12_40), la)) (bM (dC, dI) h g ca A) A) ([.ref h, .int a, .int b] : List Value).toArray s 0 0 A) (F0 m 76 ls []) := by
                  intro nn36955
                  induction nn36955 with
                  | zero => intro x36954_6 x36954_5 hx36954_6 hx36954_5 hm36955; exfalso; omega
                  | succ nn36955 ih36955 =>
                    intro x36954_6 x36954_5 hx36954_6 hx36954_5 hm36955 H locs ls hP hD hS hl
                    refine lv_iload hx hb dX12_named_76 (lv_at hl 0 rfl) ?_
                    refine lv_aload_n hx hb dX12_named_78 rfl (lv_at hl 4 rfl) ?_
                    refine gM_12_41 hx hb ht hown hK hP m_1180 (v := n34388) rfl dX12_named_79 ?_
                    refine lv_icmp_ge (tgt := 189) hx hb dX12_named_82 (by decide) (fun c36956 => ?_) (fun c36956 => ?_)
                    · have fc36956 := z_le (rfl : (n34388).toInt = _) (rfl : (x36954_6).toInt = _) c36956
                      refine lv_iload hx hb dX12_named_189 (lv_at hl 1 rfl) ?_
                      have hP9 : va_P (dC, dI) classes (WM h g ca (u2 iv 12 41 n34388) lv (u2 (u2 fa 12 39 n34386) 12 40 n34387) la) H := hP
                      have hD9 : va_D A (WM h g ca (u2 iv 12 41 n34388) lv (u2 (u2 fa 12 39 n34386) 12 40 n34387) la) := hD
                      exact W.iret (v := x36954_5) hx hb hr (fun t ht9 hW => ⟨⟨x36954_5, ((u2 iv 12 41 n34388), lv, (u2 (u2 fa 12 39 n34386) 12 40 n34387), la), rfl, ⟨n34386, n34387, n34388, hn34386, hn34387, (show inb (0, 8) n34388 from ⟨by omega, by omega⟩), ⟨by omega, by omega⟩, rfl⟩, by rw [ht9]; exact hP9, hD9⟩, hS.F ht9⟩) hS.2.2 dX12_named_191
                    · have fc36956 := z_nle (rfl : (n34388).toInt = _) (rfl : (x36954_6).toInt = _) c36956
                      refine lv_iload_n hx hb dX12_named_85 rfl (lv_at hl 3 rfl) ?_
                      refine lv_if_le (tgt := 189) hx hb dX12_named_86 (by decide) (fun c36957 => ?_) (fun c36957 => ?_)
                      · have fc36957 := z_le (rfl : (v6).toInt = _) (by decide : (0 : Int32).toInt = 0) c36957
                        refine lv_iload hx hb dX12_named_189 (lv_at hl 1 rfl) ?_
                        have hP9 : va_P (dC, dI) classes (WM h g ca (u2 iv 12 41 n34388) lv (u2 (u2 fa 12 39 n34386) 12 40 n34387) la) H := hP
                        have hD9 : va_D A (WM h g ca (u2 iv 12 41 n34388) lv (u2 (u2 fa 12 39 n34386) 12 40 n34387) la) := hD
                        exact W.iret (v := x36954_5) hx hb hr (fun t ht9 hW => ⟨⟨x36954_5, ((u2 iv 12 41 n34388), lv, (u2 (u2 fa 12 39 n34386) 12 40 n34387), la), rfl, ⟨n34386, n34387, n34388, hn34386, hn34387, (show inb (0, 8) n34388 from ⟨by omega, by omega⟩), ⟨by omega, by omega⟩, rfl⟩, by rw [ht9]; exact hP9, hD9⟩, hS.F ht9⟩) hS.2.2 dX12_named_191
                      · have fc36957 := z_nle (rfl : (v6).toInt = _) (by decide : (0 : Int32).toInt = 0) c36957
                        refine lv_aload_n hx hb dX12_named_89 rfl (lv_at hl 4 rfl) ?_
                        refine gM_12_40 hx hb ht hown hK hP m_1179 dX12_named_90 ?_
                        refine lv_iload hx hb dX12_named_93 (lv_at hl 0 rfl) ?_
                        refine lM_12_40 hx hb hK hP (f := n34387) rfl (vp_in_iff.mpr ⟨by omega, by omega⟩) dX12_named_95 ?_
                        refine lv_topi (fun v36958 ev36958 => ?_)
                        have tv36958 : 0 ≤ v36958.toInt ∧ v36958.toInt ≤ 7 := by rw [ev36958]; exact hn34387 _
                        refine lv_istore (lv' := [(7, .int v36958), (6, .int x36954_6), (5, .int x36954_5), (4, .int x34382_4), (3, .int v6), (0, .ref h), (1, .int a), (2, .int b)]) hx hb dX12_named_96 hl (by decide) rfl (fun ls hl => ?_)
                        refine lv_iconst (v := 0) hx hb dX12_named_98 (by decide) ?_
                        refine lv_istore (lv' := [(8, .int 0), (7, .int v36958), (6, .int x36954_6), (5, .int x36954_5), (4, .int x34382_4), (3, .int v6), (0, .ref h), (1, .int a), (2, .int b)]) hx hb dX12_named_99 hl (by decide) rfl (fun ls hl => ?_)
                        have lp37220 : ∀ (nn37220 : Nat) (x37219_8 : Int32) (x37219_5 : Int32), 0 ≤ x37219_8.toInt ∧ x37219_8.toInt ≤ 12 → (-1) ≤ x37219_5.toInt ∧ x37219_5.toInt ≤ 767 → 12 - x37219_8.toInt < (nn37220 : Int) → ∀ (H : Heap) (locs : List Loc), ∀ (ls : Array Slot), va_P (dC, dI) classes (WM h g ca (u2 iv 12 41 n34388) lv (u2 (u2 fa 12 39 n34386) 12 40 n34387) la) H → va_D A (WM h g ca (u2 iv 12 41 n34388) lv (u2 (u2 fa 12 39 n34386) 12 40 n34387) la) → va_S A s.heap H locs → lv_has ls 10 [(8, .int x37219_8), (7, .int v36958), (6, .int x36954_6), (5, .int x37219_5), (4, .int x34382_4), (3, .int v6), (0, .ref h), (1, .int a), (2, .int b)] → W p l e ({ frames := 2, cells := 0, slots := 0, locals := 46 } : Room) s m ([.ref h, .int a, .int b] : List Value).toArray below meth c H locs 0 0 (MQ below (va_Qi (fun r (u : SS) => ∃ (na_12_39 : Nat → Int32) (na_12_40 : Nat → Int32) (ni_12_41 : Int32), (∀ j, inb (bA 12 39 j) (na_12_39 j)) ∧ (∀ j, inb (bA 12 40 j) (na_12_40 j)) ∧ inb (bI 12 41) ni_12_41 ∧ ((-100002) ≤ r.toInt ∧ r.toInt ≤ 767) ∧ u = ((u2 iv 12 41 ni_12_41), lv, (u2 (u2 fa 12 39 na_12_39) 12 40 na_12_40), la)) (bM (dC, dI) h g ca A) A) ([.ref h, .int a, .int b] : List Value).toArray s 0 0 A) (F0 m 101 ls []) := by
                          intro nn37220
                          induction nn37220 with
                          | zero => intro x37219_8 x37219_5 hx37219_8 hx37219_5 hm37220; exfalso; omega
                          | succ nn37220 ih37220 =>
                            intro x37219_8 x37219_5 hx37219_8 hx37219_5 hm37220 H locs ls hP hD hS hl
                            refine lv_iload hx hb dX12_named_101 (lv_at hl 0 rfl) ?_
                            refine lv_aload_n hx hb dX12_named_103 rfl (lv_at hl 6 rfl) ?_
                            refine gM_12_25 hx hb ht hown hK hP m_1164 dX12_named_104 ?_
                            refine lv_iload hx hb dX12_named_107 (lv_at hl 1 rfl) ?_
                            refine lM_12_25 hx hb hK hP (f := (fa 12 25)) rfl (vp_in_iff.mpr ⟨by omega, by omega⟩) dX12_named_109 ?_
                            refine lv_topi (fun v37221 ev37221 => ?_)
                            have tv37221 : 0 ≤ v37221.toInt ∧ v37221.toInt ≤ 12 := by rw [ev37221]; exact hI.2 12 25 _
                            refine lv_icmp_ge (tgt := 183) hx hb dX12_named_110 (by decide) (fun c37222 => ?_) (fun c37222 => ?_)
                            · have fc37222 := z_le (rfl : (v37221).toInt = _) (rfl : (x37219_8).toInt = _) c37222
                              obtain ⟨v37223, ev37223⟩ : ∃ y : Int32, y = x36954_6 + 1 := ⟨_, rfl⟩
                              have tv37223 := z_add ev37223 rfl (by decide : (1 : Int32).toInt = 1) (by omega) (by omega)
                              refine lv_iinc (v := v37223) (lv' := [(6, .int v37223), (8, .int x37219_8), (7, .int v36958), (5, .int x37219_5), (4, .int x34382_4), (3, .int v6), (0, .ref h), (1, .int a), (2, .int b)]) hx hb dX12_named_183 hl (k := 2) rfl (by rw [ev37223]; rfl) (by decide) rfl (fun ls hl => ?_)
                              refine lv_goto (tgt := 76) hx hb dX12_named_186 (by decide) ?_
                              exact ih36955 v37223 x37219_5 ⟨by omega, by omega⟩ ⟨by omega, by omega⟩ (by omega) _ _ ls hP hD hS (lv_sub hl [0, 3, 4, 5, 6, 7, 8] rfl)
                            · have fc37222 := z_nle (rfl : (v37221).toInt = _) (rfl : (x37219_8).toInt = _) c37222
                              refine lv_bipush (v := 12) hx hb dX12_named_113 (by decide) ?_
                              refine lv_iload hx hb dX12_named_115 (lv_at hl 1 rfl) ?_
                              refine lv_imul hx hb dX12_named_117 ?_
                              refine lv_topi (fun v37224 ev37224 => ?_)
                              have tv37224 := z_mul ev37224 (by decide : (12 : Int32).toInt = 12) (rfl : (v36958).toInt = _) (by omega) (by omega)
                              refine lv_iload hx hb dX12_named_118 (lv_at hl 0 rfl) ?_
                              refine lv_iadd hx hb dX12_named_120 ?_
                              refine lv_topi (fun v37225 ev37225 => ?_)
                              have tv37225 := z_add ev37225 (rfl : (v37224).toInt = _) (rfl : (x37219_8).toInt = _) (by omega) (by omega)
                              refine lv_istore (lv' := [(9, .int v37225), (8, .int x37219_8), (7, .int v36958), (6, .int x36954_6), (5, .int x37219_5), (4, .int x34382_4), (3, .int v6), (0, .ref h), (1, .int a), (2, .int b)]) hx hb dX12_named_121 hl (by decide) rfl (fun ls hl => ?_)
                              refine lv_aload_n hx hb dX12_named_123 rfl (lv_at hl 7 rfl) ?_
                              refine gM_12_26 hx hb ht hown hK hP m_1165 dX12_named_124 ?_
                              refine lv_iload hx hb dX12_named_127 (lv_at hl 0 rfl) ?_
                              refine lM_12_26 hx hb hK hP (f := (fa 12 26)) rfl (vp_in_iff.mpr ⟨by omega, by omega⟩) dX12_named_129 ?_
                              refine lv_topi (fun v37226 ev37226 => ?_)
                              refine lv_iconst (v := 2) hx hb dX12_named_130 (by decide) ?_
                              refine lv_icmp_ne (tgt := 173) hx hb dX12_named_131 (by decide) (fun c37227 => ?_) (fun c37227 => ?_)
                              · have fc37227 := z_ne (rfl : (v37226).toInt = _) (by decide : (2 : Int32).toInt = 2) c37227
                                refine lv_iload hx hb dX12_named_173 (lv_at hl 4 rfl) ?_
                                refine lv_istore (lv' := [(5, .int x37219_5), (9, .int v37225), (8, .int x37219_8), (7, .int v36958), (6, .int x36954_6), (4, .int x34382_4), (3, .int v6), (0, .ref h), (1, .int a), (2, .int b)]) hx hb dX12_named_175 hl (by decide) rfl (fun ls hl => ?_)
                                obtain ⟨v37228, ev37228⟩ : ∃ y : Int32, y = x37219_8 + 1 := ⟨_, rfl⟩
                                have tv37228 := z_add ev37228 rfl (by decide : (1 : Int32).toInt = 1) (by omega) (by omega)
                                refine lv_iinc (v := v37228) (lv' := [(8, .int v37228), (5, .int x37219_5), (9, .int v37225), (7, .int v36958), (6, .int x36954_6), (4, .int x34382_4), (3, .int v6), (0, .ref h), (1, .int a), (2, .int b)]) hx hb dX12_named_177 hl (k := 2) rfl (by rw [ev37228]; rfl) (by decide) rfl (fun ls hl => ?_)
                                refine lv_goto (tgt := 101) hx hb dX12_named_180 (by decide) ?_
                                exact ih37220 v37228 x37219_5 ⟨by omega, by omega⟩ ⟨by omega, by omega⟩ (by omega) _ _ ls hP hD hS (lv_sub hl [0, 3, 4, 1, 5, 6, 7, 8, 9] rfl)
                              · have fc37227 := z_eq (rfl : (v37226).toInt = _) (by decide : (2 : Int32).toInt = 2) c37227
                                refine lv_iload hx hb dX12_named_134 (lv_at hl 5 rfl) ?_
                                refine lv_iload_n hx hb dX12_named_136 rfl (lv_at hl 6 rfl) ?_
                                refine lv_aload_n hx hb dX12_named_137 rfl (lv_at hl 7 rfl) ?_
                                refine gM_12_28 hx hb ht hown hK hP m_1167 dX12_named_138 ?_
                                refine lv_iload hx hb dX12_named_141 (lv_at hl 0 rfl) ?_
                                refine lM_12_28 hx hb hK hP (f := (fa 12 28)) rfl (vp_in_iff.mpr ⟨by omega, by omega⟩) dX12_named_143 ?_
                                refine lv_topi (fun v37229 ev37229 => ?_)
                                refine lv_imul hx hb dX12_named_144 ?_
                                refine lv_topi (fun v37230 ev37230 => ?_)
                                refine lv_icmp_lt (tgt := 173) hx hb dX12_named_145 (by decide) (fun c37231 => ?_) (fun c37231 => ?_)
                                · have fc37231 := z_lt (rfl : (x34382_4).toInt = _) (rfl : (v37230).toInt = _) c37231
                                  refine lv_iload hx hb dX12_named_173 (lv_at hl 4 rfl) ?_
                                  refine lv_istore (lv' := [(5, .int x37219_5), (9, .int v37225), (8, .int x37219_8), (7, .int v36958), (6, .int x36954_6), (4, .int x34382_4), (3, .int v6), (0, .ref h), (1, .int a), (2, .int b)]) hx hb dX12_named_175 hl (by decide) rfl (fun ls hl => ?_)
                                  obtain ⟨v37232, ev37232⟩ : ∃ y : Int32, y = x37219_8 + 1 := ⟨_, rfl⟩
                                  have tv37232 := z_add ev37232 rfl (by decide : (1 : Int32).toInt = 1) (by omega) (by omega)
                                  refine lv_iinc (v := v37232) (lv' := [(8, .int v37232), (5, .int x37219_5), (9, .int v37225), (7, .int v36958), (6, .int x36954_6), (4, .int x34382_4), (3, .int v6), (0, .ref h), (1, .int a), (2, .int b)]) hx hb dX12_named_177 hl (k := 2) rfl (by rw [ev37232]; rfl) (by decide) rfl (fun ls hl => ?_)
                                  refine lv_goto (tgt := 101) hx hb dX12_named_180 (by decide) ?_
                                  exact ih37220 v37232 x37219_5 ⟨by omega, by omega⟩ ⟨by omega, by omega⟩ (by omega) _ _ ls hP hD hS (lv_sub hl [0, 3, 4, 1, 5, 6, 7, 8, 9] rfl)
                                · have fc37231 := z_nlt (rfl : (x34382_4).toInt = _) (rfl : (v37230).toInt = _) c37231
                                  refine lv_iload hx hb dX12_named_148 (lv_at hl 5 rfl) ?_
                                  refine lv_iload_n hx hb dX12_named_150 rfl (lv_at hl 6 rfl) ?_
                                  refine lv_aload_n hx hb dX12_named_151 rfl (lv_at hl 7 rfl) ?_
                                  refine gM_12_29 hx hb ht hown hK hP m_1168 dX12_named_152 ?_
                                  refine lv_iload hx hb dX12_named_155 (lv_at hl 0 rfl) ?_
                                  refine lM_12_29 hx hb hK hP (f := (fa 12 29)) rfl (vp_in_iff.mpr ⟨by omega, by omega⟩) dX12_named_157 ?_
                                  refine lv_topi (fun v37233 ev37233 => ?_)
                                  refine lv_imul hx hb dX12_named_158 ?_
                                  refine lv_topi (fun v37234 ev37234 => ?_)
                                  refine lv_icmp_ge (tgt := 173) hx hb dX12_named_159 (by decide) (fun c37235 => ?_) (fun c37235 => ?_)
                                  · have fc37235 := z_le (rfl : (v37234).toInt = _) (rfl : (x34382_4).toInt = _) c37235
                                    refine lv_iload hx hb dX12_named_173 (lv_at hl 4 rfl) ?_
                                    refine lv_istore (lv' := [(5, .int x37219_5), (9, .int v37225), (8, .int x37219_8), (7, .int v36958), (6, .int x36954_6), (4, .int x34382_4), (3, .int v6), (0, .ref h), (1, .int a), (2, .int b)]) hx hb dX12_named_175 hl (by decide) rfl (fun ls hl => ?_)
                                    obtain ⟨v37236, ev37236⟩ : ∃ y : Int32, y = x37219_8 + 1 := ⟨_, rfl⟩
                                    have tv37236 := z_add ev37236 rfl (by decide : (1 : Int32).toInt = 1) (by omega) (by omega)
                                    refine lv_iinc (v := v37236) (lv' := [(8, .int v37236), (5, .int x37219_5), (9, .int v37225), (7, .int v36958), (6, .int x36954_6), (4, .int x34382_4), (3, .int v6), (0, .ref h), (1, .int a), (2, .int b)]) hx hb dX12_named_177 hl (k := 2) rfl (by rw [ev37236]; rfl) (by decide) rfl (fun ls hl => ?_)
                                    refine lv_goto (tgt := 101) hx hb dX12_named_180 (by decide) ?_
                                    exact ih37220 v37236 x37219_5 ⟨by omega, by omega⟩ ⟨by omega, by omega⟩ (by omega) _ _ ls hP hD hS (lv_sub hl [0, 3, 4, 1, 5, 6, 7, 8, 9] rfl)
                                  · have fc37235 := z_nle (rfl : (v37234).toInt = _) (rfl : (x34382_4).toInt = _) c37235
                                    refine lv_bipush (v := 100) hx hb dX12_named_162 (by decide) ?_
                                    refine lv_iload hx hb dX12_named_164 (lv_at hl 2 rfl) ?_
                                    refine lv_imul hx hb dX12_named_166 ?_
                                    refine lv_topi (fun v37237 ev37237 => ?_)
                                    have tv37237 := z_mul ev37237 (by decide : (100 : Int32).toInt = 100) (rfl : (v36958).toInt = _) (by omega) (by omega)
                                    refine lv_iload hx hb dX12_named_167 (lv_at hl 1 rfl) ?_
                                    refine lv_iadd hx hb dX12_named_169 ?_
                                    refine lv_topi (fun v37238 ev37238 => ?_)
                                    have tv37238 := z_add ev37238 (rfl : (v37237).toInt = _) (rfl : (x37219_8).toInt = _) (by omega) (by omega)
                                    refine lv_goto (tgt := 175) hx hb dX12_named_170 (by decide) ?_
                                    refine lv_istore (lv' := [(5, .int v37238), (9, .int v37225), (8, .int x37219_8), (7, .int v36958), (6, .int x36954_6), (4, .int x34382_4), (3, .int v6), (0, .ref h), (1, .int a), (2, .int b)]) hx hb dX12_named_175 hl (by decide) rfl (fun ls hl => ?_)
                                    obtain ⟨v37239, ev37239⟩ : ∃ y : Int32, y = x37219_8 + 1 := ⟨_, rfl⟩
                                    have tv37239 := z_add ev37239 rfl (by decide : (1 : Int32).toInt = 1) (by omega) (by omega)
                                    refine lv_iinc (v := v37239) (lv' := [(8, .int v37239), (5, .int v37238), (9, .int v37225), (7, .int v36958), (6, .int x36954_6), (4, .int x34382_4), (3, .int v6), (0, .ref h), (1, .int a), (2, .int b)]) hx hb dX12_named_177 hl (k := 2) rfl (by rw [ev37239]; rfl) (by decide) rfl (fun ls hl => ?_)
                                    refine lv_goto (tgt := 101) hx hb dX12_named_180 (by decide) ?_
                                    exact ih37220 v37239 v37238 ⟨by omega, by omega⟩ ⟨by omega, by omega⟩ (by omega) _ _ ls hP hD hS (lv_sub hl [0, 3, 4, 1, 5, 6, 7, 8, 9] rfl)
                        exact lp37220 13 0 x36954_5 ⟨by decide, by decide⟩ ⟨by omega, by omega⟩ (by first | decide | omega) _ _ ls hP hD hS (lv_sub hl [0, 1, 2, 3, 4, 5, 6, 7, 8] rfl)
                exact lp36955 9 0 (-1) ⟨by decide, by decide⟩ ⟨by decide, by decide⟩ (by first | decide | omega) _ _ ls hP hD hS (lv_sub hl [0, 1, 2, 3, 4, 5, 6] rfl)
              · have fc34384 := z_nle (rfl : (v6).toInt = _) (rfl : (x34382_5).toInt = _) c34384
                refine lv_iload hx hb dX12_named_40 (lv_at hl 1 rfl) ?_
                refine lv_iconst (v := 2) hx hb dX12_named_42 (by decide) ?_
                refine lv_aload_n hx hb dX12_named_43 rfl (lv_at hl 3 rfl) ?_
                refine gM_12_52 hx hb ht hown hK hP m_1191 dX12_named_44 ?_
                refine lv_bipush (v := 12) hx hb dX12_named_47 (by decide) ?_
                refine lv_iload_n hx hb dX12_named_49 rfl (lv_at hl 4 rfl) ?_
                refine lv_imul hx hb dX12_named_50 ?_
                refine lv_topi (fun v37240 ev37240 => ?_)
                have tv37240 := z_mul ev37240 (by decide : (12 : Int32).toInt = 12) (rfl : (a).toInt = _) (by omega) (by omega)
                refine lv_iload hx hb dX12_named_51 (lv_at hl 0 rfl) ?_
                refine lv_iadd hx hb dX12_named_53 ?_
                refine lv_topi (fun v37241 ev37241 => ?_)
                have tv37241 := z_add ev37241 (rfl : (v37240).toInt = _) (rfl : (x34382_5).toInt = _) (by omega) (by omega)
                refine lM_12_52 hx hb hK hP (f := (fa 12 52)) rfl (vp_in_iff.mpr ⟨by omega, by omega⟩) dX12_named_54 ?_
                refine lv_topi (fun v37242 ev37242 => ?_)
                refine lv_imul hx hb dX12_named_55 ?_
                refine lv_topi (fun v37243 ev37243 => ?_)
                refine lv_iadd hx hb dX12_named_56 ?_
                refine lv_topi (fun v37244 ev37244 => ?_)
                refine lv_istore (lv' := [(4, .int v37244), (5, .int x34382_5), (3, .int v6), (0, .ref h), (1, .int a), (2, .int b)]) hx hb dX12_named_57 hl (by decide) rfl (fun ls hl => ?_)
                obtain ⟨v37245, ev37245⟩ : ∃ y : Int32, y = x34382_5 + 1 := ⟨_, rfl⟩
                have tv37245 := z_add ev37245 rfl (by decide : (1 : Int32).toInt = 1) (by omega) (by omega)
                refine lv_iinc (v := v37245) (lv' := [(5, .int v37245), (4, .int v37244), (3, .int v6), (0, .ref h), (1, .int a), (2, .int b)]) hx hb dX12_named_59 hl (k := 1) rfl (by rw [ev37245]; rfl) (by decide) rfl (fun ls hl => ?_)
                refine lv_goto (tgt := 34) hx hb dX12_named_62 (by decide) ?_
                exact ih34383 v37245 v37244 ⟨by omega, by omega⟩ (by omega) _ _ ls hP hD hS (lv_sub hl [0, 1, 2, 3, 4, 5] rfl)
          exact lp34383 13 0 0 ⟨by decide, by decide⟩ (by first | decide | omega) _ _ ls hP hD hS (lv_sub hl [0, 1, 2, 3, 4, 5] rfl)
        · exact absurd c5 (by decide)
      · skip
        refine lv_if_ne (tgt := 21) hx hb dX12_named_15 (by decide) (fun c37246 => ?_) (fun c37246 => ?_)
        · exact absurd rfl c37246
        · skip
          refine lv_ldc hx hb hown (ht _ m_1373) dX12_named_18 ?_
          have hP9 : va_P (dC, dI) classes (WM h g ca (u2 iv 12 41 (iv 12 41)) lv (u2 (u2 fa 12 39 (fa 12 39)) 12 40 (fa 12 40)) la) s.heap := hP
          have hD9 : va_D A (WM h g ca (u2 iv 12 41 (iv 12 41)) lv (u2 (u2 fa 12 39 (fa 12 39)) 12 40 (fa 12 40)) la) := hD
          exact W.iret (v := (-100002)) hx hb hr (fun t ht9 hW => ⟨⟨(-100002), ((u2 iv 12 41 (iv 12 41)), lv, (u2 (u2 fa 12 39 (fa 12 39)) 12 40 (fa 12 40)), la), rfl, ⟨(fa 12 39), (fa 12 40), (iv 12 41), (hI.2 12 39), (hI.2 12 40), (hI.1 12 41), ⟨by decide, by decide⟩, rfl⟩, by rw [ht9]; exact hP9, hD9⟩, hS.F ht9⟩) hS.2.2 dX12_named_20
    · exact absurd rfl c3
