/-! ===== m7 ===== -/
set_option maxRecDepth 100000 in
theorem m_57 : Cond.selects RX12 yX12_isPast yX12_isPast ∈ tb := tb_in 57 (by decide +kernel) rfl
theorem m_1528 : Cond.methodLink RX12 350 yX12_isPast ∈ tb := mb_7_0 _ (List.mem_of_getElem? (i := 12) rfl)
theorem m_1530 : Cond.instanceMethod yX12_isPast ∈ tb := mb_7_0 _ (List.mem_of_getElem? (i := 13) rfl)
theorem m_1531 : Cond.code yX12_isPast cX12_isPast 2 (some .boolean) ∈ tb := mb_7_0 _ (List.mem_of_getElem? (i := 14) rfl)
theorem m_1561 : Cond.constantLong RX12 364 (-100002) ∈ tb := mb_7_1 _ (List.mem_of_getElem? (i := 15) rfl)
theorem hd_X12_isPast_v : yX12_isPast.cls = RX12 ∧ yX12_isPast.cls ≠ "java/lang/invoke/MethodHandle" ∧ yX12_isPast.cls ≠ "java/lang/invoke/VarHandle" ∧ (parseMethodDescriptor yX12_isPast.desc).map (fun d => d.parameters.length) = some 1 := by decide +kernel
set_option maxRecDepth 100000 in
theorem dvX12_cut_0 : ([(0, .aload_n 0, 1), (1, .iload_n 1, 1), (2, .invokevirtual 436, 3), (5, .ifCond .eq 6, 3), (8, .ldc 187, 2), (10, .ireturn, 1), (11, .iload_n 2, 1), (12, .iconst 1, 1), (13, .if_icmp .lt 23, 3), (16, .iload_n 3, 1), (17, .iconst 1, 1), (18, .if_icmp .lt 18, 3), (21, .iload_n 2, 1), (22, .i2l, 1), (23, .iload_n 3, 1), (24, .i2l, 1), (25, .ladd, 1), (26, .aload_n 0, 1), (27, .getfield 145, 3), (30, .iload_n 1, 1), (31, .laload, 1), (32, .lcmp, 1), (33, .ifCond .eq 6, 3), (36, .ldc 178, 2)] : List (Nat × Instr × Nat)).all (fun q => decide (decode cX12_cut q.1 = .ok (q.2.1, q.2.2))) = true := by decide +kernel
theorem dX12_cut_0 : decode cX12_cut 0 = .ok (.aload_n 0, 1) := all_at dvX12_cut_0 0 rfl
theorem dX12_cut_1 : decode cX12_cut 1 = .ok (.iload_n 1, 1) := all_at dvX12_cut_0 1 rfl
theorem dX12_cut_2 : decode cX12_cut 2 = .ok (.invokevirtual 436, 3) := all_at dvX12_cut_0 2 rfl
theorem dX12_cut_5 : decode cX12_cut 5 = .ok (.ifCond .eq 6, 3) := all_at dvX12_cut_0 3 rfl
theorem dX12_cut_8 : decode cX12_cut 8 = .ok (.ldc 187, 2) := all_at dvX12_cut_0 4 rfl
theorem dX12_cut_10 : decode cX12_cut 10 = .ok (.ireturn, 1) := all_at dvX12_cut_0 5 rfl
theorem dX12_cut_11 : decode cX12_cut 11 = .ok (.iload_n 2, 1) := all_at dvX12_cut_0 6 rfl
theorem dX12_cut_12 : decode cX12_cut 12 = .ok (.iconst 1, 1) := all_at dvX12_cut_0 7 rfl
theorem dX12_cut_13 : decode cX12_cut 13 = .ok (.if_icmp .lt 23, 3) := all_at dvX12_cut_0 8 rfl
theorem dX12_cut_16 : decode cX12_cut 16 = .ok (.iload_n 3, 1) := all_at dvX12_cut_0 9 rfl
theorem dX12_cut_17 : decode cX12_cut 17 = .ok (.iconst 1, 1) := all_at dvX12_cut_0 10 rfl
theorem dX12_cut_18 : decode cX12_cut 18 = .ok (.if_icmp .lt 18, 3) := all_at dvX12_cut_0 11 rfl
theorem dX12_cut_21 : decode cX12_cut 21 = .ok (.iload_n 2, 1) := all_at dvX12_cut_0 12 rfl
theorem dX12_cut_22 : decode cX12_cut 22 = .ok (.i2l, 1) := all_at dvX12_cut_0 13 rfl
theorem dX12_cut_23 : decode cX12_cut 23 = .ok (.iload_n 3, 1) := all_at dvX12_cut_0 14 rfl
theorem dX12_cut_24 : decode cX12_cut 24 = .ok (.i2l, 1) := all_at dvX12_cut_0 15 rfl
theorem dX12_cut_25 : decode cX12_cut 25 = .ok (.ladd, 1) := all_at dvX12_cut_0 16 rfl
theorem dX12_cut_26 : decode cX12_cut 26 = .ok (.aload_n 0, 1) := all_at dvX12_cut_0 17 rfl
theorem dX12_cut_27 : decode cX12_cut 27 = .ok (.getfield 145, 3) := all_at dvX12_cut_0 18 rfl
theorem dX12_cut_30 : decode cX12_cut 30 = .ok (.iload_n 1, 1) := all_at dvX12_cut_0 19 rfl
theorem dX12_cut_31 : decode cX12_cut 31 = .ok (.laload, 1) := all_at dvX12_cut_0 20 rfl
theorem dX12_cut_32 : decode cX12_cut 32 = .ok (.lcmp, 1) := all_at dvX12_cut_0 21 rfl
theorem dX12_cut_33 : decode cX12_cut 33 = .ok (.ifCond .eq 6, 3) := all_at dvX12_cut_0 22 rfl
theorem dX12_cut_36 : decode cX12_cut 36 = .ok (.ldc 178, 2) := all_at dvX12_cut_0 23 rfl
set_option maxRecDepth 100000 in
theorem dvX12_cut_38 : ([(38, .ireturn, 1), (39, .iconst 0, 1), (40, .istore 4, 2), (42, .iconst 0, 1), (43, .istore 5, 2), (45, .iload 5, 2), (47, .aload_n 0, 1), (48, .getfield 429, 3), (51, .if_icmp .ge 53, 3), (54, .iload 4, 2), (56, .ifCond .ne 35, 3), (59, .aload_n 0, 1), (60, .getfield 148, 3), (63, .iload 5, 2), (65, .iaload, 1), (66, .iload_n 1, 1), (67, .if_icmp .ne 28, 3), (70, .aload_n 0, 1), (71, .getfield 139, 3), (74, .iload 5, 2), (76, .iaload, 1), (77, .iconst 1, 1), (78, .if_icmp .ne 17, 3), (81, .aload_n 0, 1)] : List (Nat × Instr × Nat)).all (fun q => decide (decode cX12_cut q.1 = .ok (q.2.1, q.2.2))) = true := by decide +kernel
theorem dX12_cut_38 : decode cX12_cut 38 = .ok (.ireturn, 1) := all_at dvX12_cut_38 0 rfl
theorem dX12_cut_39 : decode cX12_cut 39 = .ok (.iconst 0, 1) := all_at dvX12_cut_38 1 rfl
theorem dX12_cut_40 : decode cX12_cut 40 = .ok (.istore 4, 2) := all_at dvX12_cut_38 2 rfl
theorem dX12_cut_42 : decode cX12_cut 42 = .ok (.iconst 0, 1) := all_at dvX12_cut_38 3 rfl
theorem dX12_cut_43 : decode cX12_cut 43 = .ok (.istore 5, 2) := all_at dvX12_cut_38 4 rfl
theorem dX12_cut_45 : decode cX12_cut 45 = .ok (.iload 5, 2) := all_at dvX12_cut_38 5 rfl
theorem dX12_cut_47 : decode cX12_cut 47 = .ok (.aload_n 0, 1) := all_at dvX12_cut_38 6 rfl
theorem dX12_cut_48 : decode cX12_cut 48 = .ok (.getfield 429, 3) := all_at dvX12_cut_38 7 rfl
theorem dX12_cut_51 : decode cX12_cut 51 = .ok (.if_icmp .ge 53, 3) := all_at dvX12_cut_38 8 rfl
theorem dX12_cut_54 : decode cX12_cut 54 = .ok (.iload 4, 2) := all_at dvX12_cut_38 9 rfl
theorem dX12_cut_56 : decode cX12_cut 56 = .ok (.ifCond .ne 35, 3) := all_at dvX12_cut_38 10 rfl
theorem dX12_cut_59 : decode cX12_cut 59 = .ok (.aload_n 0, 1) := all_at dvX12_cut_38 11 rfl
theorem dX12_cut_60 : decode cX12_cut 60 = .ok (.getfield 148, 3) := all_at dvX12_cut_38 12 rfl
theorem dX12_cut_63 : decode cX12_cut 63 = .ok (.iload 5, 2) := all_at dvX12_cut_38 13 rfl
theorem dX12_cut_65 : decode cX12_cut 65 = .ok (.iaload, 1) := all_at dvX12_cut_38 14 rfl
theorem dX12_cut_66 : decode cX12_cut 66 = .ok (.iload_n 1, 1) := all_at dvX12_cut_38 15 rfl
theorem dX12_cut_67 : decode cX12_cut 67 = .ok (.if_icmp .ne 28, 3) := all_at dvX12_cut_38 16 rfl
theorem dX12_cut_70 : decode cX12_cut 70 = .ok (.aload_n 0, 1) := all_at dvX12_cut_38 17 rfl
theorem dX12_cut_71 : decode cX12_cut 71 = .ok (.getfield 139, 3) := all_at dvX12_cut_38 18 rfl
theorem dX12_cut_74 : decode cX12_cut 74 = .ok (.iload 5, 2) := all_at dvX12_cut_38 19 rfl
theorem dX12_cut_76 : decode cX12_cut 76 = .ok (.iaload, 1) := all_at dvX12_cut_38 20 rfl
theorem dX12_cut_77 : decode cX12_cut 77 = .ok (.iconst 1, 1) := all_at dvX12_cut_38 21 rfl
theorem dX12_cut_78 : decode cX12_cut 78 = .ok (.if_icmp .ne 17, 3) := all_at dvX12_cut_38 22 rfl
theorem dX12_cut_81 : decode cX12_cut 81 = .ok (.aload_n 0, 1) := all_at dvX12_cut_38 23 rfl
set_option maxRecDepth 100000 in
theorem dvX12_cut_82 : ([(82, .getfield 154, 3), (85, .iload 5, 2), (87, .iaload, 1), (88, .ifCond .ge 7, 3), (91, .iconst 1, 1), (92, .goto 4, 3), (95, .iconst 0, 1), (96, .istore 4, 2), (98, .iinc 5 1, 3), (101, .goto (-56), 3), (104, .aload_n 0, 1), (105, .iload_n 1, 1), (106, .invokevirtual 439, 3), (109, .ifCond .eq 8, 3), (112, .iload 4, 2), (114, .ifCond .eq 6, 3), (117, .ldc 179, 2), (119, .ireturn, 1), (120, .aload_n 0, 1), (121, .getfield 429, 3), (124, .iconst 2, 1), (125, .iadd, 1), (126, .bipush 40, 2), (128, .if_icmp .le 6, 3)] : List (Nat × Instr × Nat)).all (fun q => decide (decode cX12_cut q.1 = .ok (q.2.1, q.2.2))) = true := by decide +kernel
theorem dX12_cut_82 : decode cX12_cut 82 = .ok (.getfield 154, 3) := all_at dvX12_cut_82 0 rfl
theorem dX12_cut_85 : decode cX12_cut 85 = .ok (.iload 5, 2) := all_at dvX12_cut_82 1 rfl
theorem dX12_cut_87 : decode cX12_cut 87 = .ok (.iaload, 1) := all_at dvX12_cut_82 2 rfl
theorem dX12_cut_88 : decode cX12_cut 88 = .ok (.ifCond .ge 7, 3) := all_at dvX12_cut_82 3 rfl
theorem dX12_cut_91 : decode cX12_cut 91 = .ok (.iconst 1, 1) := all_at dvX12_cut_82 4 rfl
theorem dX12_cut_92 : decode cX12_cut 92 = .ok (.goto 4, 3) := all_at dvX12_cut_82 5 rfl
theorem dX12_cut_95 : decode cX12_cut 95 = .ok (.iconst 0, 1) := all_at dvX12_cut_82 6 rfl
theorem dX12_cut_96 : decode cX12_cut 96 = .ok (.istore 4, 2) := all_at dvX12_cut_82 7 rfl
theorem dX12_cut_98 : decode cX12_cut 98 = .ok (.iinc 5 1, 3) := all_at dvX12_cut_82 8 rfl
theorem dX12_cut_101 : decode cX12_cut 101 = .ok (.goto (-56), 3) := all_at dvX12_cut_82 9 rfl
theorem dX12_cut_104 : decode cX12_cut 104 = .ok (.aload_n 0, 1) := all_at dvX12_cut_82 10 rfl
theorem dX12_cut_105 : decode cX12_cut 105 = .ok (.iload_n 1, 1) := all_at dvX12_cut_82 11 rfl
theorem dX12_cut_106 : decode cX12_cut 106 = .ok (.invokevirtual 439, 3) := all_at dvX12_cut_82 12 rfl
theorem dX12_cut_109 : decode cX12_cut 109 = .ok (.ifCond .eq 8, 3) := all_at dvX12_cut_82 13 rfl
theorem dX12_cut_112 : decode cX12_cut 112 = .ok (.iload 4, 2) := all_at dvX12_cut_82 14 rfl
theorem dX12_cut_114 : decode cX12_cut 114 = .ok (.ifCond .eq 6, 3) := all_at dvX12_cut_82 15 rfl
theorem dX12_cut_117 : decode cX12_cut 117 = .ok (.ldc 179, 2) := all_at dvX12_cut_82 16 rfl
theorem dX12_cut_119 : decode cX12_cut 119 = .ok (.ireturn, 1) := all_at dvX12_cut_82 17 rfl
theorem dX12_cut_120 : decode cX12_cut 120 = .ok (.aload_n 0, 1) := all_at dvX12_cut_82 18 rfl
theorem dX12_cut_121 : decode cX12_cut 121 = .ok (.getfield 429, 3) := all_at dvX12_cut_82 19 rfl
theorem dX12_cut_124 : decode cX12_cut 124 = .ok (.iconst 2, 1) := all_at dvX12_cut_82 20 rfl
theorem dX12_cut_125 : decode cX12_cut 125 = .ok (.iadd, 1) := all_at dvX12_cut_82 21 rfl
theorem dX12_cut_126 : decode cX12_cut 126 = .ok (.bipush 40, 2) := all_at dvX12_cut_82 22 rfl
theorem dX12_cut_128 : decode cX12_cut 128 = .ok (.if_icmp .le 6, 3) := all_at dvX12_cut_82 23 rfl
set_option maxRecDepth 100000 in
theorem dvX12_cut_131 : ([(131, .ldc 182, 2), (133, .ireturn, 1), (134, .aload_n 0, 1), (135, .getfield 154, 3), (138, .iload_n 1, 1), (139, .aload_n 0, 1), (140, .getfield 171, 3), (143, .iastore, 1), (144, .aload_n 0, 1), (145, .iconst 0, 1), (146, .aload_n 0, 1), (147, .getfield 142, 3), (150, .iload_n 1, 1), (151, .iaload, 1), (152, .iload_n 2, 1), (153, .i2l, 1), (154, .iload_n 1, 1), (155, .iconst 0, 1), (156, .invokevirtual 432, 3), (159, .aload_n 0, 1), (160, .iconst 0, 1), (161, .aload_n 0, 1), (162, .getfield 142, 3), (165, .iload_n 1, 1)] : List (Nat × Instr × Nat)).all (fun q => decide (decode cX12_cut q.1 = .ok (q.2.1, q.2.2))) = true := by decide +kernel
theorem dX12_cut_131 : decode cX12_cut 131 = .ok (.ldc 182, 2) := all_at dvX12_cut_131 0 rfl
theorem dX12_cut_133 : decode cX12_cut 133 = .ok (.ireturn, 1) := all_at dvX12_cut_131 1 rfl
theorem dX12_cut_134 : decode cX12_cut 134 = .ok (.aload_n 0, 1) := all_at dvX12_cut_131 2 rfl
theorem dX12_cut_135 : decode cX12_cut 135 = .ok (.getfield 154, 3) := all_at dvX12_cut_131 3 rfl
theorem dX12_cut_138 : decode cX12_cut 138 = .ok (.iload_n 1, 1) := all_at dvX12_cut_131 4 rfl
theorem dX12_cut_139 : decode cX12_cut 139 = .ok (.aload_n 0, 1) := all_at dvX12_cut_131 5 rfl
theorem dX12_cut_140 : decode cX12_cut 140 = .ok (.getfield 171, 3) := all_at dvX12_cut_131 6 rfl
theorem dX12_cut_143 : decode cX12_cut 143 = .ok (.iastore, 1) := all_at dvX12_cut_131 7 rfl
theorem dX12_cut_144 : decode cX12_cut 144 = .ok (.aload_n 0, 1) := all_at dvX12_cut_131 8 rfl
theorem dX12_cut_145 : decode cX12_cut 145 = .ok (.iconst 0, 1) := all_at dvX12_cut_131 9 rfl
theorem dX12_cut_146 : decode cX12_cut 146 = .ok (.aload_n 0, 1) := all_at dvX12_cut_131 10 rfl
theorem dX12_cut_147 : decode cX12_cut 147 = .ok (.getfield 142, 3) := all_at dvX12_cut_131 11 rfl
theorem dX12_cut_150 : decode cX12_cut 150 = .ok (.iload_n 1, 1) := all_at dvX12_cut_131 12 rfl
theorem dX12_cut_151 : decode cX12_cut 151 = .ok (.iaload, 1) := all_at dvX12_cut_131 13 rfl
theorem dX12_cut_152 : decode cX12_cut 152 = .ok (.iload_n 2, 1) := all_at dvX12_cut_131 14 rfl
theorem dX12_cut_153 : decode cX12_cut 153 = .ok (.i2l, 1) := all_at dvX12_cut_131 15 rfl
theorem dX12_cut_154 : decode cX12_cut 154 = .ok (.iload_n 1, 1) := all_at dvX12_cut_131 16 rfl
theorem dX12_cut_155 : decode cX12_cut 155 = .ok (.iconst 0, 1) := all_at dvX12_cut_131 17 rfl
theorem dX12_cut_156 : decode cX12_cut 156 = .ok (.invokevirtual 432, 3) := all_at dvX12_cut_131 18 rfl
theorem dX12_cut_159 : decode cX12_cut 159 = .ok (.aload_n 0, 1) := all_at dvX12_cut_131 19 rfl
theorem dX12_cut_160 : decode cX12_cut 160 = .ok (.iconst 0, 1) := all_at dvX12_cut_131 20 rfl
theorem dX12_cut_161 : decode cX12_cut 161 = .ok (.aload_n 0, 1) := all_at dvX12_cut_131 21 rfl
theorem dX12_cut_162 : decode cX12_cut 162 = .ok (.getfield 142, 3) := all_at dvX12_cut_131 22 rfl
theorem dX12_cut_165 : decode cX12_cut 165 = .ok (.iload_n 1, 1) := all_at dvX12_cut_131 23 rfl
set_option maxRecDepth 100000 in
theorem dvX12_cut_166 : ([(166, .iaload, 1), (167, .iload_n 3, 1), (168, .i2l, 1), (169, .iload_n 1, 1), (170, .iconst 0, 1), (171, .invokevirtual 432, 3), (174, .aload_n 0, 1), (175, .getfield 429, 3), (178, .iconst 2, 1), (179, .isub, 1), (180, .ireturn, 1)] : List (Nat × Instr × Nat)).all (fun q => decide (decode cX12_cut q.1 = .ok (q.2.1, q.2.2))) = true := by decide +kernel
theorem dX12_cut_166 : decode cX12_cut 166 = .ok (.iaload, 1) := all_at dvX12_cut_166 0 rfl
theorem dX12_cut_167 : decode cX12_cut 167 = .ok (.iload_n 3, 1) := all_at dvX12_cut_166 1 rfl
theorem dX12_cut_168 : decode cX12_cut 168 = .ok (.i2l, 1) := all_at dvX12_cut_166 2 rfl
theorem dX12_cut_169 : decode cX12_cut 169 = .ok (.iload_n 1, 1) := all_at dvX12_cut_166 3 rfl
theorem dX12_cut_170 : decode cX12_cut 170 = .ok (.iconst 0, 1) := all_at dvX12_cut_166 4 rfl
theorem dX12_cut_171 : decode cX12_cut 171 = .ok (.invokevirtual 432, 3) := all_at dvX12_cut_166 5 rfl
theorem dX12_cut_174 : decode cX12_cut 174 = .ok (.aload_n 0, 1) := all_at dvX12_cut_166 6 rfl
theorem dX12_cut_175 : decode cX12_cut 175 = .ok (.getfield 429, 3) := all_at dvX12_cut_166 7 rfl
theorem dX12_cut_178 : decode cX12_cut 178 = .ok (.iconst 2, 1) := all_at dvX12_cut_166 8 rfl
theorem dX12_cut_179 : decode cX12_cut 179 = .ok (.isub, 1) := all_at dvX12_cut_166 9 rfl
theorem dX12_cut_180 : decode cX12_cut 180 = .ok (.ireturn, 1) := all_at dvX12_cut_166 10 rfl
set_option maxRecDepth 100000 in
theorem dvX12_paper_0 : ([(0, .aload_n 0, 1), (1, .iload_n 1, 1), (2, .invokevirtual 436, 3), (5, .ifCond .eq 6, 3), (8, .ldc 187, 2), (10, .ireturn, 1), (11, .iconst 0, 1), (12, .istore_n 3, 1), (13, .iconst 0, 1), (14, .istore 4, 2), (16, .iload 4, 2), (18, .aload_n 0, 1), (19, .getfield 429, 3), (22, .if_icmp .ge 31, 3), (25, .iload_n 3, 1), (26, .aload_n 0, 1), (27, .getfield 148, 3), (30, .iload 4, 2), (32, .iaload, 1), (33, .iload_n 1, 1), (34, .if_icmp .ne 7, 3), (37, .iconst 1, 1), (38, .goto 4, 3), (41, .iconst 0, 1)] : List (Nat × Instr × Nat)).all (fun q => decide (decode cX12_paper q.1 = .ok (q.2.1, q.2.2))) = true := by decide +kernel
theorem dX12_paper_0 : decode cX12_paper 0 = .ok (.aload_n 0, 1) := all_at dvX12_paper_0 0 rfl
theorem dX12_paper_1 : decode cX12_paper 1 = .ok (.iload_n 1, 1) := all_at dvX12_paper_0 1 rfl
theorem dX12_paper_2 : decode cX12_paper 2 = .ok (.invokevirtual 436, 3) := all_at dvX12_paper_0 2 rfl
theorem dX12_paper_5 : decode cX12_paper 5 = .ok (.ifCond .eq 6, 3) := all_at dvX12_paper_0 3 rfl
theorem dX12_paper_8 : decode cX12_paper 8 = .ok (.ldc 187, 2) := all_at dvX12_paper_0 4 rfl
theorem dX12_paper_10 : decode cX12_paper 10 = .ok (.ireturn, 1) := all_at dvX12_paper_0 5 rfl
theorem dX12_paper_11 : decode cX12_paper 11 = .ok (.iconst 0, 1) := all_at dvX12_paper_0 6 rfl
theorem dX12_paper_12 : decode cX12_paper 12 = .ok (.istore_n 3, 1) := all_at dvX12_paper_0 7 rfl
theorem dX12_paper_13 : decode cX12_paper 13 = .ok (.iconst 0, 1) := all_at dvX12_paper_0 8 rfl
theorem dX12_paper_14 : decode cX12_paper 14 = .ok (.istore 4, 2) := all_at dvX12_paper_0 9 rfl
theorem dX12_paper_16 : decode cX12_paper 16 = .ok (.iload 4, 2) := all_at dvX12_paper_0 10 rfl
theorem dX12_paper_18 : decode cX12_paper 18 = .ok (.aload_n 0, 1) := all_at dvX12_paper_0 11 rfl
theorem dX12_paper_19 : decode cX12_paper 19 = .ok (.getfield 429, 3) := all_at dvX12_paper_0 12 rfl
theorem dX12_paper_22 : decode cX12_paper 22 = .ok (.if_icmp .ge 31, 3) := all_at dvX12_paper_0 13 rfl
theorem dX12_paper_25 : decode cX12_paper 25 = .ok (.iload_n 3, 1) := all_at dvX12_paper_0 14 rfl
theorem dX12_paper_26 : decode cX12_paper 26 = .ok (.aload_n 0, 1) := all_at dvX12_paper_0 15 rfl
theorem dX12_paper_27 : decode cX12_paper 27 = .ok (.getfield 148, 3) := all_at dvX12_paper_0 16 rfl
theorem dX12_paper_30 : decode cX12_paper 30 = .ok (.iload 4, 2) := all_at dvX12_paper_0 17 rfl
theorem dX12_paper_32 : decode cX12_paper 32 = .ok (.iaload, 1) := all_at dvX12_paper_0 18 rfl
theorem dX12_paper_33 : decode cX12_paper 33 = .ok (.iload_n 1, 1) := all_at dvX12_paper_0 19 rfl
theorem dX12_paper_34 : decode cX12_paper 34 = .ok (.if_icmp .ne 7, 3) := all_at dvX12_paper_0 20 rfl
theorem dX12_paper_37 : decode cX12_paper 37 = .ok (.iconst 1, 1) := all_at dvX12_paper_0 21 rfl
theorem dX12_paper_38 : decode cX12_paper 38 = .ok (.goto 4, 3) := all_at dvX12_paper_0 22 rfl
theorem dX12_paper_41 : decode cX12_paper 41 = .ok (.iconst 0, 1) := all_at dvX12_paper_0 23 rfl
set_option maxRecDepth 100000 in
theorem dvX12_paper_42 : ([(42, .invokestatic 203, 3), (45, .iadd, 1), (46, .istore_n 3, 1), (47, .iinc 4 1, 3), (50, .goto (-34), 3), (53, .iload_n 2, 1), (54, .tableswitch 87 0 6 #[42, 49, 56, 64, 71, 78, 85], 42), (96, .aload_n 0, 1), (97, .getfield 139, 3), (100, .iload_n 1, 1), (101, .iaload, 1), (102, .ireturn, 1), (103, .aload_n 0, 1), (104, .getfield 142, 3), (107, .iload_n 1, 1), (108, .iaload, 1), (109, .ireturn, 1), (110, .aload_n 0, 1), (111, .getfield 145, 3), (114, .iload_n 1, 1), (115, .laload, 1), (116, .l2i, 1), (117, .ireturn, 1), (118, .aload_n 0, 1)] : List (Nat × Instr × Nat)).all (fun q => decide (decode cX12_paper q.1 = .ok (q.2.1, q.2.2))) = true := by decide +kernel
theorem dX12_paper_42 : decode cX12_paper 42 = .ok (.invokestatic 203, 3) := all_at dvX12_paper_42 0 rfl
theorem dX12_paper_45 : decode cX12_paper 45 = .ok (.iadd, 1) := all_at dvX12_paper_42 1 rfl
theorem dX12_paper_46 : decode cX12_paper 46 = .ok (.istore_n 3, 1) := all_at dvX12_paper_42 2 rfl
theorem dX12_paper_47 : decode cX12_paper 47 = .ok (.iinc 4 1, 3) := all_at dvX12_paper_42 3 rfl
theorem dX12_paper_50 : decode cX12_paper 50 = .ok (.goto (-34), 3) := all_at dvX12_paper_42 4 rfl
theorem dX12_paper_53 : decode cX12_paper 53 = .ok (.iload_n 2, 1) := all_at dvX12_paper_42 5 rfl
theorem dX12_paper_54 : decode cX12_paper 54 = .ok (.tableswitch 87 0 6 #[42, 49, 56, 64, 71, 78, 85], 42) := all_at dvX12_paper_42 6 rfl
theorem dX12_paper_96 : decode cX12_paper 96 = .ok (.aload_n 0, 1) := all_at dvX12_paper_42 7 rfl
theorem dX12_paper_97 : decode cX12_paper 97 = .ok (.getfield 139, 3) := all_at dvX12_paper_42 8 rfl
theorem dX12_paper_100 : decode cX12_paper 100 = .ok (.iload_n 1, 1) := all_at dvX12_paper_42 9 rfl
theorem dX12_paper_101 : decode cX12_paper 101 = .ok (.iaload, 1) := all_at dvX12_paper_42 10 rfl
theorem dX12_paper_102 : decode cX12_paper 102 = .ok (.ireturn, 1) := all_at dvX12_paper_42 11 rfl
theorem dX12_paper_103 : decode cX12_paper 103 = .ok (.aload_n 0, 1) := all_at dvX12_paper_42 12 rfl
theorem dX12_paper_104 : decode cX12_paper 104 = .ok (.getfield 142, 3) := all_at dvX12_paper_42 13 rfl
theorem dX12_paper_107 : decode cX12_paper 107 = .ok (.iload_n 1, 1) := all_at dvX12_paper_42 14 rfl
theorem dX12_paper_108 : decode cX12_paper 108 = .ok (.iaload, 1) := all_at dvX12_paper_42 15 rfl
theorem dX12_paper_109 : decode cX12_paper 109 = .ok (.ireturn, 1) := all_at dvX12_paper_42 16 rfl
theorem dX12_paper_110 : decode cX12_paper 110 = .ok (.aload_n 0, 1) := all_at dvX12_paper_42 17 rfl
theorem dX12_paper_111 : decode cX12_paper 111 = .ok (.getfield 145, 3) := all_at dvX12_paper_42 18 rfl
theorem dX12_paper_114 : decode cX12_paper 114 = .ok (.iload_n 1, 1) := all_at dvX12_paper_42 19 rfl
theorem dX12_paper_115 : decode cX12_paper 115 = .ok (.laload, 1) := all_at dvX12_paper_42 20 rfl
theorem dX12_paper_116 : decode cX12_paper 116 = .ok (.l2i, 1) := all_at dvX12_paper_42 21 rfl
theorem dX12_paper_117 : decode cX12_paper 117 = .ok (.ireturn, 1) := all_at dvX12_paper_42 22 rfl
theorem dX12_paper_118 : decode cX12_paper 118 = .ok (.aload_n 0, 1) := all_at dvX12_paper_42 23 rfl
set_option maxRecDepth 100000 in
theorem dvX12_paper_119 : ([(119, .getfield 148, 3), (122, .iload_n 1, 1), (123, .iaload, 1), (124, .ireturn, 1), (125, .aload_n 0, 1), (126, .getfield 151, 3), (129, .iload_n 1, 1), (130, .iaload, 1), (131, .ireturn, 1), (132, .aload_n 0, 1), (133, .getfield 154, 3), (136, .iload_n 1, 1), (137, .iaload, 1), (138, .ireturn, 1), (139, .iload_n 3, 1), (140, .ireturn, 1), (141, .ldc 178, 2), (143, .ireturn, 1)] : List (Nat × Instr × Nat)).all (fun q => decide (decode cX12_paper q.1 = .ok (q.2.1, q.2.2))) = true := by decide +kernel
theorem dX12_paper_119 : decode cX12_paper 119 = .ok (.getfield 148, 3) := all_at dvX12_paper_119 0 rfl
theorem dX12_paper_122 : decode cX12_paper 122 = .ok (.iload_n 1, 1) := all_at dvX12_paper_119 1 rfl
theorem dX12_paper_123 : decode cX12_paper 123 = .ok (.iaload, 1) := all_at dvX12_paper_119 2 rfl
theorem dX12_paper_124 : decode cX12_paper 124 = .ok (.ireturn, 1) := all_at dvX12_paper_119 3 rfl
theorem dX12_paper_125 : decode cX12_paper 125 = .ok (.aload_n 0, 1) := all_at dvX12_paper_119 4 rfl
theorem dX12_paper_126 : decode cX12_paper 126 = .ok (.getfield 151, 3) := all_at dvX12_paper_119 5 rfl
theorem dX12_paper_129 : decode cX12_paper 129 = .ok (.iload_n 1, 1) := all_at dvX12_paper_119 6 rfl
theorem dX12_paper_130 : decode cX12_paper 130 = .ok (.iaload, 1) := all_at dvX12_paper_119 7 rfl
theorem dX12_paper_131 : decode cX12_paper 131 = .ok (.ireturn, 1) := all_at dvX12_paper_119 8 rfl
theorem dX12_paper_132 : decode cX12_paper 132 = .ok (.aload_n 0, 1) := all_at dvX12_paper_119 9 rfl
theorem dX12_paper_133 : decode cX12_paper 133 = .ok (.getfield 154, 3) := all_at dvX12_paper_119 10 rfl
theorem dX12_paper_136 : decode cX12_paper 136 = .ok (.iload_n 1, 1) := all_at dvX12_paper_119 11 rfl
theorem dX12_paper_137 : decode cX12_paper 137 = .ok (.iaload, 1) := all_at dvX12_paper_119 12 rfl
theorem dX12_paper_138 : decode cX12_paper 138 = .ok (.ireturn, 1) := all_at dvX12_paper_119 13 rfl
theorem dX12_paper_139 : decode cX12_paper 139 = .ok (.iload_n 3, 1) := all_at dvX12_paper_119 14 rfl
theorem dX12_paper_140 : decode cX12_paper 140 = .ok (.ireturn, 1) := all_at dvX12_paper_119 15 rfl
theorem dX12_paper_141 : decode cX12_paper 141 = .ok (.ldc 178, 2) := all_at dvX12_paper_119 16 rfl
theorem dX12_paper_143 : decode cX12_paper 143 = .ok (.ireturn, 1) := all_at dvX12_paper_119 17 rfl
set_option maxRecDepth 100000 in
theorem dvX12_stood_0 : ([(0, .aload_n 0, 1), (1, .iload_n 1, 1), (2, .invokevirtual 350, 3), (5, .ifCond .eq 13, 3), (8, .iload_n 2, 1), (9, .i2l, 1), (10, .lconst 0, 1), (11, .lconst 1, 1), (12, .invokestatic 167, 3), (15, .ifCond .ne 7, 3), (18, .ldc2_w 364, 3), (21, .lreturn, 1), (22, .lconst 0, 1), (23, .lstore_n 3, 1), (24, .iconst 0, 1), (25, .istore 5, 2), (27, .iload 5, 2), (29, .aload_n 0, 1), (30, .getfield 429, 3), (33, .if_icmp .ge 80, 3), (36, .aload_n 0, 1), (37, .getfield 151, 3), (40, .iload 5, 2), (42, .iaload, 1)] : List (Nat × Instr × Nat)).all (fun q => decide (decode cX12_stood q.1 = .ok (q.2.1, q.2.2))) = true := by decide +kernel
theorem dX12_stood_0 : decode cX12_stood 0 = .ok (.aload_n 0, 1) := all_at dvX12_stood_0 0 rfl
theorem dX12_stood_1 : decode cX12_stood 1 = .ok (.iload_n 1, 1) := all_at dvX12_stood_0 1 rfl
theorem dX12_stood_2 : decode cX12_stood 2 = .ok (.invokevirtual 350, 3) := all_at dvX12_stood_0 2 rfl
theorem dX12_stood_5 : decode cX12_stood 5 = .ok (.ifCond .eq 13, 3) := all_at dvX12_stood_0 3 rfl
theorem dX12_stood_8 : decode cX12_stood 8 = .ok (.iload_n 2, 1) := all_at dvX12_stood_0 4 rfl
theorem dX12_stood_9 : decode cX12_stood 9 = .ok (.i2l, 1) := all_at dvX12_stood_0 5 rfl
theorem dX12_stood_10 : decode cX12_stood 10 = .ok (.lconst 0, 1) := all_at dvX12_stood_0 6 rfl
theorem dX12_stood_11 : decode cX12_stood 11 = .ok (.lconst 1, 1) := all_at dvX12_stood_0 7 rfl
theorem dX12_stood_12 : decode cX12_stood 12 = .ok (.invokestatic 167, 3) := all_at dvX12_stood_0 8 rfl
theorem dX12_stood_15 : decode cX12_stood 15 = .ok (.ifCond .ne 7, 3) := all_at dvX12_stood_0 9 rfl
theorem dX12_stood_18 : decode cX12_stood 18 = .ok (.ldc2_w 364, 3) := all_at dvX12_stood_0 10 rfl
theorem dX12_stood_21 : decode cX12_stood 21 = .ok (.lreturn, 1) := all_at dvX12_stood_0 11 rfl
theorem dX12_stood_22 : decode cX12_stood 22 = .ok (.lconst 0, 1) := all_at dvX12_stood_0 12 rfl
theorem dX12_stood_23 : decode cX12_stood 23 = .ok (.lstore_n 3, 1) := all_at dvX12_stood_0 13 rfl
theorem dX12_stood_24 : decode cX12_stood 24 = .ok (.iconst 0, 1) := all_at dvX12_stood_0 14 rfl
theorem dX12_stood_25 : decode cX12_stood 25 = .ok (.istore 5, 2) := all_at dvX12_stood_0 15 rfl
theorem dX12_stood_27 : decode cX12_stood 27 = .ok (.iload 5, 2) := all_at dvX12_stood_0 16 rfl
theorem dX12_stood_29 : decode cX12_stood 29 = .ok (.aload_n 0, 1) := all_at dvX12_stood_0 17 rfl
theorem dX12_stood_30 : decode cX12_stood 30 = .ok (.getfield 429, 3) := all_at dvX12_stood_0 18 rfl
theorem dX12_stood_33 : decode cX12_stood 33 = .ok (.if_icmp .ge 80, 3) := all_at dvX12_stood_0 19 rfl
theorem dX12_stood_36 : decode cX12_stood 36 = .ok (.aload_n 0, 1) := all_at dvX12_stood_0 20 rfl
theorem dX12_stood_37 : decode cX12_stood 37 = .ok (.getfield 151, 3) := all_at dvX12_stood_0 21 rfl
theorem dX12_stood_40 : decode cX12_stood 40 = .ok (.iload 5, 2) := all_at dvX12_stood_0 22 rfl
theorem dX12_stood_42 : decode cX12_stood 42 = .ok (.iaload, 1) := all_at dvX12_stood_0 23 rfl
set_option maxRecDepth 100000 in
theorem dvX12_stood_43 : ([(43, .iload_n 1, 1), (44, .if_icmp .gt 28, 3), (47, .aload_n 0, 1), (48, .getfield 154, 3), (51, .iload 5, 2), (53, .iaload, 1), (54, .ifCond .lt 14, 3), (57, .aload_n 0, 1), (58, .getfield 154, 3), (61, .iload 5, 2), (63, .iaload, 1), (64, .iload_n 1, 1), (65, .if_icmp .le 7, 3), (68, .iconst 1, 1), (69, .goto 4, 3), (72, .iconst 0, 1), (73, .istore 6, 2), (75, .lload_n 3, 1), (76, .iload 6, 2), (78, .ifCond .eq 26, 3), (81, .aload_n 0, 1), (82, .getfield 139, 3), (85, .iload 5, 2), (87, .iaload, 1)] : List (Nat × Instr × Nat)).all (fun q => decide (decode cX12_stood q.1 = .ok (q.2.1, q.2.2))) = true := by decide +kernel
theorem dX12_stood_43 : decode cX12_stood 43 = .ok (.iload_n 1, 1) := all_at dvX12_stood_43 0 rfl
theorem dX12_stood_44 : decode cX12_stood 44 = .ok (.if_icmp .gt 28, 3) := all_at dvX12_stood_43 1 rfl
theorem dX12_stood_47 : decode cX12_stood 47 = .ok (.aload_n 0, 1) := all_at dvX12_stood_43 2 rfl
theorem dX12_stood_48 : decode cX12_stood 48 = .ok (.getfield 154, 3) := all_at dvX12_stood_43 3 rfl
theorem dX12_stood_51 : decode cX12_stood 51 = .ok (.iload 5, 2) := all_at dvX12_stood_43 4 rfl
theorem dX12_stood_53 : decode cX12_stood 53 = .ok (.iaload, 1) := all_at dvX12_stood_43 5 rfl
theorem dX12_stood_54 : decode cX12_stood 54 = .ok (.ifCond .lt 14, 3) := all_at dvX12_stood_43 6 rfl
theorem dX12_stood_57 : decode cX12_stood 57 = .ok (.aload_n 0, 1) := all_at dvX12_stood_43 7 rfl
theorem dX12_stood_58 : decode cX12_stood 58 = .ok (.getfield 154, 3) := all_at dvX12_stood_43 8 rfl
theorem dX12_stood_61 : decode cX12_stood 61 = .ok (.iload 5, 2) := all_at dvX12_stood_43 9 rfl
theorem dX12_stood_63 : decode cX12_stood 63 = .ok (.iaload, 1) := all_at dvX12_stood_43 10 rfl
theorem dX12_stood_64 : decode cX12_stood 64 = .ok (.iload_n 1, 1) := all_at dvX12_stood_43 11 rfl
theorem dX12_stood_65 : decode cX12_stood 65 = .ok (.if_icmp .le 7, 3) := all_at dvX12_stood_43 12 rfl
theorem dX12_stood_68 : decode cX12_stood 68 = .ok (.iconst 1, 1) := all_at dvX12_stood_43 13 rfl
theorem dX12_stood_69 : decode cX12_stood 69 = .ok (.goto 4, 3) := all_at dvX12_stood_43 14 rfl
theorem dX12_stood_72 : decode cX12_stood 72 = .ok (.iconst 0, 1) := all_at dvX12_stood_43 15 rfl
theorem dX12_stood_73 : decode cX12_stood 73 = .ok (.istore 6, 2) := all_at dvX12_stood_43 16 rfl
theorem dX12_stood_75 : decode cX12_stood 75 = .ok (.lload_n 3, 1) := all_at dvX12_stood_43 17 rfl
theorem dX12_stood_76 : decode cX12_stood 76 = .ok (.iload 6, 2) := all_at dvX12_stood_43 18 rfl
theorem dX12_stood_78 : decode cX12_stood 78 = .ok (.ifCond .eq 26, 3) := all_at dvX12_stood_43 19 rfl
theorem dX12_stood_81 : decode cX12_stood 81 = .ok (.aload_n 0, 1) := all_at dvX12_stood_43 20 rfl
theorem dX12_stood_82 : decode cX12_stood 82 = .ok (.getfield 139, 3) := all_at dvX12_stood_43 21 rfl
theorem dX12_stood_85 : decode cX12_stood 85 = .ok (.iload 5, 2) := all_at dvX12_stood_43 22 rfl
theorem dX12_stood_87 : decode cX12_stood 87 = .ok (.iaload, 1) := all_at dvX12_stood_43 23 rfl
set_option maxRecDepth 100000 in
theorem dvX12_stood_88 : ([(88, .iconst 1, 1), (89, .iload_n 2, 1), (90, .isub, 1), (91, .if_icmp .ne 13, 3), (94, .aload_n 0, 1), (95, .getfield 145, 3), (98, .iload 5, 2), (100, .laload, 1), (101, .goto 4, 3), (104, .lconst 0, 1), (105, .ladd, 1), (106, .lstore_n 3, 1), (107, .iinc 5 1, 3), (110, .goto (-83), 3), (113, .lload_n 3, 1), (114, .lreturn, 1)] : List (Nat × Instr × Nat)).all (fun q => decide (decode cX12_stood q.1 = .ok (q.2.1, q.2.2))) = true := by decide +kernel
theorem dX12_stood_88 : decode cX12_stood 88 = .ok (.iconst 1, 1) := all_at dvX12_stood_88 0 rfl
theorem dX12_stood_89 : decode cX12_stood 89 = .ok (.iload_n 2, 1) := all_at dvX12_stood_88 1 rfl
theorem dX12_stood_90 : decode cX12_stood 90 = .ok (.isub, 1) := all_at dvX12_stood_88 2 rfl
theorem dX12_stood_91 : decode cX12_stood 91 = .ok (.if_icmp .ne 13, 3) := all_at dvX12_stood_88 3 rfl
theorem dX12_stood_94 : decode cX12_stood 94 = .ok (.aload_n 0, 1) := all_at dvX12_stood_88 4 rfl
theorem dX12_stood_95 : decode cX12_stood 95 = .ok (.getfield 145, 3) := all_at dvX12_stood_88 5 rfl
theorem dX12_stood_98 : decode cX12_stood 98 = .ok (.iload 5, 2) := all_at dvX12_stood_88 6 rfl
theorem dX12_stood_100 : decode cX12_stood 100 = .ok (.laload, 1) := all_at dvX12_stood_88 7 rfl
theorem dX12_stood_101 : decode cX12_stood 101 = .ok (.goto 4, 3) := all_at dvX12_stood_88 8 rfl
theorem dX12_stood_104 : decode cX12_stood 104 = .ok (.lconst 0, 1) := all_at dvX12_stood_88 9 rfl
theorem dX12_stood_105 : decode cX12_stood 105 = .ok (.ladd, 1) := all_at dvX12_stood_88 10 rfl
theorem dX12_stood_106 : decode cX12_stood 106 = .ok (.lstore_n 3, 1) := all_at dvX12_stood_88 11 rfl
theorem dX12_stood_107 : decode cX12_stood 107 = .ok (.iinc 5 1, 3) := all_at dvX12_stood_88 12 rfl
theorem dX12_stood_110 : decode cX12_stood 110 = .ok (.goto (-83), 3) := all_at dvX12_stood_88 13 rfl
theorem dX12_stood_113 : decode cX12_stood 113 = .ok (.lload_n 3, 1) := all_at dvX12_stood_88 14 rfl
theorem dX12_stood_114 : decode cX12_stood 114 = .ok (.lreturn, 1) := all_at dvX12_stood_88 15 rfl
set_option maxRecDepth 100000 in
theorem dvX12_undo_0 : ([(0, .aload_n 0, 1), (1, .iload_n 1, 1), (2, .invokevirtual 436, 3), (5, .ifCond .eq 6, 3), (8, .ldc 187, 2), (10, .ireturn, 1), (11, .aload_n 0, 1), (12, .iload_n 1, 1), (13, .invokevirtual 439, 3), (16, .ifCond .ne 6, 3), (19, .ldc 179, 2), (21, .ireturn, 1), (22, .aload_n 0, 1), (23, .getfield 154, 3), (26, .iload_n 1, 1), (27, .aload_n 0, 1), (28, .getfield 171, 3), (31, .iastore, 1), (32, .iconst 1, 1), (33, .istore_n 2, 1), (34, .lconst 1, 1), (35, .iload_n 1, 1), (36, .lshl, 1), (37, .lstore_n 3, 1)] : List (Nat × Instr × Nat)).all (fun q => decide (decode cX12_undo q.1 = .ok (q.2.1, q.2.2))) = true := by decide +kernel
theorem dX12_undo_0 : decode cX12_undo 0 = .ok (.aload_n 0, 1) := all_at dvX12_undo_0 0 rfl
theorem dX12_undo_1 : decode cX12_undo 1 = .ok (.iload_n 1, 1) := all_at dvX12_undo_0 1 rfl
theorem dX12_undo_2 : decode cX12_undo 2 = .ok (.invokevirtual 436, 3) := all_at dvX12_undo_0 2 rfl
theorem dX12_undo_5 : decode cX12_undo 5 = .ok (.ifCond .eq 6, 3) := all_at dvX12_undo_0 3 rfl
theorem dX12_undo_8 : decode cX12_undo 8 = .ok (.ldc 187, 2) := all_at dvX12_undo_0 4 rfl
theorem dX12_undo_10 : decode cX12_undo 10 = .ok (.ireturn, 1) := all_at dvX12_undo_0 5 rfl
theorem dX12_undo_11 : decode cX12_undo 11 = .ok (.aload_n 0, 1) := all_at dvX12_undo_0 6 rfl
theorem dX12_undo_12 : decode cX12_undo 12 = .ok (.iload_n 1, 1) := all_at dvX12_undo_0 7 rfl
theorem dX12_undo_13 : decode cX12_undo 13 = .ok (.invokevirtual 439, 3) := all_at dvX12_undo_0 8 rfl
theorem dX12_undo_16 : decode cX12_undo 16 = .ok (.ifCond .ne 6, 3) := all_at dvX12_undo_0 9 rfl
theorem dX12_undo_19 : decode cX12_undo 19 = .ok (.ldc 179, 2) := all_at dvX12_undo_0 10 rfl
theorem dX12_undo_21 : decode cX12_undo 21 = .ok (.ireturn, 1) := all_at dvX12_undo_0 11 rfl
theorem dX12_undo_22 : decode cX12_undo 22 = .ok (.aload_n 0, 1) := all_at dvX12_undo_0 12 rfl
theorem dX12_undo_23 : decode cX12_undo 23 = .ok (.getfield 154, 3) := all_at dvX12_undo_0 13 rfl
theorem dX12_undo_26 : decode cX12_undo 26 = .ok (.iload_n 1, 1) := all_at dvX12_undo_0 14 rfl
theorem dX12_undo_27 : decode cX12_undo 27 = .ok (.aload_n 0, 1) := all_at dvX12_undo_0 15 rfl
theorem dX12_undo_28 : decode cX12_undo 28 = .ok (.getfield 171, 3) := all_at dvX12_undo_0 16 rfl
theorem dX12_undo_31 : decode cX12_undo 31 = .ok (.iastore, 1) := all_at dvX12_undo_0 17 rfl
theorem dX12_undo_32 : decode cX12_undo 32 = .ok (.iconst 1, 1) := all_at dvX12_undo_0 18 rfl
theorem dX12_undo_33 : decode cX12_undo 33 = .ok (.istore_n 2, 1) := all_at dvX12_undo_0 19 rfl
theorem dX12_undo_34 : decode cX12_undo 34 = .ok (.lconst 1, 1) := all_at dvX12_undo_0 20 rfl
theorem dX12_undo_35 : decode cX12_undo 35 = .ok (.iload_n 1, 1) := all_at dvX12_undo_0 21 rfl
theorem dX12_undo_36 : decode cX12_undo 36 = .ok (.lshl, 1) := all_at dvX12_undo_0 22 rfl
theorem dX12_undo_37 : decode cX12_undo 37 = .ok (.lstore_n 3, 1) := all_at dvX12_undo_0 23 rfl
set_option maxRecDepth 100000 in
theorem dvX12_undo_38 : ([(38, .iload_n 1, 1), (39, .iconst 1, 1), (40, .iadd, 1), (41, .istore 5, 2), (43, .iload 5, 2), (45, .aload_n 0, 1), (46, .getfield 429, 3), (49, .if_icmp .ge 94, 3), (52, .aload_n 0, 1), (53, .getfield 148, 3), (56, .iload 5, 2), (58, .iaload, 1), (59, .ifCond .lt 78, 3), (62, .lload_n 3, 1), (63, .aload_n 0, 1), (64, .getfield 148, 3), (67, .iload 5, 2), (69, .iaload, 1), (70, .lshr, 1), (71, .lconst 1, 1), (72, .land, 1), (73, .lconst 1, 1), (74, .lcmp, 1), (75, .ifCond .ne 62, 3)] : List (Nat × Instr × Nat)).all (fun q => decide (decode cX12_undo q.1 = .ok (q.2.1, q.2.2))) = true := by decide +kernel
theorem dX12_undo_38 : decode cX12_undo 38 = .ok (.iload_n 1, 1) := all_at dvX12_undo_38 0 rfl
theorem dX12_undo_39 : decode cX12_undo 39 = .ok (.iconst 1, 1) := all_at dvX12_undo_38 1 rfl
theorem dX12_undo_40 : decode cX12_undo 40 = .ok (.iadd, 1) := all_at dvX12_undo_38 2 rfl
theorem dX12_undo_41 : decode cX12_undo 41 = .ok (.istore 5, 2) := all_at dvX12_undo_38 3 rfl
theorem dX12_undo_43 : decode cX12_undo 43 = .ok (.iload 5, 2) := all_at dvX12_undo_38 4 rfl
theorem dX12_undo_45 : decode cX12_undo 45 = .ok (.aload_n 0, 1) := all_at dvX12_undo_38 5 rfl
theorem dX12_undo_46 : decode cX12_undo 46 = .ok (.getfield 429, 3) := all_at dvX12_undo_38 6 rfl
theorem dX12_undo_49 : decode cX12_undo 49 = .ok (.if_icmp .ge 94, 3) := all_at dvX12_undo_38 7 rfl
theorem dX12_undo_52 : decode cX12_undo 52 = .ok (.aload_n 0, 1) := all_at dvX12_undo_38 8 rfl
theorem dX12_undo_53 : decode cX12_undo 53 = .ok (.getfield 148, 3) := all_at dvX12_undo_38 9 rfl
theorem dX12_undo_56 : decode cX12_undo 56 = .ok (.iload 5, 2) := all_at dvX12_undo_38 10 rfl
theorem dX12_undo_58 : decode cX12_undo 58 = .ok (.iaload, 1) := all_at dvX12_undo_38 11 rfl
theorem dX12_undo_59 : decode cX12_undo 59 = .ok (.ifCond .lt 78, 3) := all_at dvX12_undo_38 12 rfl
theorem dX12_undo_62 : decode cX12_undo 62 = .ok (.lload_n 3, 1) := all_at dvX12_undo_38 13 rfl
theorem dX12_undo_63 : decode cX12_undo 63 = .ok (.aload_n 0, 1) := all_at dvX12_undo_38 14 rfl
theorem dX12_undo_64 : decode cX12_undo 64 = .ok (.getfield 148, 3) := all_at dvX12_undo_38 15 rfl
theorem dX12_undo_67 : decode cX12_undo 67 = .ok (.iload 5, 2) := all_at dvX12_undo_38 16 rfl
theorem dX12_undo_69 : decode cX12_undo 69 = .ok (.iaload, 1) := all_at dvX12_undo_38 17 rfl
theorem dX12_undo_70 : decode cX12_undo 70 = .ok (.lshr, 1) := all_at dvX12_undo_38 18 rfl
theorem dX12_undo_71 : decode cX12_undo 71 = .ok (.lconst 1, 1) := all_at dvX12_undo_38 19 rfl
theorem dX12_undo_72 : decode cX12_undo 72 = .ok (.land, 1) := all_at dvX12_undo_38 20 rfl
theorem dX12_undo_73 : decode cX12_undo 73 = .ok (.lconst 1, 1) := all_at dvX12_undo_38 21 rfl
theorem dX12_undo_74 : decode cX12_undo 74 = .ok (.lcmp, 1) := all_at dvX12_undo_38 22 rfl
theorem dX12_undo_75 : decode cX12_undo 75 = .ok (.ifCond .ne 62, 3) := all_at dvX12_undo_38 23 rfl
set_option maxRecDepth 100000 in
theorem dvX12_undo_78 : ([(78, .lload_n 3, 1), (79, .lconst 1, 1), (80, .iload 5, 2), (82, .lshl, 1), (83, .lor, 1), (84, .lstore_n 3, 1), (85, .iload_n 2, 1), (86, .aload_n 0, 1), (87, .getfield 154, 3), (90, .iload 5, 2), (92, .iaload, 1), (93, .ifCond .ge 7, 3), (96, .iconst 1, 1), (97, .goto 4, 3), (100, .iconst 0, 1), (101, .invokestatic 203, 3), (104, .iadd, 1), (105, .istore_n 2, 1), (106, .aload_n 0, 1), (107, .getfield 154, 3), (110, .iload 5, 2), (112, .aload_n 0, 1), (113, .getfield 154, 3), (116, .iload 5, 2)] : List (Nat × Instr × Nat)).all (fun q => decide (decode cX12_undo q.1 = .ok (q.2.1, q.2.2))) = true := by decide +kernel
theorem dX12_undo_78 : decode cX12_undo 78 = .ok (.lload_n 3, 1) := all_at dvX12_undo_78 0 rfl
theorem dX12_undo_79 : decode cX12_undo 79 = .ok (.lconst 1, 1) := all_at dvX12_undo_78 1 rfl
theorem dX12_undo_80 : decode cX12_undo 80 = .ok (.iload 5, 2) := all_at dvX12_undo_78 2 rfl
theorem dX12_undo_82 : decode cX12_undo 82 = .ok (.lshl, 1) := all_at dvX12_undo_78 3 rfl
theorem dX12_undo_83 : decode cX12_undo 83 = .ok (.lor, 1) := all_at dvX12_undo_78 4 rfl
theorem dX12_undo_84 : decode cX12_undo 84 = .ok (.lstore_n 3, 1) := all_at dvX12_undo_78 5 rfl
theorem dX12_undo_85 : decode cX12_undo 85 = .ok (.iload_n 2, 1) := all_at dvX12_undo_78 6 rfl
theorem dX12_undo_86 : decode cX12_undo 86 = .ok (.aload_n 0, 1) := all_at dvX12_undo_78 7 rfl
theorem dX12_undo_87 : decode cX12_undo 87 = .ok (.getfield 154, 3) := all_at dvX12_undo_78 8 rfl
theorem dX12_undo_90 : decode cX12_undo 90 = .ok (.iload 5, 2) := all_at dvX12_undo_78 9 rfl
theorem dX12_undo_92 : decode cX12_undo 92 = .ok (.iaload, 1) := all_at dvX12_undo_78 10 rfl
theorem dX12_undo_93 : decode cX12_undo 93 = .ok (.ifCond .ge 7, 3) := all_at dvX12_undo_78 11 rfl
theorem dX12_undo_96 : decode cX12_undo 96 = .ok (.iconst 1, 1) := all_at dvX12_undo_78 12 rfl
theorem dX12_undo_97 : decode cX12_undo 97 = .ok (.goto 4, 3) := all_at dvX12_undo_78 13 rfl
theorem dX12_undo_100 : decode cX12_undo 100 = .ok (.iconst 0, 1) := all_at dvX12_undo_78 14 rfl
theorem dX12_undo_101 : decode cX12_undo 101 = .ok (.invokestatic 203, 3) := all_at dvX12_undo_78 15 rfl
theorem dX12_undo_104 : decode cX12_undo 104 = .ok (.iadd, 1) := all_at dvX12_undo_78 16 rfl
theorem dX12_undo_105 : decode cX12_undo 105 = .ok (.istore_n 2, 1) := all_at dvX12_undo_78 17 rfl
theorem dX12_undo_106 : decode cX12_undo 106 = .ok (.aload_n 0, 1) := all_at dvX12_undo_78 18 rfl
theorem dX12_undo_107 : decode cX12_undo 107 = .ok (.getfield 154, 3) := all_at dvX12_undo_78 19 rfl
theorem dX12_undo_110 : decode cX12_undo 110 = .ok (.iload 5, 2) := all_at dvX12_undo_78 20 rfl
theorem dX12_undo_112 : decode cX12_undo 112 = .ok (.aload_n 0, 1) := all_at dvX12_undo_78 21 rfl
theorem dX12_undo_113 : decode cX12_undo 113 = .ok (.getfield 154, 3) := all_at dvX12_undo_78 22 rfl
theorem dX12_undo_116 : decode cX12_undo 116 = .ok (.iload 5, 2) := all_at dvX12_undo_78 23 rfl
set_option maxRecDepth 100000 in
theorem dvX12_undo_118 : ([(118, .iaload, 1), (119, .ifCond .ge 10, 3), (122, .aload_n 0, 1), (123, .getfield 171, 3), (126, .goto 10, 3), (129, .aload_n 0, 1), (130, .getfield 154, 3), (133, .iload 5, 2), (135, .iaload, 1), (136, .iastore, 1), (137, .iinc 5 1, 3), (140, .goto (-97), 3), (143, .iload_n 2, 1), (144, .ireturn, 1)] : List (Nat × Instr × Nat)).all (fun q => decide (decode cX12_undo q.1 = .ok (q.2.1, q.2.2))) = true := by decide +kernel
theorem dX12_undo_118 : decode cX12_undo 118 = .ok (.iaload, 1) := all_at dvX12_undo_118 0 rfl
theorem dX12_undo_119 : decode cX12_undo 119 = .ok (.ifCond .ge 10, 3) := all_at dvX12_undo_118 1 rfl
theorem dX12_undo_122 : decode cX12_undo 122 = .ok (.aload_n 0, 1) := all_at dvX12_undo_118 2 rfl
theorem dX12_undo_123 : decode cX12_undo 123 = .ok (.getfield 171, 3) := all_at dvX12_undo_118 3 rfl
theorem dX12_undo_126 : decode cX12_undo 126 = .ok (.goto 10, 3) := all_at dvX12_undo_118 4 rfl
theorem dX12_undo_129 : decode cX12_undo 129 = .ok (.aload_n 0, 1) := all_at dvX12_undo_118 5 rfl
theorem dX12_undo_130 : decode cX12_undo 130 = .ok (.getfield 154, 3) := all_at dvX12_undo_118 6 rfl
theorem dX12_undo_133 : decode cX12_undo 133 = .ok (.iload 5, 2) := all_at dvX12_undo_118 7 rfl
theorem dX12_undo_135 : decode cX12_undo 135 = .ok (.iaload, 1) := all_at dvX12_undo_118 8 rfl
theorem dX12_undo_136 : decode cX12_undo 136 = .ok (.iastore, 1) := all_at dvX12_undo_118 9 rfl
theorem dX12_undo_137 : decode cX12_undo 137 = .ok (.iinc 5 1, 3) := all_at dvX12_undo_118 10 rfl
theorem dX12_undo_140 : decode cX12_undo 140 = .ok (.goto (-97), 3) := all_at dvX12_undo_118 11 rfl
theorem dX12_undo_143 : decode cX12_undo 143 = .ok (.iload_n 2, 1) := all_at dvX12_undo_118 12 rfl
theorem dX12_undo_144 : decode cX12_undo 144 = .ok (.ireturn, 1) := all_at dvX12_undo_118 13 rfl
theorem sw_0_6 (x : Int32) : (x.toInt < 0 ∨ 6 < x.toInt) ∨ x = 0 ∨ x = 1 ∨ x = 2 ∨ x = 3 ∨ x = 4 ∨ x = 5 ∨ x = 6 := by
  by_cases h : x.toInt < 0 ∨ 6 < x.toInt
  · exact Or.inl h
  · right
    have h2 : x.toInt = 0 ∨ x.toInt = 1 ∨ x.toInt = 2 ∨ x.toInt = 3 ∨ x.toInt = 4 ∨ x.toInt = 5 ∨ x.toInt = 6 := by omega
    rcases h2 with h2 | h2 | h2 | h2 | h2 | h2 | h2
    · exact Or.inl (z_of (by decide) h2)
    · exact Or.inr (Or.inl (z_of (by decide) h2))
    · exact Or.inr (Or.inr (Or.inl (z_of (by decide) h2)))
    · exact Or.inr (Or.inr (Or.inr (Or.inl (z_of (by decide) h2))))
    · exact Or.inr (Or.inr (Or.inr (Or.inr (Or.inl (z_of (by decide) h2)))))
    · exact Or.inr (Or.inr (Or.inr (Or.inr (Or.inr (Or.inl (z_of (by decide) h2))))))
    · exact Or.inr (Or.inr (Or.inr (Or.inr (Or.inr (Or.inr (z_of (by decide) h2))))))
set_option maxHeartbeats 4000000 in
set_option maxRecDepth 100000 in
/-- X12_cut -/
theorem c_X12_cut (l : Launch) (dC : Nat → ClassId) (dI : Nat → Nat → Nat) (sz : Nat) (h : Nat) (g : Nat → Nat → Nat) (ca : Nat → Nat → ClassId) (iv : Nat → Nat → Int32) (lv : Nat → Nat → Int64) (fa : Nat → Nat → Nat → Int32) (la : Nat → Nat → Nat → Int64) (hI : IX iv fa) (a : Int32) (b : Int32) (d : Int32) : Met l yX12_cut (wc yX12_cut cX12_cut 6 (some .int)) ({ frames := 2, cells := 0, slots := 0, locals := 46 } : Room) (pW (dC, dI) classes (WM h g ca iv lv fa la) (TM ca) sz [.ref h, .int a, .int b, .int d]) (va_Qi (fun r (u : SS) => ∃ (na_12_68 : Nat → Int32) (na_12_69 : Nat → Int32) (na_12_71 : Nat → Int32) (na_12_72 : Nat → Int32) (na_12_73 : Nat → Int32) (na_12_74 : Nat → Int32) (nb_12_70 : Nat → Int64) (ni_12_67 : Int32), (∀ j, inb (bA 12 71 j) (na_12_71 j)) ∧ inb (bI 12 67) ni_12_67 ∧ ((-100004) ≤ r.toInt ∧ r.toInt ≤ 38) ∧ u = ((u2 iv 12 67 ni_12_67), lv, (u2 (u2 (u2 (u2 (u2 (u2 fa 12 68 na_12_68) 12 69 na_12_69) 12 71 na_12_71) 12 72 na_12_72) 12 73 na_12_73) 12 74 na_12_74), (u2 la 12 70 nb_12_70))) (bM (dC, dI) h g ca (va_A (WM h g ca iv lv fa la) sz)) (va_A (WM h g ca iv lv fa la) sz)) 0 0 (va_A (WM h g ca iv lv fa la) sz) := by
  refine Met.ofW (cc := cX12_cut) (maxL := 6) (ret := (some .int)) (by decide) rfl ?_
  intro p e s m args below meth c s₁ B hml hv
  obtain ⟨rfl, hsz, hP, hK, hD0⟩ := hv
  have hx := B.exec
  have hb := B.bytes
  have hr := B.returns
  have ht := tb_tl (atoms_spec (ws := wc yX12_cut cX12_cut 6 (some .int)) B.pre)
  have hown : s.vm.findClass RX12 = some m.cls := findClass_of_methodNamed B.named
  have hlocks := B.notSynchronized
  subst hsz
  have hD := hD0.self (sz := s.heap.size)
  generalize hAe : va_A (WM h g ca iv lv fa la) s.heap.size = A at hD ⊢
  have hA : ∀ q : Nat, s.heap.size ≤ q → A q := fun q h => by rw [← hAe]; exact Or.inr h
  have hS : va_S A s.heap s.heap [] := va_S.rf
  have hl := lv_entry [.ref h, .int a, .int b, .int d] (n := 6) (Nat.le_of_ble_eq_true rfl)
  rw [lg_entry_eq]
  generalize (lg_sl [.ref h, .int a, .int b, .int d] ++ List.replicate (6 - (lg_sl [.ref h, .int a, .int b, .int d]).length) Slot.unset).toArray = ls at hl ⊢
  have hl : lv_has ls 6 [(0, .ref h), (1, .int a), (2, .int b), (3, .int d)] := hl
  refine lv_aload_n hx hb dX12_cut_0 rfl (lv_at hl 0 rfl) ?_
  refine lv_iload_n hx hb dX12_cut_1 rfl (lv_at hl 1 rfl) ?_
  refine vp_callSi (W.runV (As := [.int a]) (rest := []) ⟨hx, hb, hml, hown, ht⟩ (c_X12_noPaper l dC dI h g ca iv lv fa la hI a) (kV 1 ht m_1684 m_1686 m_73 m_89 m_1687 rfl rfl hd_X12_noPaper_v ⟨Nat.le_of_ble_eq_true rfl, Nat.le_of_ble_eq_true rfl⟩) (vR hP hK (rM_12 hK hP)) rfl rfl hl.1 rfl (lv_room (Nat.le_of_ble_eq_true rfl)) dX12_cut_2 ⟨Nat.le_of_ble_eq_true rfl, Nat.le_of_ble_eq_true rfl⟩) (fun r1 hr1 => ?_)
  rcases hr1 with ⟨rfl, fr1⟩ | ⟨rfl, fr1⟩
  · skip
    have i_12_67 : 0 ≤ (iv 12 67).toInt ∧ (iv 12 67).toInt ≤ 40 := hI.1 12 67
    have fr1 : ¬ (0 ≤ (a : Int32).toInt ∧ (a : Int32).toInt < ((iv 12 67) : Int32).toInt) := fr1
    refine lv_if_eq (tgt := 11) hx hb dX12_cut_5 (by decide) (fun c2 => ?_) (fun c2 => ?_)
    · exact absurd c2 (by decide)
    · skip
      refine lv_ldc hx hb hown (ht _ m_1389) dX12_cut_8 ?_
      have hP9 : va_P (dC, dI) classes (WM h g ca (u2 iv 12 67 (iv 12 67)) lv (u2 (u2 (u2 (u2 (u2 (u2 fa 12 68 (fa 12 68)) 12 69 (fa 12 69)) 12 71 (fa 12 71)) 12 72 (fa 12 72)) 12 73 (fa 12 73)) 12 74 (fa 12 74)) (u2 la 12 70 (la 12 70))) s.heap := hP
      have hD9 : va_D A (WM h g ca (u2 iv 12 67 (iv 12 67)) lv (u2 (u2 (u2 (u2 (u2 (u2 fa 12 68 (fa 12 68)) 12 69 (fa 12 69)) 12 71 (fa 12 71)) 12 72 (fa 12 72)) 12 73 (fa 12 73)) 12 74 (fa 12 74)) (u2 la 12 70 (la 12 70))) := hD
      exact W.iret (v := (-100001)) hx hb hr (fun t ht9 hW => ⟨⟨(-100001), ((u2 iv 12 67 (iv 12 67)), lv, (u2 (u2 (u2 (u2 (u2 (u2 fa 12 68 (fa 12 68)) 12 69 (fa 12 69)) 12 71 (fa 12 71)) 12 72 (fa 12 72)) 12 73 (fa 12 73)) 12 74 (fa 12 74)), (u2 la 12 70 (la 12 70))), rfl, ⟨(fa 12 68), (fa 12 69), (fa 12 71), (fa 12 72), (fa 12 73), (fa 12 74), (la 12 70), (iv 12 67), (hI.2 12 71), (hI.1 12 67), ⟨by decide, by decide⟩, rfl⟩, by rw [ht9]; exact hP9, hD9⟩, hS.F ht9⟩) hS.2.2 dX12_cut_10
  · skip
    have i_12_67 : 0 ≤ (iv 12 67).toInt ∧ (iv 12 67).toInt ≤ 40 := hI.1 12 67
    have fr1 : (0 ≤ (a : Int32).toInt ∧ (a : Int32).toInt < ((iv 12 67) : Int32).toInt) := Decidable.not_not.mp fr1
    refine lv_if_eq (tgt := 11) hx hb dX12_cut_5 (by decide) (fun c3 => ?_) (fun c3 => ?_)
    · skip
      refine lv_iload_n hx hb dX12_cut_11 rfl (lv_at hl 2 rfl) ?_
      refine lv_iconst (v := 1) hx hb dX12_cut_12 (by decide) ?_
      refine lv_icmp_lt (tgt := 36) hx hb dX12_cut_13 (by decide) (fun c4 => ?_) (fun c4 => ?_)
      · have fc4 := z_lt (rfl : (b).toInt = _) (by decide : (1 : Int32).toInt = 1) c4
        refine lv_ldc hx hb hown (ht _ m_1373) dX12_cut_36 ?_
        have hP9 : va_P (dC, dI) classes (WM h g ca (u2 iv 12 67 (iv 12 67)) lv (u2 (u2 (u2 (u2 (u2 (u2 fa 12 68 (fa 12 68)) 12 69 (fa 12 69)) 12 71 (fa 12 71)) 12 72 (fa 12 72)) 12 73 (fa 12 73)) 12 74 (fa 12 74)) (u2 la 12 70 (la 12 70))) s.heap := hP
        have hD9 : va_D A (WM h g ca (u2 iv 12 67 (iv 12 67)) lv (u2 (u2 (u2 (u2 (u2 (u2 fa 12 68 (fa 12 68)) 12 69 (fa 12 69)) 12 71 (fa 12 71)) 12 72 (fa 12 72)) 12 73 (fa 12 73)) 12 74 (fa 12 74)) (u2 la 12 70 (la 12 70))) := hD
        exact W.iret (v := (-100002)) hx hb hr (fun t ht9 hW => ⟨⟨(-100002), ((u2 iv 12 67 (iv 12 67)), lv, (u2 (u2 (u2 (u2 (u2 (u2 fa 12 68 (fa 12 68)) 12 69 (fa 12 69)) 12 71 (fa 12 71)) 12 72 (fa 12 72)) 12 73 (fa 12 73)) 12 74 (fa 12 74)), (u2 la 12 70 (la 12 70))), rfl, ⟨(fa 12 68), (fa 12 69), (fa 12 71), (fa 12 72), (fa 12 73), (fa 12 74), (la 12 70), (iv 12 67), (hI.2 12 71), (hI.1 12 67), ⟨by decide, by decide⟩, rfl⟩, by rw [ht9]; exact hP9, hD9⟩, hS.F ht9⟩) hS.2.2 dX12_cut_38
      · have fc4 := z_nlt (rfl : (b).toInt = _) (by decide : (1 : Int32).toInt = 1) c4
        refine lv_iload_n hx hb dX12_cut_16 rfl (lv_at hl 3 rfl) ?_
        refine lv_iconst (v := 1) hx hb dX12_cut_17 (by decide) ?_
        refine lv_icmp_lt (tgt := 36) hx hb dX12_cut_18 (by decide) (fun c5 => ?_) (fun c5 => ?_)
        · have fc5 := z_lt (rfl : (d).toInt = _) (by decide : (1 : Int32).toInt = 1) c5
          refine lv_ldc hx hb hown (ht _ m_1373) dX12_cut_36 ?_
          have hP9 : va_P (dC, dI) classes (WM h g ca (u2 iv 12 67 (iv 12 67)) lv (u2 (u2 (u2 (u2 (u2 (u2 fa 12 68 (fa 12 68)) 12 69 (fa 12 69)) 12 71 (fa 12 71)) 12 72 (fa 12 72)) 12 73 (fa 12 73)) 12 74 (fa 12 74)) (u2 la 12 70 (la 12 70))) s.heap := hP
          have hD9 : va_D A (WM h g ca (u2 iv 12 67 (iv 12 67)) lv (u2 (u2 (u2 (u2 (u2 (u2 fa 12 68 (fa 12 68)) 12 69 (fa 12 69)) 12 71 (fa 12 71)) 12 72 (fa 12 72)) 12 73 (fa 12 73)) 12 74 (fa 12 74)) (u2 la 12 70 (la 12 70))) := hD
          exact W.iret (v := (-100002)) hx hb hr (fun t ht9 hW => ⟨⟨(-100002), ((u2 iv 12 67 (iv 12 67)), lv, (u2 (u2 (u2 (u2 (u2 (u2 fa 12 68 (fa 12 68)) 12 69 (fa 12 69)) 12 71 (fa 12 71)) 12 72 (fa 12 72)) 12 73 (fa 12 73)) 12 74 (fa 12 74)), (u2 la 12 70 (la 12 70))), rfl, ⟨(fa 12 68), (fa 12 69), (fa 12 71), (fa 12 72), (fa 12 73), (fa 12 74), (la 12 70), (iv 12 67), (hI.2 12 71), (hI.1 12 67), ⟨by decide, by decide⟩, rfl⟩, by rw [ht9]; exact hP9, hD9⟩, hS.F ht9⟩) hS.2.2 dX12_cut_38
        · have fc5 := z_nlt (rfl : (d).toInt = _) (by decide : (1 : Int32).toInt = 1) c5
          refine lv_iload_n hx hb dX12_cut_21 rfl (lv_at hl 2 rfl) ?_
          refine lv_i2l (v := (b.toInt64)) hx hb dX12_cut_22 rfl ?_
          refine lv_iload_n hx hb dX12_cut_23 rfl (lv_at hl 3 rfl) ?_
          refine lv_i2l (v := (d.toInt64)) hx hb dX12_cut_24 rfl ?_
          refine lv_ladd hx hb dX12_cut_25 ?_
          refine lv_topl (fun w6 ew6 => ?_)
          refine lv_aload_n hx hb dX12_cut_26 rfl (lv_at hl 0 rfl) ?_
          refine gM_12_70 hx hb ht hown hK hP m_1209 dX12_cut_27 ?_
          refine lv_iload_n hx hb dX12_cut_30 rfl (lv_at hl 1 rfl) ?_
          refine lM_12_70 hx hb hK hP (f := (la 12 70)) rfl (vp_in_iff.mpr ⟨by omega, by omega⟩) dX12_cut_31 ?_
          refine lv_topl (fun w7 ew7 => ?_)
          refine W.lcmp hx hb dX12_cut_32 ?_
          refine lv_topi (fun v8 ev8 => ?_)
          refine lv_if_eq (tgt := 39) hx hb dX12_cut_33 (by decide) (fun c9 => ?_) (fun c9 => ?_)
          · have fc9 := zc_eq ev8 (rfl : (w6).toInt = _) (rfl : (w7).toInt = _) c9
            refine lv_iconst (v := 0) hx hb dX12_cut_39 (by decide) ?_
            refine lv_istore (lv' := [(4, .int 0), (0, .ref h), (1, .int a), (2, .int b), (3, .int d)]) hx hb dX12_cut_40 hl (by decide) rfl (fun ls hl => ?_)
            refine lv_iconst (v := 0) hx hb dX12_cut_42 (by decide) ?_
            refine lv_istore (lv' := [(5, .int 0), (4, .int 0), (0, .ref h), (1, .int a), (2, .int b), (3, .int d)]) hx hb dX12_cut_43 hl (by decide) rfl (fun ls hl => ?_)
            have lp790 : ∀ (nn790 : Nat) (x789_5 : Int32) (x789_4 : Int32), 0 ≤ x789_5.toInt ∧ x789_5.toInt ≤ 40 → 0 ≤ x789_4.toInt ∧ x789_4.toInt ≤ 1 → 40 - x789_5.toInt < (nn790 : Int) → ∀ (H : Heap) (locs : List Loc), ∀ (ls : Array Slot), va_P (dC, dI) classes (WM h g ca iv lv fa la) H → va_D A (WM h g ca iv lv fa la) → va_S A s.heap H locs → lv_has ls 6 [(5, .int x789_5), (4, .int x789_4), (0, .ref h), (1, .int a), (2, .int b), (3, .int d)] → W p l e ({ frames := 2, cells := 0, slots := 0, locals := 46 } : Room) s m ([.ref h, .int a, .int b, .int d] : List Value).toArray below meth c H locs 0 0 (MQ below (va_Qi (fun r (u : SS) => ∃ (na_12_68 : Nat → Int32) (na_12_69 : Nat → Int32) (na_12_71 : Nat → Int32) (na_12_72 : Nat → Int32) (na_12_73 : Nat → Int32) (na_12_74 : Nat → Int32) (nb_12_70 : Nat → Int64) (ni_12_67 : Int32), (∀ j, inb (bA 12 71 j) (na_12_71 j)) ∧ inb (bI 12 67) ni_12_67 ∧ ((-100004) ≤ r.toInt ∧ r.toInt ≤ 38) ∧ u = ((u2 iv 12 67 ni_12_67), lv, (u2 (u2 (u2 (u2 (u2 (u2 fa 12 68 na_12_68) 12 69 na_12_69) 12 71 na_12_71) 12 72 na_12_72) 12 73 na_12_73) 12 74 na_12_74), (u2 la 12 70 nb_12_70))) (bM (dC, dI) h g ca A) A) ([.ref h, .int a, .int b, .int d] : List Value).toArray s 0 0 A) (F0 m 45 ls []) := by
              intro nn790
              induction nn790 with
              | zero => intro x789_5 x789_4 hx789_5 hx789_4 hm790; exfalso; omega
              | succ nn790 ih790 =>
                intro x789_5 x789_4 hx789_5 hx789_4 hm790 H locs ls hP hD hS hl
                refine lv_iload hx hb dX12_cut_45 (lv_at hl 0 rfl) ?_
                refine lv_aload_n hx hb dX12_cut_47 rfl (lv_at hl 2 rfl) ?_
                refine gM_12_67 hx hb ht hown hK hP m_1206 (v := (iv 12 67)) rfl dX12_cut_48 ?_
                refine lv_icmp_ge (tgt := 104) hx hb dX12_cut_51 (by decide) (fun c791 => ?_) (fun c791 => ?_)
                · have fc791 := z_le (rfl : ((iv 12 67)).toInt = _) (rfl : (x789_5).toInt = _) c791
                  refine lv_aload_n hx hb dX12_cut_104 rfl (lv_at hl 2 rfl) ?_
                  refine lv_iload_n hx hb dX12_cut_105 rfl (lv_at hl 3 rfl) ?_
                  refine vp_callSi (W.runV (As := [.int a]) (rest := []) ⟨hx, hb, hml, hown, ht⟩ (c_X12_stands l dC dI h g ca iv lv fa la hI a ⟨by omega, by omega⟩) (kV 1 ht m_1688 m_1690 m_74 m_89 m_1691 rfl rfl hd_X12_stands_v ⟨Nat.le_of_ble_eq_true rfl, Nat.le_of_ble_eq_true rfl⟩) (vR hP hK (rM_12 hK hP)) rfl rfl hl.1 rfl (lv_room (Nat.le_of_ble_eq_true rfl)) dX12_cut_106 ⟨Nat.le_of_ble_eq_true rfl, Nat.le_of_ble_eq_true rfl⟩) (fun r792 hr792 => ?_)
                  refine lv_if_eq (tgt := 117) hx hb dX12_cut_109 (by decide) (fun c793 => ?_) (fun c793 => ?_)
                  · have fc793 := z_eq (rfl : (r792).toInt = _) (by decide : (0 : Int32).toInt = 0) c793
                    refine lv_ldc hx hb hown (ht _ m_1374) dX12_cut_117 ?_
                    have hP9 : va_P (dC, dI) classes (WM h g ca (u2 iv 12 67 (iv 12 67)) lv (u2 (u2 (u2 (u2 (u2 (u2 fa 12 68 (fa 12 68)) 12 69 (fa 12 69)) 12 71 (fa 12 71)) 12 72 (fa 12 72)) 12 73 (fa 12 73)) 12 74 (fa 12 74)) (u2 la 12 70 (la 12 70))) H := hP
                    have hD9 : va_D A (WM h g ca (u2 iv 12 67 (iv 12 67)) lv (u2 (u2 (u2 (u2 (u2 (u2 fa 12 68 (fa 12 68)) 12 69 (fa 12 69)) 12 71 (fa 12 71)) 12 72 (fa 12 72)) 12 73 (fa 12 73)) 12 74 (fa 12 74)) (u2 la 12 70 (la 12 70))) := hD
                    exact W.iret (v := (-100003)) hx hb hr (fun t ht9 hW => ⟨⟨(-100003), ((u2 iv 12 67 (iv 12 67)), lv, (u2 (u2 (u2 (u2 (u2 (u2 fa 12 68 (fa 12 68)) 12 69 (fa 12 69)) 12 71 (fa 12 71)) 12 72 (fa 12 72)) 12 73 (fa 12 73)) 12 74 (fa 12 74)), (u2 la 12 70 (la 12 70))), rfl, ⟨(fa 12 68), (fa 12 69), (fa 12 71), (fa 12 72), (fa 12 73), (fa 12 74), (la 12 70), (iv 12 67), (hI.2 12 71), (hI.1 12 67), ⟨by decide, by decide⟩, rfl⟩, by rw [ht9]; exact hP9, hD9⟩, hS.F ht9⟩) hS.2.2 dX12_cut_119
                  · have fc793 := z_ne (rfl : (r792).toInt = _) (by decide : (0 : Int32).toInt = 0) c793
                    refine lv_iload hx hb dX12_cut_112 (lv_at hl 1 rfl) ?_
                    refine lv_if_eq (tgt := 120) hx hb dX12_cut_114 (by decide) (fun c794 => ?_) (fun c794 => ?_)
                    · have fc794 := z_eq (rfl : (x789_4).toInt = _) (by decide : (0 : Int32).toInt = 0) c794
                      refine lv_aload_n hx hb dX12_cut_120 rfl (lv_at hl 2 rfl) ?_
                      refine gM_12_67 hx hb ht hown hK hP m_1206 (v := (iv 12 67)) rfl dX12_cut_121 ?_
                      refine lv_iconst (v := 2) hx hb dX12_cut_124 (by decide) ?_
                      refine lv_iadd hx hb dX12_cut_125 ?_
                      refine lv_topi (fun v795 ev795 => ?_)
                      have tv795 := z_add ev795 (rfl : ((iv 12 67)).toInt = _) (by decide : (2 : Int32).toInt = 2) (by omega) (by omega)
                      refine lv_bipush (v := 40) hx hb dX12_cut_126 (by decide) ?_
                      refine lv_icmp_le (tgt := 134) hx hb dX12_cut_128 (by decide) (fun c796 => ?_) (fun c796 => ?_)
                      · have fc796 := z_le (rfl : (v795).toInt = _) (by decide : (40 : Int32).toInt = 40) c796
                        refine lv_aload_n hx hb dX12_cut_134 rfl (lv_at hl 2 rfl) ?_
                        refine gM_12_73 hx hb ht hown hK hP m_1212 dX12_cut_135 ?_
                        refine lv_iload_n hx hb dX12_cut_138 rfl (lv_at hl 3 rfl) ?_
                        refine lv_aload_n hx hb dX12_cut_139 rfl (lv_at hl 2 rfl) ?_
                        have i_12_0 : 0 ≤ (iv 12 0).toInt ∧ (iv 12 0).toInt ≤ 3000 := hI.1 12 0
                        refine gM_12_0 hx hb ht hown hK hP m_1139 (v := (iv 12 0)) rfl dX12_cut_140 ?_
                        refine tM_12_73 hx hb hK hP hD hS (f0 := (fa 12 73)) rfl (i := a) (x := (iv 12 0)) (vp_in_iff.mpr ⟨by omega, by omega⟩) dX12_cut_143 (fun f797 ef797 H locs hP hD hS => ?_)
                        have hf797 : ∀ j, inb (bA 12 73 j) (f797 j) := fun j => full_i _
                        refine lv_aload_n hx hb dX12_cut_144 rfl (lv_at hl 2 rfl) ?_
                        refine lv_iconst (v := 0) hx hb dX12_cut_145 (by decide) ?_
                        refine lv_aload_n hx hb dX12_cut_146 rfl (lv_at hl 2 rfl) ?_
                        refine gM_12_69 hx hb ht hown hK hP m_1208 dX12_cut_147 ?_
                        refine lv_iload_n hx hb dX12_cut_150 rfl (lv_at hl 3 rfl) ?_
                        refine lM_12_69 hx hb hK hP (f := (fa 12 69)) rfl (vp_in_iff.mpr ⟨by omega, by omega⟩) dX12_cut_151 ?_
                        refine lv_topi (fun v798 ev798 => ?_)
                        refine lv_iload_n hx hb dX12_cut_152 rfl (lv_at hl 4 rfl) ?_
                        refine lv_i2l (v := (b.toInt64)) hx hb dX12_cut_153 rfl ?_
                        refine lv_iload_n hx hb dX12_cut_154 rfl (lv_at hl 3 rfl) ?_
                        refine lv_iconst (v := 0) hx hb dX12_cut_155 (by decide) ?_
                        have hFc := free_all hD hS hA
                        refine va_callv (va_runV (As := [.int 0, .int v798, .long (b.toInt64), .int a, .int 0]) (rest := []) ⟨hx, hb, hml, hown, ht⟩ (c_X12_add l dC dI H.size h g ca iv lv (u2 fa 12 73 f797) la (IX_a (c := 12) (k := 73) hI hf797) 0 v798 (b.toInt64) a 0 (show 0 ≤ ((iv 12 67) : Int32).toInt ∧ ((iv 12 67) : Int32).toInt ≤ 39 from ⟨by omega, by omega⟩) ⟨by omega, by omega⟩) (kV 5 ht m_1676 m_1678 m_72 m_89 m_1679 rfl rfl hd_X12_add_v ⟨Nat.le_of_ble_eq_true rfl, Nat.le_of_ble_eq_true rfl⟩) (vW hP hK hD (rM_12 hK hP)) rfl rfl hl.1 rfl (lv_room (Nat.le_of_ble_eq_true rfl)) dX12_cut_156 ⟨Nat.le_of_ble_eq_true rfl, Nat.le_of_ble_eq_true rfl⟩) hS (fun q _ h => hFc q h) hFc (fun u t H1 locs ht9 hvm hr799 hB hz1 hk1 hS => ?_)
                        obtain ⟨n800, n801, n802, n803, n804, n805, n806, n807, hn802, hn807, dn807, rfl⟩ := hr799
                        have hn800 : ∀ j, inb (bA 12 68 j) (n800 j) := fun j => full_i _
                        have hn801 : ∀ j, inb (bA 12 69 j) (n801 j) := fun j => full_i _
                        have hn803 : ∀ j, inb (bA 12 72 j) (n803 j) := fun j => full_i _
                        have hn804 : ∀ j, inb (bA 12 73 j) (n804 j) := fun j => full_i _
                        have hn805 : ∀ j, inb (bA 12 74 j) (n805 j) := fun j => full_i _
                        have dn807 : n807.toInt = ((iv 12 67) : Int32).toInt + 1 := dn807
                        have hn807 : 0 ≤ n807.toInt ∧ n807.toInt ≤ 40 := hn807
                        obtain ⟨hP, hD⟩ := hB
                        rw [ht9] at hP
                        generalize H1 = H at hP hS ⊢
                        have hP : va_P (dC, dI) classes (WM h g ca (u2 iv 12 67 n807) lv (u2 (u2 (u2 (u2 (u2 (u2 fa 12 73 n804) 12 68 n800) 12 69 n801) 12 71 n802) 12 72 n803) 12 74 n805) (u2 la 12 70 n806)) H := hP
                        have hD : va_D A (WM h g ca (u2 iv 12 67 n807) lv (u2 (u2 (u2 (u2 (u2 (u2 fa 12 73 n804) 12 68 n800) 12 69 n801) 12 71 n802) 12 72 n803) 12 74 n805) (u2 la 12 70 n806)) := (show va_D _ (WM h g ca (u2 iv 12 67 n807) lv (u2 (u2 (u2 (u2 (u2 (u2 fa 12 73 n804) 12 68 n800) 12 69 n801) 12 71 n802) 12 72 n803) 12 74 n805) (u2 la 12 70 n806)) from hD).weaken (fun _ _ _ h => hFc _ h)
                        refine lv_aload_n hx hb dX12_cut_159 rfl (lv_at hl 2 rfl) ?_
                        refine lv_iconst (v := 0) hx hb dX12_cut_160 (by decide) ?_
                        refine lv_aload_n hx hb dX12_cut_161 rfl (lv_at hl 2 rfl) ?_
                        refine gM_12_69 hx hb ht hown hK hP m_1208 dX12_cut_162 ?_
                        refine lv_iload_n hx hb dX12_cut_165 rfl (lv_at hl 3 rfl) ?_
                        refine lM_12_69 hx hb hK hP (f := n801) rfl (vp_in_iff.mpr ⟨by omega, by omega⟩) dX12_cut_166 ?_
                        refine lv_topi (fun v808 ev808 => ?_)
                        refine lv_iload_n hx hb dX12_cut_167 rfl (lv_at hl 5 rfl) ?_
                        refine lv_i2l (v := (d.toInt64)) hx hb dX12_cut_168 rfl ?_
                        refine lv_iload_n hx hb dX12_cut_169 rfl (lv_at hl 3 rfl) ?_
                        refine lv_iconst (v := 0) hx hb dX12_cut_170 (by decide) ?_
                        have hFc := free_all hD hS hA
                        refine va_callv (va_runV (As := [.int 0, .int v808, .long (d.toInt64), .int a, .int 0]) (rest := []) ⟨hx, hb, hml, hown, ht⟩ (c_X12_add l dC dI H.size h g ca (u2 iv 12 67 n807) lv (u2 (u2 (u2 (u2 (u2 (u2 fa 12 73 n804) 12 68 n800) 12 69 n801) 12 71 n802) 12 72 n803) 12 74 n805) (u2 la 12 70 n806) (IX_a (c := 12) (k := 74) (IX_a (c := 12) (k := 72) (IX_a (c := 12) (k := 71) (IX_a (c := 12) (k := 69) (IX_a (c := 12) (k := 68) (IX_a (c := 12) (k := 73) (IX_i (c := 12) (k := 67) hI (show inb (0, 40) n807 from ⟨by omega, by omega⟩)) hn804) hn800) hn801) hn802) hn803) hn805) 0 v808 (d.toInt64) a 0 (show 0 ≤ (n807 : Int32).toInt ∧ (n807 : Int32).toInt ≤ 39 from ⟨by omega, by omega⟩) ⟨by omega, by omega⟩) (kV 5 ht m_1676 m_1678 m_72 m_89 m_1679 rfl rfl hd_X12_add_v ⟨Nat.le_of_ble_eq_true rfl, Nat.le_of_ble_eq_true rfl⟩) (vW hP hK hD (rM_12 hK hP)) rfl rfl hl.1 rfl (lv_room (Nat.le_of_ble_eq_true rfl)) dX12_cut_171 ⟨Nat.le_of_ble_eq_true rfl, Nat.le_of_ble_eq_true rfl⟩) hS (fun q _ h => hFc q h) hFc (fun u t H1 locs ht9 hvm hr809 hB hz1 hk1 hS => ?_)
                        obtain ⟨n810, n811, n812, n813, n814, n815, n816, n817, hn812, hn817, dn817, rfl⟩ := hr809
                        have hn810 : ∀ j, inb (bA 12 68 j) (n810 j) := fun j => full_i _
                        have hn811 : ∀ j, inb (bA 12 69 j) (n811 j) := fun j => full_i _
                        have hn813 : ∀ j, inb (bA 12 72 j) (n813 j) := fun j => full_i _
                        have hn814 : ∀ j, inb (bA 12 73 j) (n814 j) := fun j => full_i _
                        have hn815 : ∀ j, inb (bA 12 74 j) (n815 j) := fun j => full_i _
                        have dn817 : n817.toInt = (n807 : Int32).toInt + 1 := dn817
                        have hn817 : 0 ≤ n817.toInt ∧ n817.toInt ≤ 40 := hn817
                        obtain ⟨hP, hD⟩ := hB
                        rw [ht9] at hP
                        generalize H1 = H at hP hS ⊢
                        have hP : va_P (dC, dI) classes (WM h g ca (u2 iv 12 67 n817) lv (u2 (u2 (u2 (u2 (u2 (u2 fa 12 73 n814) 12 68 n810) 12 69 n811) 12 71 n812) 12 72 n813) 12 74 n815) (u2 la 12 70 n816)) H := hP
                        have hD : va_D A (WM h g ca (u2 iv 12 67 n817) lv (u2 (u2 (u2 (u2 (u2 (u2 fa 12 73 n814) 12 68 n810) 12 69 n811) 12 71 n812) 12 72 n813) 12 74 n815) (u2 la 12 70 n816)) := (show va_D _ (WM h g ca (u2 iv 12 67 n817) lv (u2 (u2 (u2 (u2 (u2 (u2 fa 12 73 n814) 12 68 n810) 12 69 n811) 12 71 n812) 12 72 n813) 12 74 n815) (u2 la 12 70 n816)) from hD).weaken (fun _ _ _ h => hFc _ h)
                        refine lv_aload_n hx hb dX12_cut_174 rfl (lv_at hl 2 rfl) ?_
                        refine gM_12_67 hx hb ht hown hK hP m_1206 (v := n817) rfl dX12_cut_175 ?_
                        refine lv_iconst (v := 2) hx hb dX12_cut_178 (by decide) ?_
                        refine lv_isub hx hb dX12_cut_179 ?_
                        refine lv_topi (fun v818 ev818 => ?_)
                        have tv818 := z_sub ev818 (rfl : (n817).toInt = _) (by decide : (2 : Int32).toInt = 2) (by omega) (by omega)
                        have hP9 : va_P (dC, dI) classes (WM h g ca (u2 iv 12 67 n817) lv (u2 (u2 (u2 (u2 (u2 (u2 fa 12 68 n810) 12 69 n811) 12 71 n812) 12 72 n813) 12 73 n814) 12 74 n815) (u2 la 12 70 n816)) H := hP
                        have hD9 : va_D A (WM h g ca (u2 iv 12 67 n817) lv (u2 (u2 (u2 (u2 (u2 (u2 fa 12 68 n810) 12 69 n811) 12 71 n812) 12 72 n813) 12 73 n814) 12 74 n815) (u2 la 12 70 n816)) := hD
                        exact W.iret (v := v818) hx hb hr (fun t ht9 hW => ⟨⟨v818, ((u2 iv 12 67 n817), lv, (u2 (u2 (u2 (u2 (u2 (u2 fa 12 68 n810) 12 69 n811) 12 71 n812) 12 72 n813) 12 73 n814) 12 74 n815), (u2 la 12 70 n816)), rfl, ⟨n810, n811, n812, n813, n814, n815, n816, n817, hn812, (show inb (0, 40) n817 from ⟨by omega, by omega⟩), ⟨by omega, by omega⟩, rfl⟩, by rw [ht9]; exact hP9, hD9⟩, hS.F ht9⟩) hS.2.2 dX12_cut_180
                      · have fc796 := z_nle (rfl : (v795).toInt = _) (by decide : (40 : Int32).toInt = 40) c796
                        refine lv_ldc hx hb hown (ht _ m_1380) dX12_cut_131 ?_
                        have hP9 : va_P (dC, dI) classes (WM h g ca (u2 iv 12 67 (iv 12 67)) lv (u2 (u2 (u2 (u2 (u2 (u2 fa 12 68 (fa 12 68)) 12 69 (fa 12 69)) 12 71 (fa 12 71)) 12 72 (fa 12 72)) 12 73 (fa 12 73)) 12 74 (fa 12 74)) (u2 la 12 70 (la 12 70))) H := hP
                        have hD9 : va_D A (WM h g ca (u2 iv 12 67 (iv 12 67)) lv (u2 (u2 (u2 (u2 (u2 (u2 fa 12 68 (fa 12 68)) 12 69 (fa 12 69)) 12 71 (fa 12 71)) 12 72 (fa 12 72)) 12 73 (fa 12 73)) 12 74 (fa 12 74)) (u2 la 12 70 (la 12 70))) := hD
                        exact W.iret (v := (-100004)) hx hb hr (fun t ht9 hW => ⟨⟨(-100004), ((u2 iv 12 67 (iv 12 67)), lv, (u2 (u2 (u2 (u2 (u2 (u2 fa 12 68 (fa 12 68)) 12 69 (fa 12 69)) 12 71 (fa 12 71)) 12 72 (fa 12 72)) 12 73 (fa 12 73)) 12 74 (fa 12 74)), (u2 la 12 70 (la 12 70))), rfl, ⟨(fa 12 68), (fa 12 69), (fa 12 71), (fa 12 72), (fa 12 73), (fa 12 74), (la 12 70), (iv 12 67), (hI.2 12 71), (hI.1 12 67), ⟨by decide, by decide⟩, rfl⟩, by rw [ht9]; exact hP9, hD9⟩, hS.F ht9⟩) hS.2.2 dX12_cut_133
                    · have fc794 := z_ne (rfl : (x789_4).toInt = _) (by decide : (0 : Int32).toInt = 0) c794
                      refine lv_ldc hx hb hown (ht _ m_1374) dX12_cut_117 ?_
                      have hP9 : va_P (dC, dI) classes (WM h g ca (u2 iv 12 67 (iv 12 67)) lv (u2 (u2 (u2 (u2 (u2 (u2 fa 12 68 (fa 12 68)) 12 69 (fa 12 69)) 12 71 (fa 12 71)) 12 72 (fa 12 72)) 12 73 (fa 12 73)) 12 74 (fa 12 74)) (u2 la 12 70 (la 12 70))) H := hP
                      have hD9 : va_D A (WM h g ca (u2 iv 12 67 (iv 12 67)) lv (u2 (u2 (u2 (u2 (u2 (u2 fa 12 68 (fa 12 68)) 12 69 (fa 12 69)) 12 71 (fa 12 71)) 12 72 (fa 12 72)) 12 73 (fa 12 73)) 12 74 (fa 12 74)) (u2 la 12 70 (la 12 70))) := hD
                      exact W.iret (v := (-100003)) hx hb hr (fun t ht9 hW => ⟨⟨(-100003), ((u2 iv 12 67 (iv 12 67)), lv, (u2 (u2 (u2 (u2 (u2 (u2 fa 12 68 (fa 12 68)) 12 69 (fa 12 69)) 12 71 (fa 12 71)) 12 72 (fa 12 72)) 12 73 (fa 12 73)) 12 74 (fa 12 74)), (u2 la 12 70 (la 12 70))), rfl, ⟨(fa 12 68), (fa 12 69), (fa 12 71), (fa 12 72), (fa 12 73), (fa 12 74), (la 12 70), (iv 12 67), (hI.2 12 71), (hI.1 12 67), ⟨by decide, by decide⟩, rfl⟩, by rw [ht9]; exact hP9, hD9⟩, hS.F ht9⟩) hS.2.2 dX12_cut_119
                · have fc791 := z_nle (rfl : ((iv 12 67)).toInt = _) (rfl : (x789_5).toInt = _) c791
                  refine lv_iload hx hb dX12_cut_54 (lv_at hl 1 rfl) ?_
                  refine lv_if_ne (tgt := 91) hx hb dX12_cut_56 (by decide) (fun c819 => ?_) (fun c819 => ?_)
                  · have fc819 := z_ne (rfl : (x789_4).toInt = _) (by decide : (0 : Int32).toInt = 0) c819
                    refine lv_iconst (v := 1) hx hb dX12_cut_91 (by decide) ?_
                    refine lv_goto (tgt := 96) hx hb dX12_cut_92 (by decide) ?_
                    refine lv_istore (lv' := [(4, .int 1), (5, .int x789_5), (0, .ref h), (1, .int a), (2, .int b), (3, .int d)]) hx hb dX12_cut_96 hl (by decide) rfl (fun ls hl => ?_)
                    obtain ⟨v820, ev820⟩ : ∃ y : Int32, y = x789_5 + 1 := ⟨_, rfl⟩
                    have tv820 := z_add ev820 rfl (by decide : (1 : Int32).toInt = 1) (by omega) (by omega)
                    refine lv_iinc (v := v820) (lv' := [(5, .int v820), (4, .int 1), (0, .ref h), (1, .int a), (2, .int b), (3, .int d)]) hx hb dX12_cut_98 hl (k := 1) rfl (by rw [ev820]; rfl) (by decide) rfl (fun ls hl => ?_)
                    refine lv_goto (tgt := 45) hx hb dX12_cut_101 (by decide) ?_
                    exact ih790 v820 1 ⟨by omega, by omega⟩ ⟨by decide, by decide⟩ (by omega) _ _ ls hP hD hS (lv_sub hl [0, 1, 2, 3, 4, 5] rfl)
                  · have fc819 := z_eq (rfl : (x789_4).toInt = _) (by decide : (0 : Int32).toInt = 0) c819
                    refine lv_aload_n hx hb dX12_cut_59 rfl (lv_at hl 2 rfl) ?_
                    refine gM_12_71 hx hb ht hown hK hP m_1210 dX12_cut_60 ?_
                    refine lv_iload hx hb dX12_cut_63 (lv_at hl 0 rfl) ?_
                    refine lM_12_71 hx hb hK hP (f := (fa 12 71)) rfl (vp_in_iff.mpr ⟨by omega, by omega⟩) dX12_cut_65 ?_
                    refine lv_topi (fun v821 ev821 => ?_)
                    have tv821 : (-1) ≤ v821.toInt ∧ v821.toInt ≤ 39 := by rw [ev821]; exact hI.2 12 71 _
                    refine lv_iload_n hx hb dX12_cut_66 rfl (lv_at hl 3 rfl) ?_
                    refine lv_icmp_ne (tgt := 95) hx hb dX12_cut_67 (by decide) (fun c822 => ?_) (fun c822 => ?_)
                    · have fc822 := z_ne (rfl : (v821).toInt = _) (rfl : (a).toInt = _) c822
                      refine lv_iconst (v := 0) hx hb dX12_cut_95 (by decide) ?_
                      refine lv_istore (lv' := [(4, .int 0), (5, .int x789_5), (0, .ref h), (1, .int a), (2, .int b), (3, .int d)]) hx hb dX12_cut_96 hl (by decide) rfl (fun ls hl => ?_)
                      obtain ⟨v823, ev823⟩ : ∃ y : Int32, y = x789_5 + 1 := ⟨_, rfl⟩
                      have tv823 := z_add ev823 rfl (by decide : (1 : Int32).toInt = 1) (by omega) (by omega)
                      refine lv_iinc (v := v823) (lv' := [(5, .int v823), (4, .int 0), (0, .ref h), (1, .int a), (2, .int b), (3, .int d)]) hx hb dX12_cut_98 hl (k := 1) rfl (by rw [ev823]; rfl) (by decide) rfl (fun ls hl => ?_)
                      refine lv_goto (tgt := 45) hx hb dX12_cut_101 (by decide) ?_
                      exact ih790 v823 0 ⟨by omega, by omega⟩ ⟨by decide, by decide⟩ (by omega) _ _ ls hP hD hS (lv_sub hl [0, 1, 2, 3, 4, 5] rfl)
                    · have fc822 := z_eq (rfl : (v821).toInt = _) (rfl : (a).toInt = _) c822
                      refine lv_aload_n hx hb dX12_cut_70 rfl (lv_at hl 2 rfl) ?_
                      refine gM_12_68 hx hb ht hown hK hP m_1207 dX12_cut_71 ?_
                      refine lv_iload hx hb dX12_cut_74 (lv_at hl 0 rfl) ?_
                      refine lM_12_68 hx hb hK hP (f := (fa 12 68)) rfl (vp_in_iff.mpr ⟨by omega, by omega⟩) dX12_cut_76 ?_
                      refine lv_topi (fun v824 ev824 => ?_)
                      refine lv_iconst (v := 1) hx hb dX12_cut_77 (by decide) ?_
                      refine lv_icmp_ne (tgt := 95) hx hb dX12_cut_78 (by decide) (fun c825 => ?_) (fun c825 => ?_)
                      · have fc825 := z_ne (rfl : (v824).toInt = _) (by decide : (1 : Int32).toInt = 1) c825
                        refine lv_iconst (v := 0) hx hb dX12_cut_95 (by decide) ?_
                        refine lv_istore (lv' := [(4, .int 0), (5, .int x789_5), (0, .ref h), (1, .int a), (2, .int b), (3, .int d)]) hx hb dX12_cut_96 hl (by decide) rfl (fun ls hl => ?_)
                        obtain ⟨v826, ev826⟩ : ∃ y : Int32, y = x789_5 + 1 := ⟨_, rfl⟩
                        have tv826 := z_add ev826 rfl (by decide : (1 : Int32).toInt = 1) (by omega) (by omega)
                        refine lv_iinc (v := v826) (lv' := [(5, .int v826), (4, .int 0), (0, .ref h), (1, .int a), (2, .int b), (3, .int d)]) hx hb dX12_cut_98 hl (k := 1) rfl (by rw [ev826]; rfl) (by decide) rfl (fun ls hl => ?_)
                        refine lv_goto (tgt := 45) hx hb dX12_cut_101 (by decide) ?_
                        exact ih790 v826 0 ⟨by omega, by omega⟩ ⟨by decide, by decide⟩ (by omega) _ _ ls hP hD hS (lv_sub hl [0, 1, 2, 3, 4, 5] rfl)
                      · have fc825 := z_eq (rfl : (v824).toInt = _) (by decide : (1 : Int32).toInt = 1) c825
                        refine lv_aload_n hx hb dX12_cut_81 rfl (lv_at hl 2 rfl) ?_
                        refine gM_12_73 hx hb ht hown hK hP m_1212 dX12_cut_82 ?_
                        refine lv_iload hx hb dX12_cut_85 (lv_at hl 0 rfl) ?_
                        refine lM_12_73 hx hb hK hP (f := (fa 12 73)) rfl (vp_in_iff.mpr ⟨by omega, by omega⟩) dX12_cut_87 ?_
                        refine lv_topi (fun v827 ev827 => ?_)
                        refine lv_if_ge (tgt := 95) hx hb dX12_cut_88 (by decide) (fun c828 => ?_) (fun c828 => ?_)
                        · have fc828 := z_le (by decide : (0 : Int32).toInt = 0) (rfl : (v827).toInt = _) c828
                          refine lv_iconst (v := 0) hx hb dX12_cut_95 (by decide) ?_
                          refine lv_istore (lv' := [(4, .int 0), (5, .int x789_5), (0, .ref h), (1, .int a), (2, .int b), (3, .int d)]) hx hb dX12_cut_96 hl (by decide) rfl (fun ls hl => ?_)
                          obtain ⟨v829, ev829⟩ : ∃ y : Int32, y = x789_5 + 1 := ⟨_, rfl⟩
                          have tv829 := z_add ev829 rfl (by decide : (1 : Int32).toInt = 1) (by omega) (by omega)
                          refine lv_iinc (v := v829) (lv' := [(5, .int v829), (4, .int 0), (0, .ref h), (1, .int a), (2, .int b), (3, .int d)]) hx hb dX12_cut_98 hl (k := 1) rfl (by rw [ev829]; rfl) (by decide) rfl (fun ls hl => ?_)
                          refine lv_goto (tgt := 45) hx hb dX12_cut_101 (by decide) ?_
                          exact ih790 v829 0 ⟨by omega, by omega⟩ ⟨by decide, by decide⟩ (by omega) _ _ ls hP hD hS (lv_sub hl [0, 1, 2, 3, 4, 5] rfl)
                        · have fc828 := z_nle (by decide : (0 : Int32).toInt = 0) (rfl : (v827).toInt = _) c828
                          refine lv_iconst (v := 1) hx hb dX12_cut_91 (by decide) ?_
                          refine lv_goto (tgt := 96) hx hb dX12_cut_92 (by decide) ?_
                          refine lv_istore (lv' := [(4, .int 1), (5, .int x789_5), (0, .ref h), (1, .int a), (2, .int b), (3, .int d)]) hx hb dX12_cut_96 hl (by decide) rfl (fun ls hl => ?_)
                          obtain ⟨v830, ev830⟩ : ∃ y : Int32, y = x789_5 + 1 := ⟨_, rfl⟩
                          have tv830 := z_add ev830 rfl (by decide : (1 : Int32).toInt = 1) (by omega) (by omega)
                          refine lv_iinc (v := v830) (lv' := [(5, .int v830), (4, .int 1), (0, .ref h), (1, .int a), (2, .int b), (3, .int d)]) hx hb dX12_cut_98 hl (k := 1) rfl (by rw [ev830]; rfl) (by decide) rfl (fun ls hl => ?_)
                          refine lv_goto (tgt := 45) hx hb dX12_cut_101 (by decide) ?_
                          exact ih790 v830 1 ⟨by omega, by omega⟩ ⟨by decide, by decide⟩ (by omega) _ _ ls hP hD hS (lv_sub hl [0, 1, 2, 3, 4, 5] rfl)
            exact lp790 41 0 0 ⟨by decide, by decide⟩ ⟨by decide, by decide⟩ (by first | decide | omega) _ _ ls hP hD hS (lv_sub hl [0, 1, 2, 3, 4, 5] rfl)
          · have fc9 := zc_ne ev8 (rfl : (w6).toInt = _) (rfl : (w7).toInt = _) c9
            refine lv_ldc hx hb hown (ht _ m_1373) dX12_cut_36 ?_
            have hP9 : va_P (dC, dI) classes (WM h g ca (u2 iv 12 67 (iv 12 67)) lv (u2 (u2 (u2 (u2 (u2 (u2 fa 12 68 (fa 12 68)) 12 69 (fa 12 69)) 12 71 (fa 12 71)) 12 72 (fa 12 72)) 12 73 (fa 12 73)) 12 74 (fa 12 74)) (u2 la 12 70 (la 12 70))) s.heap := hP
            have hD9 : va_D A (WM h g ca (u2 iv 12 67 (iv 12 67)) lv (u2 (u2 (u2 (u2 (u2 (u2 fa 12 68 (fa 12 68)) 12 69 (fa 12 69)) 12 71 (fa 12 71)) 12 72 (fa 12 72)) 12 73 (fa 12 73)) 12 74 (fa 12 74)) (u2 la 12 70 (la 12 70))) := hD
            exact W.iret (v := (-100002)) hx hb hr (fun t ht9 hW => ⟨⟨(-100002), ((u2 iv 12 67 (iv 12 67)), lv, (u2 (u2 (u2 (u2 (u2 (u2 fa 12 68 (fa 12 68)) 12 69 (fa 12 69)) 12 71 (fa 12 71)) 12 72 (fa 12 72)) 12 73 (fa 12 73)) 12 74 (fa 12 74)), (u2 la 12 70 (la 12 70))), rfl, ⟨(fa 12 68), (fa 12 69), (fa 12 71), (fa 12 72), (fa 12 73), (fa 12 74), (la 12 70), (iv 12 67), (hI.2 12 71), (hI.1 12 67), ⟨by decide, by decide⟩, rfl⟩, by rw [ht9]; exact hP9, hD9⟩, hS.F ht9⟩) hS.2.2 dX12_cut_38
    · exact absurd rfl c3
set_option maxHeartbeats 4000000 in
set_option maxRecDepth 100000 in
/-- X12_undo -/
theorem c_X12_undo (l : Launch) (dC : Nat → ClassId) (dI : Nat → Nat → Nat) (sz : Nat) (h : Nat) (g : Nat → Nat → Nat) (ca : Nat → Nat → ClassId) (iv : Nat → Nat → Int32) (lv : Nat → Nat → Int64) (fa : Nat → Nat → Nat → Int32) (la : Nat → Nat → Nat → Int64) (hI : IX iv fa) (a : Int32) : Met l yX12_undo (wc yX12_undo cX12_undo 6 (some .int)) ({ frames := 2, cells := 0, slots := 0, locals := 46 } : Room) (pW (dC, dI) classes (WM h g ca iv lv fa la) (TM ca) sz [.ref h, .int a]) (va_Qi (fun r (u : SS) => ∃ (na_12_73 : Nat → Int32), (True) ∧ u = (iv, lv, (u2 fa 12 73 na_12_73), la)) (bM (dC, dI) h g ca (va_A (WM h g ca iv lv fa la) sz)) (va_A (WM h g ca iv lv fa la) sz)) 0 0 (va_A (WM h g ca iv lv fa la) sz) := by
  refine Met.ofW (cc := cX12_undo) (maxL := 6) (ret := (some .int)) (by decide) rfl ?_
  intro p e s m args below meth c s₁ B hml hv
  obtain ⟨rfl, hsz, hP, hK, hD0⟩ := hv
  have hx := B.exec
  have hb := B.bytes
  have hr := B.returns
  have ht := tb_tl (atoms_spec (ws := wc yX12_undo cX12_undo 6 (some .int)) B.pre)
  have hown : s.vm.findClass RX12 = some m.cls := findClass_of_methodNamed B.named
  have hlocks := B.notSynchronized
  subst hsz
  have hD := hD0.self (sz := s.heap.size)
  generalize hAe : va_A (WM h g ca iv lv fa la) s.heap.size = A at hD ⊢
  have hA : ∀ q : Nat, s.heap.size ≤ q → A q := fun q h => by rw [← hAe]; exact Or.inr h
  have hS : va_S A s.heap s.heap [] := va_S.rf
  have hl := lv_entry [.ref h, .int a] (n := 6) (Nat.le_of_ble_eq_true rfl)
  rw [lg_entry_eq]
  generalize (lg_sl [.ref h, .int a] ++ List.replicate (6 - (lg_sl [.ref h, .int a]).length) Slot.unset).toArray = ls at hl ⊢
  have hl : lv_has ls 6 [(0, .ref h), (1, .int a)] := hl
  refine lv_aload_n hx hb dX12_undo_0 rfl (lv_at hl 0 rfl) ?_
  refine lv_iload_n hx hb dX12_undo_1 rfl (lv_at hl 1 rfl) ?_
  refine vp_callSi (W.runV (As := [.int a]) (rest := []) ⟨hx, hb, hml, hown, ht⟩ (c_X12_noPaper l dC dI h g ca iv lv fa la hI a) (kV 1 ht m_1684 m_1686 m_73 m_89 m_1687 rfl rfl hd_X12_noPaper_v ⟨Nat.le_of_ble_eq_true rfl, Nat.le_of_ble_eq_true rfl⟩) (vR hP hK (rM_12 hK hP)) rfl rfl hl.1 rfl (lv_room (Nat.le_of_ble_eq_true rfl)) dX12_undo_2 ⟨Nat.le_of_ble_eq_true rfl, Nat.le_of_ble_eq_true rfl⟩) (fun r1 hr1 => ?_)
  rcases hr1 with ⟨rfl, fr1⟩ | ⟨rfl, fr1⟩
  · skip
    have i_12_67 : 0 ≤ (iv 12 67).toInt ∧ (iv 12 67).toInt ≤ 40 := hI.1 12 67
    have fr1 : ¬ (0 ≤ (a : Int32).toInt ∧ (a : Int32).toInt < ((iv 12 67) : Int32).toInt) := fr1
    refine lv_if_eq (tgt := 11) hx hb dX12_undo_5 (by decide) (fun c2 => ?_) (fun c2 => ?_)
    · exact absurd c2 (by decide)
    · skip
      refine lv_ldc hx hb hown (ht _ m_1389) dX12_undo_8 ?_
      have hP9 : va_P (dC, dI) classes (WM h g ca iv lv (u2 fa 12 73 (fa 12 73)) la) s.heap := hP
      have hD9 : va_D A (WM h g ca iv lv (u2 fa 12 73 (fa 12 73)) la) := hD
      exact W.iret (v := (-100001)) hx hb hr (fun t ht9 hW => ⟨⟨(-100001), (iv, lv, (u2 fa 12 73 (fa 12 73)), la), rfl, ⟨(fa 12 73), trivial, rfl⟩, by rw [ht9]; exact hP9, hD9⟩, hS.F ht9⟩) hS.2.2 dX12_undo_10
  · skip
    have i_12_67 : 0 ≤ (iv 12 67).toInt ∧ (iv 12 67).toInt ≤ 40 := hI.1 12 67
    have fr1 : (0 ≤ (a : Int32).toInt ∧ (a : Int32).toInt < ((iv 12 67) : Int32).toInt) := Decidable.not_not.mp fr1
    refine lv_if_eq (tgt := 11) hx hb dX12_undo_5 (by decide) (fun c3 => ?_) (fun c3 => ?_)
    · skip
      refine lv_aload_n hx hb dX12_undo_11 rfl (lv_at hl 0 rfl) ?_
      refine lv_iload_n hx hb dX12_undo_12 rfl (lv_at hl 1 rfl) ?_
      refine vp_callSi (W.runV (As := [.int a]) (rest := []) ⟨hx, hb, hml, hown, ht⟩ (c_X12_stands l dC dI h g ca iv lv fa la hI a ⟨by omega, by omega⟩) (kV 1 ht m_1688 m_1690 m_74 m_89 m_1691 rfl rfl hd_X12_stands_v ⟨Nat.le_of_ble_eq_true rfl, Nat.le_of_ble_eq_true rfl⟩) (vR hP hK (rM_12 hK hP)) rfl rfl hl.1 rfl (lv_room (Nat.le_of_ble_eq_true rfl)) dX12_undo_13 ⟨Nat.le_of_ble_eq_true rfl, Nat.le_of_ble_eq_true rfl⟩) (fun r4 hr4 => ?_)
      refine lv_if_ne (tgt := 22) hx hb dX12_undo_16 (by decide) (fun c5 => ?_) (fun c5 => ?_)
      · have fc5 := z_ne (rfl : (r4).toInt = _) (by decide : (0 : Int32).toInt = 0) c5
        refine lv_aload_n hx hb dX12_undo_22 rfl (lv_at hl 0 rfl) ?_
        refine gM_12_73 hx hb ht hown hK hP m_1212 dX12_undo_23 ?_
        refine lv_iload_n hx hb dX12_undo_26 rfl (lv_at hl 1 rfl) ?_
        refine lv_aload_n hx hb dX12_undo_27 rfl (lv_at hl 0 rfl) ?_
        have i_12_0 : 0 ≤ (iv 12 0).toInt ∧ (iv 12 0).toInt ≤ 3000 := hI.1 12 0
        refine gM_12_0 hx hb ht hown hK hP m_1139 (v := (iv 12 0)) rfl dX12_undo_28 ?_
        refine tM_12_73 hx hb hK hP hD hS (f0 := (fa 12 73)) rfl (i := a) (x := (iv 12 0)) (vp_in_iff.mpr ⟨by omega, by omega⟩) dX12_undo_31 (fun f6 ef6 H locs hP hD hS => ?_)
        have hf6 : ∀ j, inb (bA 12 73 j) (f6 j) := fun j => full_i _
        refine lv_iconst (v := 1) hx hb dX12_undo_32 (by decide) ?_
        refine lv_istore_n (lv' := [(2, .int 1), (0, .ref h), (1, .int a)]) hx hb dX12_undo_33 rfl hl (by decide) rfl (fun ls hl => ?_)
        refine lv_lconst (v := 1) hx hb dX12_undo_34 (by decide) ?_
        refine lv_iload_n hx hb dX12_undo_35 rfl (lv_at hl 2 rfl) ?_
        obtain ⟨w7, ew7⟩ : ∃ y : Int64, 1 <<< ((a : Int32).toInt64 &&& 63) = y := ⟨_, rfl⟩
        refine lv_lshl (v := w7) hx hb dX12_undo_36 ew7 ?_
        refine lv_lstore_n (lv' := [(3, .long w7), (2, .int 1), (0, .ref h), (1, .int a)]) hx hb dX12_undo_37 rfl hl (by decide) rfl (fun ls hl => ?_)
        refine lv_iload_n hx hb dX12_undo_38 rfl (lv_at hl 3 rfl) ?_
        refine lv_iconst (v := 1) hx hb dX12_undo_39 (by decide) ?_
        refine lv_iadd hx hb dX12_undo_40 ?_
        refine lv_topi (fun v8 ev8 => ?_)
        have tv8 := z_add ev8 (rfl : (a).toInt = _) (by decide : (1 : Int32).toInt = 1) (by omega) (by omega)
        refine lv_istore (lv' := [(5, .int v8), (3, .long w7), (2, .int 1), (0, .ref h), (1, .int a)]) hx hb dX12_undo_41 hl (by decide) rfl (fun ls hl => ?_)
        have lp1438 : ∀ (nn1438 : Nat) (x1437_5 : Int32) (x1437_3 : Int64) (x1437_2 : Int32) (w1437_a_12_73 : Nat → Int32), 1 ≤ x1437_5.toInt ∧ x1437_5.toInt ≤ 40 → (∀ j, inb (bA 12 73 j) (w1437_a_12_73 j)) → 40 - x1437_5.toInt < (nn1438 : Int) → ∀ (H : Heap) (locs : List Loc), ∀ (ls : Array Slot), va_P (dC, dI) classes (WM h g ca iv lv (u2 fa 12 73 w1437_a_12_73) la) H → va_D A (WM h g ca iv lv (u2 fa 12 73 w1437_a_12_73) la) → va_S A s.heap H locs → lv_has ls 6 [(5, .int x1437_5), (3, .long x1437_3), (2, .int x1437_2), (0, .ref h), (1, .int a)] → W p l e ({ frames := 2, cells := 0, slots := 0, locals := 46 } : Room) s m ([.ref h, .int a] : List Value).toArray below meth c H locs 0 0 (MQ below (va_Qi (fun r (u : SS) => ∃ (na_12_73 : Nat → Int32), (True) ∧ u = (iv, lv, (u2 fa 12 73 na_12_73), la)) (bM (dC, dI) h g ca A) A) ([.ref h, .int a] : List Value).toArray s 0 0 A) (F0 m 43 ls []) := by
          intro nn1438
          induction nn1438 with
          | zero => intro x1437_5 x1437_3 x1437_2 w1437_a_12_73 hx1437_5 hw1437_a_12_73 hm1438; exfalso; omega
          | succ nn1438 ih1438 =>
            intro x1437_5 x1437_3 x1437_2 w1437_a_12_73 hx1437_5 hw1437_a_12_73 hm1438 H locs ls hP hD hS hl
            refine lv_iload hx hb dX12_undo_43 (lv_at hl 0 rfl) ?_
            refine lv_aload_n hx hb dX12_undo_45 rfl (lv_at hl 3 rfl) ?_
            refine gM_12_67 hx hb ht hown hK hP m_1206 (v := (iv 12 67)) rfl dX12_undo_46 ?_
            refine lv_icmp_ge (tgt := 143) hx hb dX12_undo_49 (by decide) (fun c1439 => ?_) (fun c1439 => ?_)
            · have fc1439 := z_le (rfl : ((iv 12 67)).toInt = _) (rfl : (x1437_5).toInt = _) c1439
              refine lv_iload_n hx hb dX12_undo_143 rfl (lv_at hl 2 rfl) ?_
              have hP9 : va_P (dC, dI) classes (WM h g ca iv lv (u2 fa 12 73 w1437_a_12_73) la) H := hP
              have hD9 : va_D A (WM h g ca iv lv (u2 fa 12 73 w1437_a_12_73) la) := hD
              exact W.iret (v := x1437_2) hx hb hr (fun t ht9 hW => ⟨⟨x1437_2, (iv, lv, (u2 fa 12 73 w1437_a_12_73), la), rfl, ⟨w1437_a_12_73, trivial, rfl⟩, by rw [ht9]; exact hP9, hD9⟩, hS.F ht9⟩) hS.2.2 dX12_undo_144
            · have fc1439 := z_nle (rfl : ((iv 12 67)).toInt = _) (rfl : (x1437_5).toInt = _) c1439
              refine lv_aload_n hx hb dX12_undo_52 rfl (lv_at hl 3 rfl) ?_
              refine gM_12_71 hx hb ht hown hK hP m_1210 dX12_undo_53 ?_
              refine lv_iload hx hb dX12_undo_56 (lv_at hl 0 rfl) ?_
              refine lM_12_71 hx hb hK hP (f := (fa 12 71)) rfl (vp_in_iff.mpr ⟨by omega, by omega⟩) dX12_undo_58 ?_
              refine lv_topi (fun v1440 ev1440 => ?_)
              have tv1440 : (-1) ≤ v1440.toInt ∧ v1440.toInt ≤ 39 := by rw [ev1440]; exact hI.2 12 71 _
              refine lv_if_lt (tgt := 137) hx hb dX12_undo_59 (by decide) (fun c1441 => ?_) (fun c1441 => ?_)
              · have fc1441 := z_lt (rfl : (v1440).toInt = _) (by decide : (0 : Int32).toInt = 0) c1441
                obtain ⟨v1442, ev1442⟩ : ∃ y : Int32, y = x1437_5 + 1 := ⟨_, rfl⟩
                have tv1442 := z_add ev1442 rfl (by decide : (1 : Int32).toInt = 1) (by omega) (by omega)
                refine lv_iinc (v := v1442) (lv' := [(5, .int v1442), (3, .long x1437_3), (2, .int x1437_2), (0, .ref h), (1, .int a)]) hx hb dX12_undo_137 hl (k := 0) rfl (by rw [ev1442]; rfl) (by decide) rfl (fun ls hl => ?_)
                refine lv_goto (tgt := 43) hx hb dX12_undo_140 (by decide) ?_
                exact ih1438 v1442 x1437_3 x1437_2 w1437_a_12_73 ⟨by omega, by omega⟩ hw1437_a_12_73 (by omega) _ _ ls hP hD hS (lv_sub hl [0, 1, 2, 3, 4] rfl)
              · have fc1441 := z_nlt (rfl : (v1440).toInt = _) (by decide : (0 : Int32).toInt = 0) c1441
                refine lv_lload_n hx hb dX12_undo_62 rfl (lv_at hl 1 rfl) ?_
                refine lv_aload_n hx hb dX12_undo_63 rfl (lv_at hl 3 rfl) ?_
                refine gM_12_71 hx hb ht hown hK hP m_1210 dX12_undo_64 ?_
                refine lv_iload hx hb dX12_undo_67 (lv_at hl 0 rfl) ?_
                refine lM_12_71 hx hb hK hP (f := (fa 12 71)) rfl (vp_in_iff.mpr ⟨by omega, by omega⟩) dX12_undo_69 ?_
                refine lv_topi (fun v1443 ev1443 => ?_)
                obtain rfl : v1440 = v1443 := ev1440.trans ev1443.symm
                obtain ⟨w1444, ew1444⟩ : ∃ y : Int64, x1437_3 >>> ((v1440 : Int32).toInt64 &&& 63) = y := ⟨_, rfl⟩
                refine lv_lshr (v := w1444) hx hb dX12_undo_70 ew1444 ?_
                refine lv_lconst (v := 1) hx hb dX12_undo_71 (by decide) ?_
                refine lv_land hx hb dX12_undo_72 ?_
                refine lv_topl (fun w1445 ew1445 => ?_)
                refine lv_lconst (v := 1) hx hb dX12_undo_73 (by decide) ?_
                refine W.lcmp hx hb dX12_undo_74 ?_
                refine lv_topi (fun v1446 ev1446 => ?_)
                refine lv_if_ne (tgt := 137) hx hb dX12_undo_75 (by decide) (fun c1447 => ?_) (fun c1447 => ?_)
                · have fc1447 := zc_ne ev1446 (rfl : (w1445).toInt = _) (by decide : (1 : Int64).toInt = 1) c1447
                  obtain ⟨v1448, ev1448⟩ : ∃ y : Int32, y = x1437_5 + 1 := ⟨_, rfl⟩
                  have tv1448 := z_add ev1448 rfl (by decide : (1 : Int32).toInt = 1) (by omega) (by omega)
                  refine lv_iinc (v := v1448) (lv' := [(5, .int v1448), (3, .long x1437_3), (2, .int x1437_2), (0, .ref h), (1, .int a)]) hx hb dX12_undo_137 hl (k := 0) rfl (by rw [ev1448]; rfl) (by decide) rfl (fun ls hl => ?_)
                  refine lv_goto (tgt := 43) hx hb dX12_undo_140 (by decide) ?_
                  exact ih1438 v1448 x1437_3 x1437_2 w1437_a_12_73 ⟨by omega, by omega⟩ hw1437_a_12_73 (by omega) _ _ ls hP hD hS (lv_sub hl [0, 1, 2, 3, 4] rfl)
                · have fc1447 := zc_eq ev1446 (rfl : (w1445).toInt = _) (by decide : (1 : Int64).toInt = 1) c1447
                  refine lv_lload_n hx hb dX12_undo_78 rfl (lv_at hl 1 rfl) ?_
                  refine lv_lconst (v := 1) hx hb dX12_undo_79 (by decide) ?_
                  refine lv_iload hx hb dX12_undo_80 (lv_at hl 0 rfl) ?_
                  obtain ⟨w1449, ew1449⟩ : ∃ y : Int64, 1 <<< ((x1437_5 : Int32).toInt64 &&& 63) = y := ⟨_, rfl⟩
                  refine lv_lshl (v := w1449) hx hb dX12_undo_82 ew1449 ?_
                  refine lv_lor hx hb dX12_undo_83 ?_
                  refine lv_topl (fun w1450 ew1450 => ?_)
                  refine lv_lstore_n (lv' := [(3, .long w1450), (5, .int x1437_5), (2, .int x1437_2), (0, .ref h), (1, .int a)]) hx hb dX12_undo_84 rfl hl (by decide) rfl (fun ls hl => ?_)
                  refine lv_iload_n hx hb dX12_undo_85 rfl (lv_at hl 2 rfl) ?_
                  refine lv_aload_n hx hb dX12_undo_86 rfl (lv_at hl 3 rfl) ?_
                  refine gM_12_73 hx hb ht hown hK hP m_1212 dX12_undo_87 ?_
                  refine lv_iload hx hb dX12_undo_90 (lv_at hl 1 rfl) ?_
                  refine lM_12_73 hx hb hK hP (f := w1437_a_12_73) rfl (vp_in_iff.mpr ⟨by omega, by omega⟩) dX12_undo_92 ?_
                  refine lv_topi (fun v1451 ev1451 => ?_)
                  refine lv_if_ge (tgt := 100) hx hb dX12_undo_93 (by decide) (fun c1452 => ?_) (fun c1452 => ?_)
                  · have fc1452 := z_le (by decide : (0 : Int32).toInt = 0) (rfl : (v1451).toInt = _) c1452
                    refine lv_iconst (v := 0) hx hb dX12_undo_100 (by decide) ?_
                    refine vp_callSi (W.runS (As := [.int 0]) (rest := [.int x1437_2]) ⟨hx, hb, hml, hown, ht⟩ (c_X12_bit l dC dI 0 ⟨by decide, by decide⟩) (kS 1 ht m_1396 m_1397 m_89 m_1398 rfl rfl hd_X12_bit_v ⟨Nat.le_of_ble_eq_true rfl, Nat.le_of_ble_eq_true rfl⟩) (sR noP (hK.sub (tys' := []) [] rfl)) rfl rfl hl.1 rfl (lv_room (Nat.le_of_ble_eq_true rfl)) dX12_undo_101 ⟨Nat.le_of_ble_eq_true rfl, Nat.le_of_ble_eq_true rfl⟩) (fun r1453 hr1453 => ?_)
                    refine lv_iadd hx hb dX12_undo_104 ?_
                    refine lv_topi (fun v1454 ev1454 => ?_)
                    refine lv_istore_n (lv' := [(2, .int v1454), (3, .long w1450), (5, .int x1437_5), (0, .ref h), (1, .int a)]) hx hb dX12_undo_105 rfl hl (by decide) rfl (fun ls hl => ?_)
                    refine lv_aload_n hx hb dX12_undo_106 rfl (lv_at hl 3 rfl) ?_
                    refine gM_12_73 hx hb ht hown hK hP m_1212 dX12_undo_107 ?_
                    refine lv_iload hx hb dX12_undo_110 (lv_at hl 2 rfl) ?_
                    refine lv_aload_n hx hb dX12_undo_112 rfl (lv_at hl 3 rfl) ?_
                    refine gM_12_73 hx hb ht hown hK hP m_1212 dX12_undo_113 ?_
                    refine lv_iload hx hb dX12_undo_116 (lv_at hl 2 rfl) ?_
                    refine lM_12_73 hx hb hK hP (f := w1437_a_12_73) rfl (vp_in_iff.mpr ⟨by omega, by omega⟩) dX12_undo_118 ?_
                    refine lv_topi (fun v1455 ev1455 => ?_)
                    obtain rfl : v1451 = v1455 := ev1451.trans ev1455.symm
                    refine lv_if_ge (tgt := 129) hx hb dX12_undo_119 (by decide) (fun c1456 => ?_) (fun c1456 => ?_)
                    · skip
                      refine lv_aload_n hx hb dX12_undo_129 rfl (lv_at hl 3 rfl) ?_
                      refine gM_12_73 hx hb ht hown hK hP m_1212 dX12_undo_130 ?_
                      refine lv_iload hx hb dX12_undo_133 (lv_at hl 2 rfl) ?_
                      refine lM_12_73 hx hb hK hP (f := w1437_a_12_73) rfl (vp_in_iff.mpr ⟨by omega, by omega⟩) dX12_undo_135 ?_
                      refine lv_topi (fun v1457 ev1457 => ?_)
                      obtain rfl : v1451 = v1457 := ev1451.trans ev1457.symm
                      refine tM_12_73 hx hb hK hP hD hS (f0 := w1437_a_12_73) rfl (i := x1437_5) (x := v1451) (vp_in_iff.mpr ⟨by omega, by omega⟩) dX12_undo_136 (fun f1458 ef1458 H locs hP hD hS => ?_)
                      have hf1458 : ∀ j, inb (bA 12 73 j) (f1458 j) := fun j => full_i _
                      have hP : va_P (dC, dI) classes (WM h g ca iv lv (u2 fa 12 73 f1458) la) H := hP
                      have hD : va_D A (WM h g ca iv lv (u2 fa 12 73 f1458) la) := hD
                      obtain ⟨v1459, ev1459⟩ : ∃ y : Int32, y = x1437_5 + 1 := ⟨_, rfl⟩
                      have tv1459 := z_add ev1459 rfl (by decide : (1 : Int32).toInt = 1) (by omega) (by omega)
                      refine lv_iinc (v := v1459) (lv' := [(5, .int v1459), (2, .int v1454), (3, .long w1450), (0, .ref h), (1, .int a)]) hx hb dX12_undo_137 hl (k := 2) rfl (by rw [ev1459]; rfl) (by decide) rfl (fun ls hl => ?_)
                      refine lv_goto (tgt := 43) hx hb dX12_undo_140 (by decide) ?_
                      exact ih1438 v1459 w1450 v1454 f1458 ⟨by omega, by omega⟩ hf1458 (by omega) _ _ ls hP hD hS (lv_sub hl [0, 2, 1, 3, 4] rfl)
                    · have fc1456 := z_nle (by decide : (0 : Int32).toInt = 0) (rfl : (v1451).toInt = _) c1456; exfalso; omega
                  · have fc1452 := z_nle (by decide : (0 : Int32).toInt = 0) (rfl : (v1451).toInt = _) c1452
                    refine lv_iconst (v := 1) hx hb dX12_undo_96 (by decide) ?_
                    refine lv_goto (tgt := 101) hx hb dX12_undo_97 (by decide) ?_
                    refine vp_callSi (W.runS (As := [.int 1]) (rest := [.int x1437_2]) ⟨hx, hb, hml, hown, ht⟩ (c_X12_bit l dC dI 1 ⟨by decide, by decide⟩) (kS 1 ht m_1396 m_1397 m_89 m_1398 rfl rfl hd_X12_bit_v ⟨Nat.le_of_ble_eq_true rfl, Nat.le_of_ble_eq_true rfl⟩) (sR noP (hK.sub (tys' := []) [] rfl)) rfl rfl hl.1 rfl (lv_room (Nat.le_of_ble_eq_true rfl)) dX12_undo_101 ⟨Nat.le_of_ble_eq_true rfl, Nat.le_of_ble_eq_true rfl⟩) (fun r1460 hr1460 => ?_)
                    refine lv_iadd hx hb dX12_undo_104 ?_
                    refine lv_topi (fun v1461 ev1461 => ?_)
                    refine lv_istore_n (lv' := [(2, .int v1461), (3, .long w1450), (5, .int x1437_5), (0, .ref h), (1, .int a)]) hx hb dX12_undo_105 rfl hl (by decide) rfl (fun ls hl => ?_)
                    refine lv_aload_n hx hb dX12_undo_106 rfl (lv_at hl 3 rfl) ?_
                    refine gM_12_73 hx hb ht hown hK hP m_1212 dX12_undo_107 ?_
                    refine lv_iload hx hb dX12_undo_110 (lv_at hl 2 rfl) ?_
                    refine lv_aload_n hx hb dX12_undo_112 rfl (lv_at hl 3 rfl) ?_
                    refine gM_12_73 hx hb ht hown hK hP m_1212 dX12_undo_113 ?_
                    refine lv_iload hx hb dX12_undo_116 (lv_at hl 2 rfl) ?_
                    refine lM_12_73 hx hb hK hP (f := w1437_a_12_73) rfl (vp_in_iff.mpr ⟨by omega, by omega⟩) dX12_undo_118 ?_
                    refine lv_topi (fun v1462 ev1462 => ?_)
                    obtain rfl : v1451 = v1462 := ev1451.trans ev1462.symm
                    refine lv_if_ge (tgt := 129) hx hb dX12_undo_119 (by decide) (fun c1463 => ?_) (fun c1463 => ?_)
                    · have fc1463 := z_le (by decide : (0 : Int32).toInt = 0) (rfl : (v1451).toInt = _) c1463; exfalso; omega
                    · skip
                      refine lv_aload_n hx hb dX12_undo_122 rfl (lv_at hl 3 rfl) ?_
                      refine gM_12_0 hx hb ht hown hK hP m_1139 (v := (iv 12 0)) rfl dX12_undo_123 ?_
                      refine lv_goto (tgt := 136) hx hb dX12_undo_126 (by decide) ?_
                      refine tM_12_73 hx hb hK hP hD hS (f0 := w1437_a_12_73) rfl (i := x1437_5) (x := (iv 12 0)) (vp_in_iff.mpr ⟨by omega, by omega⟩) dX12_undo_136 (fun f1464 ef1464 H locs hP hD hS => ?_)
                      have hf1464 : ∀ j, inb (bA 12 73 j) (f1464 j) := fun j => full_i _
                      have hP : va_P (dC, dI) classes (WM h g ca iv lv (u2 fa 12 73 f1464) la) H := hP
                      have hD : va_D A (WM h g ca iv lv (u2 fa 12 73 f1464) la) := hD
                      obtain ⟨v1465, ev1465⟩ : ∃ y : Int32, y = x1437_5 + 1 := ⟨_, rfl⟩
                      have tv1465 := z_add ev1465 rfl (by decide : (1 : Int32).toInt = 1) (by omega) (by omega)
                      refine lv_iinc (v := v1465) (lv' := [(5, .int v1465), (2, .int v1461), (3, .long w1450), (0, .ref h), (1, .int a)]) hx hb dX12_undo_137 hl (k := 2) rfl (by rw [ev1465]; rfl) (by decide) rfl (fun ls hl => ?_)
                      refine lv_goto (tgt := 43) hx hb dX12_undo_140 (by decide) ?_
                      exact ih1438 v1465 w1450 v1461 f1464 ⟨by omega, by omega⟩ hf1464 (by omega) _ _ ls hP hD hS (lv_sub hl [0, 2, 1, 3, 4] rfl)
        exact lp1438 40 v8 w7 1 f6 ⟨by omega, by omega⟩ hf6 (by first | decide | omega) _ _ ls hP hD hS (lv_sub hl [0, 1, 2, 3, 4] rfl)
      · have fc5 := z_eq (rfl : (r4).toInt = _) (by decide : (0 : Int32).toInt = 0) c5
        refine lv_ldc hx hb hown (ht _ m_1374) dX12_undo_19 ?_
        have hP9 : va_P (dC, dI) classes (WM h g ca iv lv (u2 fa 12 73 (fa 12 73)) la) s.heap := hP
        have hD9 : va_D A (WM h g ca iv lv (u2 fa 12 73 (fa 12 73)) la) := hD
        exact W.iret (v := (-100003)) hx hb hr (fun t ht9 hW => ⟨⟨(-100003), (iv, lv, (u2 fa 12 73 (fa 12 73)), la), rfl, ⟨(fa 12 73), trivial, rfl⟩, by rw [ht9]; exact hP9, hD9⟩, hS.F ht9⟩) hS.2.2 dX12_undo_21
    · exact absurd rfl c3
set_option maxHeartbeats 4000000 in
set_option maxRecDepth 100000 in
/-- X12_paper -/
theorem c_X12_paper (l : Launch) (dC : Nat → ClassId) (dI : Nat → Nat → Nat) (h : Nat) (g : Nat → Nat → Nat) (ca : Nat → Nat → ClassId) (iv : Nat → Nat → Int32) (lv : Nat → Nat → Int64) (fa : Nat → Nat → Nat → Int32) (la : Nat → Nat → Nat → Int64) (hI : IX iv fa) (a : Int32) (b : Int32) : Met l yX12_paper (wc yX12_paper cX12_paper 5 (some .int)) ({ frames := 2, cells := 0, slots := 0, locals := 46 } : Room) (pR (dC, dI) classes (WM h g ca iv lv fa la) (TM ca) [.ref h, .int a, .int b]) (vp_Si (fun r => True)) 0 0 (fun _ => False) := by
  refine Met.ofW (cc := cX12_paper) (maxL := 5) (ret := (some .int)) (by decide) rfl ?_
  intro p e s m args below meth c s₁ B hml hv
  obtain ⟨rfl, hP, hK⟩ := hv
  have hx := B.exec
  have hb := B.bytes
  have hr := B.returns
  have ht := tb_tl (atoms_spec (ws := wc yX12_paper cX12_paper 5 (some .int)) B.pre)
  have hown : s.vm.findClass RX12 = some m.cls := findClass_of_methodNamed B.named
  have hlocks := B.notSynchronized
  have hl := lv_entry [.ref h, .int a, .int b] (n := 5) (Nat.le_of_ble_eq_true rfl)
  rw [lg_entry_eq]
  generalize (lg_sl [.ref h, .int a, .int b] ++ List.replicate (5 - (lg_sl [.ref h, .int a, .int b]).length) Slot.unset).toArray = ls at hl ⊢
  have hl : lv_has ls 5 [(0, .ref h), (1, .int a), (2, .int b)] := hl
  refine lv_aload_n hx hb dX12_paper_0 rfl (lv_at hl 0 rfl) ?_
  refine lv_iload_n hx hb dX12_paper_1 rfl (lv_at hl 1 rfl) ?_
  refine vp_callSi (W.runV (As := [.int a]) (rest := []) ⟨hx, hb, hml, hown, ht⟩ (c_X12_noPaper l dC dI h g ca iv lv fa la hI a) (kV 1 ht m_1684 m_1686 m_73 m_89 m_1687 rfl rfl hd_X12_noPaper_v ⟨Nat.le_of_ble_eq_true rfl, Nat.le_of_ble_eq_true rfl⟩) (vR hP hK (rM_12 hK hP)) rfl rfl hl.1 rfl (lv_room (Nat.le_of_ble_eq_true rfl)) dX12_paper_2 ⟨Nat.le_of_ble_eq_true rfl, Nat.le_of_ble_eq_true rfl⟩) (fun r1 hr1 => ?_)
  rcases hr1 with ⟨rfl, fr1⟩ | ⟨rfl, fr1⟩
  · skip
    have i_12_67 : 0 ≤ (iv 12 67).toInt ∧ (iv 12 67).toInt ≤ 40 := hI.1 12 67
    have fr1 : ¬ (0 ≤ (a : Int32).toInt ∧ (a : Int32).toInt < ((iv 12 67) : Int32).toInt) := fr1
    refine lv_if_eq (tgt := 11) hx hb dX12_paper_5 (by decide) (fun c2 => ?_) (fun c2 => ?_)
    · exact absurd c2 (by decide)
    · skip
      refine lv_ldc hx hb hown (ht _ m_1389) dX12_paper_8 ?_
      exact W.iret (v := (-100001)) hx hb hr (fun t ht9 hW => ⟨(-100001), rfl, trivial, ht9⟩) (fun q hq => by cases hq) dX12_paper_10
  · skip
    have i_12_67 : 0 ≤ (iv 12 67).toInt ∧ (iv 12 67).toInt ≤ 40 := hI.1 12 67
    have fr1 : (0 ≤ (a : Int32).toInt ∧ (a : Int32).toInt < ((iv 12 67) : Int32).toInt) := Decidable.not_not.mp fr1
    refine lv_if_eq (tgt := 11) hx hb dX12_paper_5 (by decide) (fun c3 => ?_) (fun c3 => ?_)
    · skip
      refine lv_iconst (v := 0) hx hb dX12_paper_11 (by decide) ?_
      refine lv_istore_n (lv' := [(3, .int 0), (0, .ref h), (1, .int a), (2, .int b)]) hx hb dX12_paper_12 rfl hl (by decide) rfl (fun ls hl => ?_)
      refine lv_iconst (v := 0) hx hb dX12_paper_13 (by decide) ?_
      refine lv_istore (lv' := [(4, .int 0), (3, .int 0), (0, .ref h), (1, .int a), (2, .int b)]) hx hb dX12_paper_14 hl (by decide) rfl (fun ls hl => ?_)
      have lp941 : ∀ (nn941 : Nat) (x940_4 : Int32) (x940_3 : Int32), 0 ≤ x940_4.toInt ∧ x940_4.toInt ≤ 40 → 40 - x940_4.toInt < (nn941 : Int) → ∀ (ls : Array Slot), lv_has ls 5 [(4, .int x940_4), (3, .int x940_3), (0, .ref h), (1, .int a), (2, .int b)] → W p l e ({ frames := 2, cells := 0, slots := 0, locals := 46 } : Room) s m ([.ref h, .int a, .int b] : List Value).toArray below meth c s.heap [] 0 0 (MQ below (vp_Si (fun r => True)) ([.ref h, .int a, .int b] : List Value).toArray s 0 0 (fun _ => False)) (F0 m 16 ls []) := by
        intro nn941
        induction nn941 with
        | zero => intro x940_4 x940_3 hx940_4 hm941; exfalso; omega
        | succ nn941 ih941 =>
          intro x940_4 x940_3 hx940_4 hm941 ls hl
          refine lv_iload hx hb dX12_paper_16 (lv_at hl 0 rfl) ?_
          refine lv_aload_n hx hb dX12_paper_18 rfl (lv_at hl 2 rfl) ?_
          refine gM_12_67 hx hb ht hown hK hP m_1206 (v := (iv 12 67)) rfl dX12_paper_19 ?_
          refine lv_icmp_ge (tgt := 53) hx hb dX12_paper_22 (by decide) (fun c942 => ?_) (fun c942 => ?_)
          · have fc942 := z_le (rfl : ((iv 12 67)).toInt = _) (rfl : (x940_4).toInt = _) c942
            refine lv_iload_n hx hb dX12_paper_53 rfl (lv_at hl 4 rfl) ?_
            rcases sw_0_6 b with h943 | rfl | rfl | rfl | rfl | rfl | rfl | rfl
            · refine lv_tableOut (tgt := 141) hx hb dX12_paper_54 h943 (by decide) ?_
              refine lv_ldc hx hb hown (ht _ m_1373) dX12_paper_141 ?_
              exact W.iret (v := (-100002)) hx hb hr (fun t ht9 hW => ⟨(-100002), rfl, trivial, ht9⟩) (fun q hq => by cases hq) dX12_paper_143
            · refine lv_tableIn (tgt := 96) (off := 42) hx hb dX12_paper_54 (by decide) (by decide) rfl (by decide) ?_
              refine lv_aload_n hx hb dX12_paper_96 rfl (lv_at hl 2 rfl) ?_
              refine gM_12_68 hx hb ht hown hK hP m_1207 dX12_paper_97 ?_
              refine lv_iload_n hx hb dX12_paper_100 rfl (lv_at hl 3 rfl) ?_
              refine lM_12_68 hx hb hK hP (f := (fa 12 68)) rfl (vp_in_iff.mpr ⟨by omega, by omega⟩) dX12_paper_101 ?_
              refine lv_topi (fun v944 ev944 => ?_)
              exact W.iret (v := v944) hx hb hr (fun t ht9 hW => ⟨v944, rfl, trivial, ht9⟩) (fun q hq => by cases hq) dX12_paper_102
            · refine lv_tableIn (tgt := 103) (off := 49) hx hb dX12_paper_54 (by decide) (by decide) rfl (by decide) ?_
              refine lv_aload_n hx hb dX12_paper_103 rfl (lv_at hl 2 rfl) ?_
              refine gM_12_69 hx hb ht hown hK hP m_1208 dX12_paper_104 ?_
              refine lv_iload_n hx hb dX12_paper_107 rfl (lv_at hl 3 rfl) ?_
              refine lM_12_69 hx hb hK hP (f := (fa 12 69)) rfl (vp_in_iff.mpr ⟨by omega, by omega⟩) dX12_paper_108 ?_
              refine lv_topi (fun v945 ev945 => ?_)
              exact W.iret (v := v945) hx hb hr (fun t ht9 hW => ⟨v945, rfl, trivial, ht9⟩) (fun q hq => by cases hq) dX12_paper_109
            · refine lv_tableIn (tgt := 110) (off := 56) hx hb dX12_paper_54 (by decide) (by decide) rfl (by decide) ?_
              refine lv_aload_n hx hb dX12_paper_110 rfl (lv_at hl 2 rfl) ?_
              refine gM_12_70 hx hb ht hown hK hP m_1209 dX12_paper_111 ?_
              refine lv_iload_n hx hb dX12_paper_114 rfl (lv_at hl 3 rfl) ?_
              refine lM_12_70 hx hb hK hP (f := (la 12 70)) rfl (vp_in_iff.mpr ⟨by omega, by omega⟩) dX12_paper_115 ?_
              refine lv_topl (fun w946 ew946 => ?_)
              obtain ⟨v947, ev947⟩ : ∃ y : Int32, w946.toInt32 = y := ⟨_, rfl⟩
              refine lv_l2i (v := v947) hx hb dX12_paper_116 ev947 ?_
              exact W.iret (v := v947) hx hb hr (fun t ht9 hW => ⟨v947, rfl, trivial, ht9⟩) (fun q hq => by cases hq) dX12_paper_117
            · refine lv_tableIn (tgt := 118) (off := 64) hx hb dX12_paper_54 (by decide) (by decide) rfl (by decide) ?_
              refine lv_aload_n hx hb dX12_paper_118 rfl (lv_at hl 2 rfl) ?_
              refine gM_12_71 hx hb ht hown hK hP m_1210 dX12_paper_119 ?_
              refine lv_iload_n hx hb dX12_paper_122 rfl (lv_at hl 3 rfl) ?_
              refine lM_12_71 hx hb hK hP (f := (fa 12 71)) rfl (vp_in_iff.mpr ⟨by omega, by omega⟩) dX12_paper_123 ?_
              refine lv_topi (fun v948 ev948 => ?_)
              have tv948 : (-1) ≤ v948.toInt ∧ v948.toInt ≤ 39 := by rw [ev948]; exact hI.2 12 71 _
              exact W.iret (v := v948) hx hb hr (fun t ht9 hW => ⟨v948, rfl, trivial, ht9⟩) (fun q hq => by cases hq) dX12_paper_124
            · refine lv_tableIn (tgt := 125) (off := 71) hx hb dX12_paper_54 (by decide) (by decide) rfl (by decide) ?_
              refine lv_aload_n hx hb dX12_paper_125 rfl (lv_at hl 2 rfl) ?_
              refine gM_12_72 hx hb ht hown hK hP m_1211 dX12_paper_126 ?_
              refine lv_iload_n hx hb dX12_paper_129 rfl (lv_at hl 3 rfl) ?_
              refine lM_12_72 hx hb hK hP (f := (fa 12 72)) rfl (vp_in_iff.mpr ⟨by omega, by omega⟩) dX12_paper_130 ?_
              refine lv_topi (fun v949 ev949 => ?_)
              exact W.iret (v := v949) hx hb hr (fun t ht9 hW => ⟨v949, rfl, trivial, ht9⟩) (fun q hq => by cases hq) dX12_paper_131
            · refine lv_tableIn (tgt := 132) (off := 78) hx hb dX12_paper_54 (by decide) (by decide) rfl (by decide) ?_
              refine lv_aload_n hx hb dX12_paper_132 rfl (lv_at hl 2 rfl) ?_
              refine gM_12_73 hx hb ht hown hK hP m_1212 dX12_paper_133 ?_
              refine lv_iload_n hx hb dX12_paper_136 rfl (lv_at hl 3 rfl) ?_
              refine lM_12_73 hx hb hK hP (f := (fa 12 73)) rfl (vp_in_iff.mpr ⟨by omega, by omega⟩) dX12_paper_137 ?_
              refine lv_topi (fun v950 ev950 => ?_)
              exact W.iret (v := v950) hx hb hr (fun t ht9 hW => ⟨v950, rfl, trivial, ht9⟩) (fun q hq => by cases hq) dX12_paper_138
            · refine lv_tableIn (tgt := 139) (off := 85) hx hb dX12_paper_54 (by decide) (by decide) rfl (by decide) ?_
              refine lv_iload_n hx hb dX12_paper_139 rfl (lv_at hl 1 rfl) ?_
              exact W.iret (v := x940_3) hx hb hr (fun t ht9 hW => ⟨x940_3, rfl, trivial, ht9⟩) (fun q hq => by cases hq) dX12_paper_140
          · have fc942 := z_nle (rfl : ((iv 12 67)).toInt = _) (rfl : (x940_4).toInt = _) c942
            refine lv_iload_n hx hb dX12_paper_25 rfl (lv_at hl 1 rfl) ?_
            refine lv_aload_n hx hb dX12_paper_26 rfl (lv_at hl 2 rfl) ?_
            refine gM_12_71 hx hb ht hown hK hP m_1210 dX12_paper_27 ?_
            refine lv_iload hx hb dX12_paper_30 (lv_at hl 0 rfl) ?_
            refine lM_12_71 hx hb hK hP (f := (fa 12 71)) rfl (vp_in_iff.mpr ⟨by omega, by omega⟩) dX12_paper_32 ?_
            refine lv_topi (fun v951 ev951 => ?_)
            have tv951 : (-1) ≤ v951.toInt ∧ v951.toInt ≤ 39 := by rw [ev951]; exact hI.2 12 71 _
            refine lv_iload_n hx hb dX12_paper_33 rfl (lv_at hl 3 rfl) ?_
            refine lv_icmp_ne (tgt := 41) hx hb dX12_paper_34 (by decide) (fun c952 => ?_) (fun c952 => ?_)
            · have fc952 := z_ne (rfl : (v951).toInt = _) (rfl : (a).toInt = _) c952
              refine lv_iconst (v := 0) hx hb dX12_paper_41 (by decide) ?_
              refine vp_callSi (W.runS (As := [.int 0]) (rest := [.int x940_3]) ⟨hx, hb, hml, hown, ht⟩ (c_X12_bit l dC dI 0 ⟨by decide, by decide⟩) (kS 1 ht m_1396 m_1397 m_89 m_1398 rfl rfl hd_X12_bit_v ⟨Nat.le_of_ble_eq_true rfl, Nat.le_of_ble_eq_true rfl⟩) (sR noP (hK.sub (tys' := []) [] rfl)) rfl rfl hl.1 rfl (lv_room (Nat.le_of_ble_eq_true rfl)) dX12_paper_42 ⟨Nat.le_of_ble_eq_true rfl, Nat.le_of_ble_eq_true rfl⟩) (fun r953 hr953 => ?_)
              refine lv_iadd hx hb dX12_paper_45 ?_
              refine lv_topi (fun v954 ev954 => ?_)
              refine lv_istore_n (lv' := [(3, .int v954), (4, .int x940_4), (0, .ref h), (1, .int a), (2, .int b)]) hx hb dX12_paper_46 rfl hl (by decide) rfl (fun ls hl => ?_)
              obtain ⟨v955, ev955⟩ : ∃ y : Int32, y = x940_4 + 1 := ⟨_, rfl⟩
              have tv955 := z_add ev955 rfl (by decide : (1 : Int32).toInt = 1) (by omega) (by omega)
              refine lv_iinc (v := v955) (lv' := [(4, .int v955), (3, .int v954), (0, .ref h), (1, .int a), (2, .int b)]) hx hb dX12_paper_47 hl (k := 1) rfl (by rw [ev955]; rfl) (by decide) rfl (fun ls hl => ?_)
              refine lv_goto (tgt := 16) hx hb dX12_paper_50 (by decide) ?_
              exact ih941 v955 v954 ⟨by omega, by omega⟩ (by omega) ls (lv_sub hl [0, 1, 2, 3, 4] rfl)
            · have fc952 := z_eq (rfl : (v951).toInt = _) (rfl : (a).toInt = _) c952
              refine lv_iconst (v := 1) hx hb dX12_paper_37 (by decide) ?_
              refine lv_goto (tgt := 42) hx hb dX12_paper_38 (by decide) ?_
              refine vp_callSi (W.runS (As := [.int 1]) (rest := [.int x940_3]) ⟨hx, hb, hml, hown, ht⟩ (c_X12_bit l dC dI 1 ⟨by decide, by decide⟩) (kS 1 ht m_1396 m_1397 m_89 m_1398 rfl rfl hd_X12_bit_v ⟨Nat.le_of_ble_eq_true rfl, Nat.le_of_ble_eq_true rfl⟩) (sR noP (hK.sub (tys' := []) [] rfl)) rfl rfl hl.1 rfl (lv_room (Nat.le_of_ble_eq_true rfl)) dX12_paper_42 ⟨Nat.le_of_ble_eq_true rfl, Nat.le_of_ble_eq_true rfl⟩) (fun r956 hr956 => ?_)
              refine lv_iadd hx hb dX12_paper_45 ?_
              refine lv_topi (fun v957 ev957 => ?_)
              refine lv_istore_n (lv' := [(3, .int v957), (4, .int x940_4), (0, .ref h), (1, .int a), (2, .int b)]) hx hb dX12_paper_46 rfl hl (by decide) rfl (fun ls hl => ?_)
              obtain ⟨v958, ev958⟩ : ∃ y : Int32, y = x940_4 + 1 := ⟨_, rfl⟩
              have tv958 := z_add ev958 rfl (by decide : (1 : Int32).toInt = 1) (by omega) (by omega)
              refine lv_iinc (v := v958) (lv' := [(4, .int v958), (3, .int v957), (0, .ref h), (1, .int a), (2, .int b)]) hx hb dX12_paper_47 hl (k := 1) rfl (by rw [ev958]; rfl) (by decide) rfl (fun ls hl => ?_)
              refine lv_goto (tgt := 16) hx hb dX12_paper_50 (by decide) ?_
              exact ih941 v958 v957 ⟨by omega, by omega⟩ (by omega) ls (lv_sub hl [0, 1, 2, 3, 4] rfl)
      exact lp941 41 0 0 ⟨by decide, by decide⟩ (by first | decide | omega) ls (lv_sub hl [0, 1, 2, 3, 4] rfl)
    · exact absurd rfl c3
set_option maxHeartbeats 4000000 in
set_option maxRecDepth 100000 in
/-- X12_stood -/
theorem c_X12_stood (l : Launch) (dC : Nat → ClassId) (dI : Nat → Nat → Nat) (h : Nat) (g : Nat → Nat → Nat) (ca : Nat → Nat → ClassId) (iv : Nat → Nat → Int32) (lv : Nat → Nat → Int64) (fa : Nat → Nat → Nat → Int32) (la : Nat → Nat → Nat → Int64) (hI : IX iv fa) (a : Int32) (b : Int32) : Met l yX12_stood (wc yX12_stood cX12_stood 7 (some .long)) ({ frames := 2, cells := 0, slots := 0, locals := 46 } : Room) (pR (dC, dI) classes (WM h g ca iv lv fa la) (TM ca) [.ref h, .int a, .int b]) (vp_Sl (fun r => True)) 0 0 (fun _ => False) := by
  refine Met.ofW (cc := cX12_stood) (maxL := 7) (ret := (some .long)) (by decide) rfl ?_
  intro p e s m args below meth c s₁ B hml hv
  obtain ⟨rfl, hP, hK⟩ := hv
  have hx := B.exec
  have hb := B.bytes
  have hr := B.returns
  have ht := tb_tl (atoms_spec (ws := wc yX12_stood cX12_stood 7 (some .long)) B.pre)
  have hown : s.vm.findClass RX12 = some m.cls := findClass_of_methodNamed B.named
  have hlocks := B.notSynchronized
  have hl := lv_entry [.ref h, .int a, .int b] (n := 7) (Nat.le_of_ble_eq_true rfl)
  rw [lg_entry_eq]
  generalize (lg_sl [.ref h, .int a, .int b] ++ List.replicate (7 - (lg_sl [.ref h, .int a, .int b]).length) Slot.unset).toArray = ls at hl ⊢
  have hl : lv_has ls 7 [(0, .ref h), (1, .int a), (2, .int b)] := hl
  refine lv_aload_n hx hb dX12_stood_0 rfl (lv_at hl 0 rfl) ?_
  refine lv_iload_n hx hb dX12_stood_1 rfl (lv_at hl 1 rfl) ?_
  refine vp_callSi (W.runV (As := [.int a]) (rest := []) ⟨hx, hb, hml, hown, ht⟩ (c_X12_isPast l dC dI h g ca iv lv fa la hI a) (kV 1 ht m_1528 m_1530 m_57 m_89 m_1531 rfl rfl hd_X12_isPast_v ⟨Nat.le_of_ble_eq_true rfl, Nat.le_of_ble_eq_true rfl⟩) (vR hP hK (rM_12 hK hP)) rfl rfl hl.1 rfl (lv_room (Nat.le_of_ble_eq_true rfl)) dX12_stood_2 ⟨Nat.le_of_ble_eq_true rfl, Nat.le_of_ble_eq_true rfl⟩) (fun r1 hr1 => ?_)
  rcases hr1 with ⟨rfl, fr1⟩ | ⟨rfl, fr1⟩
  · skip
    refine lv_if_eq (tgt := 18) hx hb dX12_stood_5 (by decide) (fun c2 => ?_) (fun c2 => ?_)
    · exact absurd c2 (by decide)
    · skip
      refine lv_iload_n hx hb dX12_stood_8 rfl (lv_at hl 2 rfl) ?_
      refine lv_i2l (v := (b.toInt64)) hx hb dX12_stood_9 rfl ?_
      refine lv_lconst (v := 0) hx hb dX12_stood_10 (by decide) ?_
      refine lv_lconst (v := 1) hx hb dX12_stood_11 (by decide) ?_
      refine vp_callSi (W.runS (As := [.long (b.toInt64), .long 0, .long 1]) (rest := []) ⟨hx, hb, hml, hown, ht⟩ (c_X12_in l dC dI (b.toInt64) 0 1 (b.toInt) (0) (1) ((Int32.toInt_toInt64 b).trans rfl) (by decide : (0 : Int64).toInt = 0) (by decide : (1 : Int64).toInt = 1)) (kS 3 ht m_1370 m_1371 m_89 m_1372 rfl rfl hd_X12_in_v ⟨Nat.le_of_ble_eq_true rfl, Nat.le_of_ble_eq_true rfl⟩) (sR noP (hK.sub (tys' := []) [] rfl)) rfl rfl hl.1 rfl (lv_room (Nat.le_of_ble_eq_true rfl)) dX12_stood_12 ⟨Nat.le_of_ble_eq_true rfl, Nat.le_of_ble_eq_true rfl⟩) (fun r3 hr3 => ?_)
      rcases hr3 with ⟨rfl, fr3⟩ | ⟨rfl, fr3⟩
      · skip
        refine lv_if_ne (tgt := 22) hx hb dX12_stood_15 (by decide) (fun c4 => ?_) (fun c4 => ?_)
        · skip
          refine lv_lconst (v := 0) hx hb dX12_stood_22 (by decide) ?_
          refine lv_lstore_n (lv' := [(3, .long 0), (0, .ref h), (1, .int a), (2, .int b)]) hx hb dX12_stood_23 rfl hl (by decide) rfl (fun ls hl => ?_)
          refine lv_iconst (v := 0) hx hb dX12_stood_24 (by decide) ?_
          refine lv_istore (lv' := [(5, .int 0), (3, .long 0), (0, .ref h), (1, .int a), (2, .int b)]) hx hb dX12_stood_25 hl (by decide) rfl (fun ls hl => ?_)
          have lp614 : ∀ (nn614 : Nat) (x613_5 : Int32) (x613_3 : Int64), 0 ≤ x613_5.toInt ∧ x613_5.toInt ≤ 40 → 40 - x613_5.toInt < (nn614 : Int) → ∀ (ls : Array Slot), lv_has ls 7 [(5, .int x613_5), (3, .long x613_3), (0, .ref h), (1, .int a), (2, .int b)] → W p l e ({ frames := 2, cells := 0, slots := 0, locals := 46 } : Room) s m ([.ref h, .int a, .int b] : List Value).toArray below meth c s.heap [] 0 0 (MQ below (vp_Sl (fun r => True)) ([.ref h, .int a, .int b] : List Value).toArray s 0 0 (fun _ => False)) (F0 m 27 ls []) := by
            intro nn614
            induction nn614 with
            | zero => intro x613_5 x613_3 hx613_5 hm614; exfalso; omega
            | succ nn614 ih614 =>
              intro x613_5 x613_3 hx613_5 hm614 ls hl
              refine lv_iload hx hb dX12_stood_27 (lv_at hl 0 rfl) ?_
              refine lv_aload_n hx hb dX12_stood_29 rfl (lv_at hl 2 rfl) ?_
              have i_12_67 : 0 ≤ (iv 12 67).toInt ∧ (iv 12 67).toInt ≤ 40 := hI.1 12 67
              refine gM_12_67 hx hb ht hown hK hP m_1206 (v := (iv 12 67)) rfl dX12_stood_30 ?_
              refine lv_icmp_ge (tgt := 113) hx hb dX12_stood_33 (by decide) (fun c615 => ?_) (fun c615 => ?_)
              · have fc615 := z_le (rfl : ((iv 12 67)).toInt = _) (rfl : (x613_5).toInt = _) c615
                refine lv_lload_n hx hb dX12_stood_113 rfl (lv_at hl 1 rfl) ?_
                exact W.lret (v := x613_3) hx hb hr (fun t ht9 hW => ⟨x613_3, rfl, trivial, ht9⟩) (fun q hq => by cases hq) dX12_stood_114
              · have fc615 := z_nle (rfl : ((iv 12 67)).toInt = _) (rfl : (x613_5).toInt = _) c615
                refine lv_aload_n hx hb dX12_stood_36 rfl (lv_at hl 2 rfl) ?_
                refine gM_12_72 hx hb ht hown hK hP m_1211 dX12_stood_37 ?_
                refine lv_iload hx hb dX12_stood_40 (lv_at hl 0 rfl) ?_
                refine lM_12_72 hx hb hK hP (f := (fa 12 72)) rfl (vp_in_iff.mpr ⟨by omega, by omega⟩) dX12_stood_42 ?_
                refine lv_topi (fun v616 ev616 => ?_)
                refine lv_iload_n hx hb dX12_stood_43 rfl (lv_at hl 3 rfl) ?_
                refine lv_icmp_gt (tgt := 72) hx hb dX12_stood_44 (by decide) (fun c617 => ?_) (fun c617 => ?_)
                · have fc617 := z_lt (rfl : (a).toInt = _) (rfl : (v616).toInt = _) c617
                  refine lv_iconst (v := 0) hx hb dX12_stood_72 (by decide) ?_
                  refine lv_istore (lv' := [(6, .int 0), (5, .int x613_5), (3, .long x613_3), (0, .ref h), (1, .int a), (2, .int b)]) hx hb dX12_stood_73 hl (by decide) rfl (fun ls hl => ?_)
                  refine lv_lload_n hx hb dX12_stood_75 rfl (lv_at hl 2 rfl) ?_
                  refine lv_iload hx hb dX12_stood_76 (lv_at hl 0 rfl) ?_
                  refine lv_if_eq (tgt := 104) hx hb dX12_stood_78 (by decide) (fun c618 => ?_) (fun c618 => ?_)
                  · skip
                    refine lv_lconst (v := 0) hx hb dX12_stood_104 (by decide) ?_
                    refine lv_ladd hx hb dX12_stood_105 ?_
                    refine lv_topl (fun w619 ew619 => ?_)
                    refine lv_lstore_n (lv' := [(3, .long w619), (6, .int 0), (5, .int x613_5), (0, .ref h), (1, .int a), (2, .int b)]) hx hb dX12_stood_106 rfl hl (by decide) rfl (fun ls hl => ?_)
                    obtain ⟨v620, ev620⟩ : ∃ y : Int32, y = x613_5 + 1 := ⟨_, rfl⟩
                    have tv620 := z_add ev620 rfl (by decide : (1 : Int32).toInt = 1) (by omega) (by omega)
                    refine lv_iinc (v := v620) (lv' := [(5, .int v620), (3, .long w619), (6, .int 0), (0, .ref h), (1, .int a), (2, .int b)]) hx hb dX12_stood_107 hl (k := 2) rfl (by rw [ev620]; rfl) (by decide) rfl (fun ls hl => ?_)
                    refine lv_goto (tgt := 27) hx hb dX12_stood_110 (by decide) ?_
                    exact ih614 v620 w619 ⟨by omega, by omega⟩ (by omega) ls (lv_sub hl [0, 1, 3, 4, 5] rfl)
                  · exact absurd rfl c618
                · have fc617 := z_nlt (rfl : (a).toInt = _) (rfl : (v616).toInt = _) c617
                  refine lv_aload_n hx hb dX12_stood_47 rfl (lv_at hl 2 rfl) ?_
                  refine gM_12_73 hx hb ht hown hK hP m_1212 dX12_stood_48 ?_
                  refine lv_iload hx hb dX12_stood_51 (lv_at hl 0 rfl) ?_
                  refine lM_12_73 hx hb hK hP (f := (fa 12 73)) rfl (vp_in_iff.mpr ⟨by omega, by omega⟩) dX12_stood_53 ?_
                  refine lv_topi (fun v621 ev621 => ?_)
                  refine lv_if_lt (tgt := 68) hx hb dX12_stood_54 (by decide) (fun c622 => ?_) (fun c622 => ?_)
                  · have fc622 := z_lt (rfl : (v621).toInt = _) (by decide : (0 : Int32).toInt = 0) c622
                    refine lv_iconst (v := 1) hx hb dX12_stood_68 (by decide) ?_
                    refine lv_goto (tgt := 73) hx hb dX12_stood_69 (by decide) ?_
                    refine lv_istore (lv' := [(6, .int 1), (5, .int x613_5), (3, .long x613_3), (0, .ref h), (1, .int a), (2, .int b)]) hx hb dX12_stood_73 hl (by decide) rfl (fun ls hl => ?_)
                    refine lv_lload_n hx hb dX12_stood_75 rfl (lv_at hl 2 rfl) ?_
                    refine lv_iload hx hb dX12_stood_76 (lv_at hl 0 rfl) ?_
                    refine lv_if_eq (tgt := 104) hx hb dX12_stood_78 (by decide) (fun c623 => ?_) (fun c623 => ?_)
                    · exact absurd c623 (by decide)
                    · skip
                      refine lv_aload_n hx hb dX12_stood_81 rfl (lv_at hl 3 rfl) ?_
                      refine gM_12_68 hx hb ht hown hK hP m_1207 dX12_stood_82 ?_
                      refine lv_iload hx hb dX12_stood_85 (lv_at hl 1 rfl) ?_
                      refine lM_12_68 hx hb hK hP (f := (fa 12 68)) rfl (vp_in_iff.mpr ⟨by omega, by omega⟩) dX12_stood_87 ?_
                      refine lv_topi (fun v624 ev624 => ?_)
                      refine lv_iconst (v := 1) hx hb dX12_stood_88 (by decide) ?_
                      refine lv_iload_n hx hb dX12_stood_89 rfl (lv_at hl 5 rfl) ?_
                      refine lv_isub hx hb dX12_stood_90 ?_
                      refine lv_topi (fun v625 ev625 => ?_)
                      have tv625 := z_sub ev625 (by decide : (1 : Int32).toInt = 1) (rfl : (b).toInt = _) (by omega) (by omega)
                      refine lv_icmp_ne (tgt := 104) hx hb dX12_stood_91 (by decide) (fun c626 => ?_) (fun c626 => ?_)
                      · have fc626 := z_ne (rfl : (v624).toInt = _) (rfl : (v625).toInt = _) c626
                        refine lv_lconst (v := 0) hx hb dX12_stood_104 (by decide) ?_
                        refine lv_ladd hx hb dX12_stood_105 ?_
                        refine lv_topl (fun w627 ew627 => ?_)
                        refine lv_lstore_n (lv' := [(3, .long w627), (6, .int 1), (5, .int x613_5), (0, .ref h), (1, .int a), (2, .int b)]) hx hb dX12_stood_106 rfl hl (by decide) rfl (fun ls hl => ?_)
                        obtain ⟨v628, ev628⟩ : ∃ y : Int32, y = x613_5 + 1 := ⟨_, rfl⟩
                        have tv628 := z_add ev628 rfl (by decide : (1 : Int32).toInt = 1) (by omega) (by omega)
                        refine lv_iinc (v := v628) (lv' := [(5, .int v628), (3, .long w627), (6, .int 1), (0, .ref h), (1, .int a), (2, .int b)]) hx hb dX12_stood_107 hl (k := 2) rfl (by rw [ev628]; rfl) (by decide) rfl (fun ls hl => ?_)
                        refine lv_goto (tgt := 27) hx hb dX12_stood_110 (by decide) ?_
                        exact ih614 v628 w627 ⟨by omega, by omega⟩ (by omega) ls (lv_sub hl [0, 1, 3, 4, 5] rfl)
                      · have fc626 := z_eq (rfl : (v624).toInt = _) (rfl : (v625).toInt = _) c626
                        refine lv_aload_n hx hb dX12_stood_94 rfl (lv_at hl 3 rfl) ?_
                        refine gM_12_70 hx hb ht hown hK hP m_1209 dX12_stood_95 ?_
                        refine lv_iload hx hb dX12_stood_98 (lv_at hl 1 rfl) ?_
                        refine lM_12_70 hx hb hK hP (f := (la 12 70)) rfl (vp_in_iff.mpr ⟨by omega, by omega⟩) dX12_stood_100 ?_
                        refine lv_topl (fun w629 ew629 => ?_)
                        refine lv_goto (tgt := 105) hx hb dX12_stood_101 (by decide) ?_
                        refine lv_ladd hx hb dX12_stood_105 ?_
                        refine lv_topl (fun w630 ew630 => ?_)
                        refine lv_lstore_n (lv' := [(3, .long w630), (6, .int 1), (5, .int x613_5), (0, .ref h), (1, .int a), (2, .int b)]) hx hb dX12_stood_106 rfl hl (by decide) rfl (fun ls hl => ?_)
                        obtain ⟨v631, ev631⟩ : ∃ y : Int32, y = x613_5 + 1 := ⟨_, rfl⟩
                        have tv631 := z_add ev631 rfl (by decide : (1 : Int32).toInt = 1) (by omega) (by omega)
                        refine lv_iinc (v := v631) (lv' := [(5, .int v631), (3, .long w630), (6, .int 1), (0, .ref h), (1, .int a), (2, .int b)]) hx hb dX12_stood_107 hl (k := 2) rfl (by rw [ev631]; rfl) (by decide) rfl (fun ls hl => ?_)
                        refine lv_goto (tgt := 27) hx hb dX12_stood_110 (by decide) ?_
                        exact ih614 v631 w630 ⟨by omega, by omega⟩ (by omega) ls (lv_sub hl [0, 1, 3, 4, 5] rfl)
                  · have fc622 := z_nlt (rfl : (v621).toInt = _) (by decide : (0 : Int32).toInt = 0) c622
                    refine lv_aload_n hx hb dX12_stood_57 rfl (lv_at hl 2 rfl) ?_
                    refine gM_12_73 hx hb ht hown hK hP m_1212 dX12_stood_58 ?_
                    refine lv_iload hx hb dX12_stood_61 (lv_at hl 0 rfl) ?_
                    refine lM_12_73 hx hb hK hP (f := (fa 12 73)) rfl (vp_in_iff.mpr ⟨by omega, by omega⟩) dX12_stood_63 ?_
                    refine lv_topi (fun v632 ev632 => ?_)
                    obtain rfl : v621 = v632 := ev621.trans ev632.symm
                    refine lv_iload_n hx hb dX12_stood_64 rfl (lv_at hl 3 rfl) ?_
                    refine lv_icmp_le (tgt := 72) hx hb dX12_stood_65 (by decide) (fun c633 => ?_) (fun c633 => ?_)
                    · have fc633 := z_le (rfl : (v621).toInt = _) (rfl : (a).toInt = _) c633
                      refine lv_iconst (v := 0) hx hb dX12_stood_72 (by decide) ?_
                      refine lv_istore (lv' := [(6, .int 0), (5, .int x613_5), (3, .long x613_3), (0, .ref h), (1, .int a), (2, .int b)]) hx hb dX12_stood_73 hl (by decide) rfl (fun ls hl => ?_)
                      refine lv_lload_n hx hb dX12_stood_75 rfl (lv_at hl 2 rfl) ?_
                      refine lv_iload hx hb dX12_stood_76 (lv_at hl 0 rfl) ?_
                      refine lv_if_eq (tgt := 104) hx hb dX12_stood_78 (by decide) (fun c634 => ?_) (fun c634 => ?_)
                      · skip
                        refine lv_lconst (v := 0) hx hb dX12_stood_104 (by decide) ?_
                        refine lv_ladd hx hb dX12_stood_105 ?_
                        refine lv_topl (fun w635 ew635 => ?_)
                        refine lv_lstore_n (lv' := [(3, .long w635), (6, .int 0), (5, .int x613_5), (0, .ref h), (1, .int a), (2, .int b)]) hx hb dX12_stood_106 rfl hl (by decide) rfl (fun ls hl => ?_)
                        obtain ⟨v636, ev636⟩ : ∃ y : Int32, y = x613_5 + 1 := ⟨_, rfl⟩
                        have tv636 := z_add ev636 rfl (by decide : (1 : Int32).toInt = 1) (by omega) (by omega)
                        refine lv_iinc (v := v636) (lv' := [(5, .int v636), (3, .long w635), (6, .int 0), (0, .ref h), (1, .int a), (2, .int b)]) hx hb dX12_stood_107 hl (k := 2) rfl (by rw [ev636]; rfl) (by decide) rfl (fun ls hl => ?_)
                        refine lv_goto (tgt := 27) hx hb dX12_stood_110 (by decide) ?_
                        exact ih614 v636 w635 ⟨by omega, by omega⟩ (by omega) ls (lv_sub hl [0, 1, 3, 4, 5] rfl)
                      · exact absurd rfl c634
                    · have fc633 := z_nle (rfl : (v621).toInt = _) (rfl : (a).toInt = _) c633
                      refine lv_iconst (v := 1) hx hb dX12_stood_68 (by decide) ?_
                      refine lv_goto (tgt := 73) hx hb dX12_stood_69 (by decide) ?_
                      refine lv_istore (lv' := [(6, .int 1), (5, .int x613_5), (3, .long x613_3), (0, .ref h), (1, .int a), (2, .int b)]) hx hb dX12_stood_73 hl (by decide) rfl (fun ls hl => ?_)
                      refine lv_lload_n hx hb dX12_stood_75 rfl (lv_at hl 2 rfl) ?_
                      refine lv_iload hx hb dX12_stood_76 (lv_at hl 0 rfl) ?_
                      refine lv_if_eq (tgt := 104) hx hb dX12_stood_78 (by decide) (fun c637 => ?_) (fun c637 => ?_)
                      · exact absurd c637 (by decide)
                      · skip
                        refine lv_aload_n hx hb dX12_stood_81 rfl (lv_at hl 3 rfl) ?_
                        refine gM_12_68 hx hb ht hown hK hP m_1207 dX12_stood_82 ?_
                        refine lv_iload hx hb dX12_stood_85 (lv_at hl 1 rfl) ?_
                        refine lM_12_68 hx hb hK hP (f := (fa 12 68)) rfl (vp_in_iff.mpr ⟨by omega, by omega⟩) dX12_stood_87 ?_
                        refine lv_topi (fun v638 ev638 => ?_)
                        refine lv_iconst (v := 1) hx hb dX12_stood_88 (by decide) ?_
                        refine lv_iload_n hx hb dX12_stood_89 rfl (lv_at hl 5 rfl) ?_
                        refine lv_isub hx hb dX12_stood_90 ?_
                        refine lv_topi (fun v639 ev639 => ?_)
                        have tv639 := z_sub ev639 (by decide : (1 : Int32).toInt = 1) (rfl : (b).toInt = _) (by omega) (by omega)
                        refine lv_icmp_ne (tgt := 104) hx hb dX12_stood_91 (by decide) (fun c640 => ?_) (fun c640 => ?_)
                        · have fc640 := z_ne (rfl : (v638).toInt = _) (rfl : (v639).toInt = _) c640
                          refine lv_lconst (v := 0) hx hb dX12_stood_104 (by decide) ?_
                          refine lv_ladd hx hb dX12_stood_105 ?_
                          refine lv_topl (fun w641 ew641 => ?_)
                          refine lv_lstore_n (lv' := [(3, .long w641), (6, .int 1), (5, .int x613_5), (0, .ref h), (1, .int a), (2, .int b)]) hx hb dX12_stood_106 rfl hl (by decide) rfl (fun ls hl => ?_)
                          obtain ⟨v642, ev642⟩ : ∃ y : Int32, y = x613_5 + 1 := ⟨_, rfl⟩
                          have tv642 := z_add ev642 rfl (by decide : (1 : Int32).toInt = 1) (by omega) (by omega)
                          refine lv_iinc (v := v642) (lv' := [(5, .int v642), (3, .long w641), (6, .int 1), (0, .ref h), (1, .int a), (2, .int b)]) hx hb dX12_stood_107 hl (k := 2) rfl (by rw [ev642]; rfl) (by decide) rfl (fun ls hl => ?_)
                          refine lv_goto (tgt := 27) hx hb dX12_stood_110 (by decide) ?_
                          exact ih614 v642 w641 ⟨by omega, by omega⟩ (by omega) ls (lv_sub hl [0, 1, 3, 4, 5] rfl)
                        · have fc640 := z_eq (rfl : (v638).toInt = _) (rfl : (v639).toInt = _) c640
                          refine lv_aload_n hx hb dX12_stood_94 rfl (lv_at hl 3 rfl) ?_
                          refine gM_12_70 hx hb ht hown hK hP m_1209 dX12_stood_95 ?_
                          refine lv_iload hx hb dX12_stood_98 (lv_at hl 1 rfl) ?_
                          refine lM_12_70 hx hb hK hP (f := (la 12 70)) rfl (vp_in_iff.mpr ⟨by omega, by omega⟩) dX12_stood_100 ?_
                          refine lv_topl (fun w643 ew643 => ?_)
                          refine lv_goto (tgt := 105) hx hb dX12_stood_101 (by decide) ?_
                          refine lv_ladd hx hb dX12_stood_105 ?_
                          refine lv_topl (fun w644 ew644 => ?_)
                          refine lv_lstore_n (lv' := [(3, .long w644), (6, .int 1), (5, .int x613_5), (0, .ref h), (1, .int a), (2, .int b)]) hx hb dX12_stood_106 rfl hl (by decide) rfl (fun ls hl => ?_)
                          obtain ⟨v645, ev645⟩ : ∃ y : Int32, y = x613_5 + 1 := ⟨_, rfl⟩
                          have tv645 := z_add ev645 rfl (by decide : (1 : Int32).toInt = 1) (by omega) (by omega)
                          refine lv_iinc (v := v645) (lv' := [(5, .int v645), (3, .long w644), (6, .int 1), (0, .ref h), (1, .int a), (2, .int b)]) hx hb dX12_stood_107 hl (k := 2) rfl (by rw [ev645]; rfl) (by decide) rfl (fun ls hl => ?_)
                          refine lv_goto (tgt := 27) hx hb dX12_stood_110 (by decide) ?_
                          exact ih614 v645 w644 ⟨by omega, by omega⟩ (by omega) ls (lv_sub hl [0, 1, 3, 4, 5] rfl)
          exact lp614 41 0 0 ⟨by decide, by decide⟩ (by first | decide | omega) ls (lv_sub hl [0, 1, 2, 3, 4] rfl)
        · exact absurd c4 (by decide)
      · skip
        refine lv_if_ne (tgt := 22) hx hb dX12_stood_15 (by decide) (fun c646 => ?_) (fun c646 => ?_)
        · exact absurd rfl c646
        · skip
          refine lv_ldc2 hx hb hown (ht _ m_1561) dX12_stood_18 ?_
          exact W.lret (v := (-100002)) hx hb hr (fun t ht9 hW => ⟨(-100002), rfl, trivial, ht9⟩) (fun q hq => by cases hq) dX12_stood_21
  · skip
    refine lv_if_eq (tgt := 18) hx hb dX12_stood_5 (by decide) (fun c647 => ?_) (fun c647 => ?_)
    · skip
      refine lv_ldc2 hx hb hown (ht _ m_1561) dX12_stood_18 ?_
      exact W.lret (v := (-100002)) hx hb hr (fun t ht9 hW => ⟨(-100002), rfl, trivial, ht9⟩) (fun q hq => by cases hq) dX12_stood_21
    · exact absurd rfl c647
/-! ===== h1 ===== -/
theorem m_77 : Cond.initialized RX11 ∈ tb := mb_1_0 _ (List.mem_of_getElem? (i := 0) rfl)
theorem m_80 : Cond.initialized RX0 ∈ tb := mb_1_0 _ (List.mem_of_getElem? (i := 3) rfl)
theorem m_114 : Cond.fieldLink RX11 109 "SilkHouse$Skeins" "number" "I" ∈ tb := mb_1_1 _ (List.mem_of_getElem? (i := 11) rfl)
theorem m_136 : Cond.fieldLink RX11 134 "SilkHouse$Scales" "number" "I" ∈ tb := mb_1_2 _ (List.mem_of_getElem? (i := 1) rfl)
theorem m_165 : Cond.fieldLink RX11 96 "SilkHouse$Bales" "number" "I" ∈ tb := mb_1_2 _ (List.mem_of_getElem? (i := 20) rfl)
theorem m_415 : Cond.fieldLink RX11 10 "SilkHouse" "skeins" "LSilkHouse$Skeins;" ∈ tb := mb_2_1 _ (List.mem_of_getElem? (i := 20) rfl)
theorem m_416 : Cond.fieldLink RX11 19 "SilkHouse" "scales" "LSilkHouse$Scales;" ∈ tb := mb_2_1 _ (List.mem_of_getElem? (i := 21) rfl)
theorem m_417 : Cond.fieldLink RX11 26 "SilkHouse" "bales" "LSilkHouse$Bales;" ∈ tb := mb_2_1 _ (List.mem_of_getElem? (i := 22) rfl)
theorem m_425 : Cond.fieldLink RX11 85 "SilkHouse" "now" "I" ∈ tb := mb_2_2 _ (List.mem_of_getElem? (i := 6) rfl)
theorem m_453 : Cond.methodLink RX11 89 yX11_within ∈ tb := mb_2_2 _ (List.mem_of_getElem? (i := 11) rfl)
theorem m_454 : Cond.static yX11_within ∈ tb := mb_2_2 _ (List.mem_of_getElem? (i := 12) rfl)
theorem m_455 : Cond.code yX11_within cX11_within 3 (some .boolean) ∈ tb := mb_2_2 _ (List.mem_of_getElem? (i := 13) rfl)
theorem m_456 : Cond.constant RX11 93 (-100002) ∈ tb := mb_2_2 _ (List.mem_of_getElem? (i := 14) rfl)
theorem m_457 : Cond.constant RX11 94 (-100003) ∈ tb := mb_2_2 _ (List.mem_of_getElem? (i := 15) rfl)
theorem m_462 : Cond.constant RX11 95 (99999) ∈ tb := mb_2_2 _ (List.mem_of_getElem? (i := 20) rfl)
theorem m_463 : Cond.constant RX11 99 (-100004) ∈ tb := mb_2_2 _ (List.mem_of_getElem? (i := 21) rfl)
theorem m_464 : Cond.methodLink RX11 100 yX0_bring ∈ tb := mb_2_2 _ (List.mem_of_getElem? (i := 22) rfl)
theorem m_465 : Cond.instanceMethod yX0_bring ∈ tb := mb_2_2 _ (List.mem_of_getElem? (i := 23) rfl)
theorem m_466 : Cond.selects RX0 yX0_bring yX0_bring ∈ tb := mb_2_3 _ (List.mem_of_getElem? (i := 0) rfl)
theorem m_467 : Cond.code yX0_bring cX0_bring 2 (some .int) ∈ tb := mb_2_3 _ (List.mem_of_getElem? (i := 1) rfl)
theorem m_472 : Cond.methodLink RX11 104 yX0_has ∈ tb := mb_2_3 _ (List.mem_of_getElem? (i := 6) rfl)
theorem m_473 : Cond.instanceMethod yX0_has ∈ tb := mb_2_3 _ (List.mem_of_getElem? (i := 7) rfl)
theorem m_474 : Cond.selects RX0 yX0_has yX0_has ∈ tb := mb_2_3 _ (List.mem_of_getElem? (i := 8) rfl)
theorem m_475 : Cond.code yX0_has cX0_has 2 (some .boolean) ∈ tb := mb_2_3 _ (List.mem_of_getElem? (i := 9) rfl)
theorem m_476 : Cond.constant RX11 108 (-100001) ∈ tb := mb_2_3 _ (List.mem_of_getElem? (i := 10) rfl)
theorem m_477 : Cond.methodLink RX11 110 yX10_drawn ∈ tb := mb_2_3 _ (List.mem_of_getElem? (i := 11) rfl)
theorem m_478 : Cond.instanceMethod yX10_drawn ∈ tb := mb_2_3 _ (List.mem_of_getElem? (i := 12) rfl)
theorem m_479 : Cond.selects RX10 yX10_drawn yX10_drawn ∈ tb := mb_2_3 _ (List.mem_of_getElem? (i := 13) rfl)
theorem m_480 : Cond.code yX10_drawn cX10_drawn 5 (some .int) ∈ tb := mb_2_3 _ (List.mem_of_getElem? (i := 14) rfl)
theorem m_489 : Cond.methodLink RX11 114 yX10_draw ∈ tb := mb_2_3 _ (List.mem_of_getElem? (i := 23) rfl)
theorem m_490 : Cond.instanceMethod yX10_draw ∈ tb := mb_2_4 _ (List.mem_of_getElem? (i := 0) rfl)
theorem m_491 : Cond.selects RX10 yX10_draw yX10_draw ∈ tb := mb_2_4 _ (List.mem_of_getElem? (i := 1) rfl)
theorem m_492 : Cond.code yX10_draw cX10_draw 5 (some .int) ∈ tb := mb_2_4 _ (List.mem_of_getElem? (i := 2) rfl)
theorem m_497 : Cond.methodLink RX11 118 yX10_weigh ∈ tb := mb_2_4 _ (List.mem_of_getElem? (i := 6) rfl)
theorem m_498 : Cond.instanceMethod yX10_weigh ∈ tb := mb_2_4 _ (List.mem_of_getElem? (i := 7) rfl)
theorem m_499 : Cond.selects RX10 yX10_weigh yX10_weigh ∈ tb := mb_2_4 _ (List.mem_of_getElem? (i := 8) rfl)
theorem m_500 : Cond.code yX10_weigh cX10_weigh 5 none ∈ tb := mb_2_4 _ (List.mem_of_getElem? (i := 9) rfl)
theorem m_501 : Cond.methodLink RX11 122 yX10_dryIn ∈ tb := mb_2_4 _ (List.mem_of_getElem? (i := 10) rfl)
theorem m_502 : Cond.instanceMethod yX10_dryIn ∈ tb := mb_2_4 _ (List.mem_of_getElem? (i := 11) rfl)
theorem m_503 : Cond.selects RX10 yX10_dryIn yX10_dryIn ∈ tb := mb_2_4 _ (List.mem_of_getElem? (i := 12) rfl)
theorem m_504 : Cond.code yX10_dryIn cX10_dryIn 4 none ∈ tb := mb_2_4 _ (List.mem_of_getElem? (i := 13) rfl)
theorem m_509 : Cond.methodLink RX11 126 yX10_has ∈ tb := mb_2_4 _ (List.mem_of_getElem? (i := 18) rfl)
theorem m_510 : Cond.instanceMethod yX10_has ∈ tb := mb_2_4 _ (List.mem_of_getElem? (i := 19) rfl)
theorem m_511 : Cond.selects RX10 yX10_has yX10_has ∈ tb := mb_2_4 _ (List.mem_of_getElem? (i := 20) rfl)
theorem m_512 : Cond.code yX10_has cX10_has 2 (some .boolean) ∈ tb := mb_2_4 _ (List.mem_of_getElem? (i := 21) rfl)
theorem m_513 : Cond.methodLink RX11 127 yX10_get ∈ tb := mb_2_4 _ (List.mem_of_getElem? (i := 22) rfl)
theorem m_514 : Cond.methodLink RX11 130 yX10_dropOut ∈ tb := mb_2_4 _ (List.mem_of_getElem? (i := 23) rfl)
theorem m_515 : Cond.instanceMethod yX10_dropOut ∈ tb := mb_2_5 _ (List.mem_of_getElem? (i := 0) rfl)
theorem m_516 : Cond.selects RX10 yX10_dropOut yX10_dropOut ∈ tb := mb_2_5 _ (List.mem_of_getElem? (i := 1) rfl)
theorem m_517 : Cond.code yX10_dropOut cX10_dropOut 3 none ∈ tb := mb_2_5 _ (List.mem_of_getElem? (i := 2) rfl)
theorem m_526 : Cond.methodLink RX11 135 yX9_note ∈ tb := mb_2_5 _ (List.mem_of_getElem? (i := 11) rfl)
theorem m_527 : Cond.instanceMethod yX9_note ∈ tb := mb_2_5 _ (List.mem_of_getElem? (i := 12) rfl)
theorem m_528 : Cond.selects RX9 yX9_note yX9_note ∈ tb := mb_2_5 _ (List.mem_of_getElem? (i := 13) rfl)
theorem m_529 : Cond.code yX9_note cX9_note 4 (some .int) ∈ tb := mb_2_5 _ (List.mem_of_getElem? (i := 14) rfl)
theorem m_534 : Cond.methodLink RX11 138 yX9_least ∈ tb := mb_2_5 _ (List.mem_of_getElem? (i := 19) rfl)
theorem m_535 : Cond.instanceMethod yX9_least ∈ tb := mb_2_5 _ (List.mem_of_getElem? (i := 20) rfl)
theorem m_536 : Cond.selects RX9 yX9_least yX9_least ∈ tb := mb_2_5 _ (List.mem_of_getElem? (i := 21) rfl)
theorem m_537 : Cond.code yX9_least cX9_least 5 (some .int) ∈ tb := mb_2_5 _ (List.mem_of_getElem? (i := 22) rfl)
theorem m_553 : Cond.methodLink RX11 141 yX9_greatest ∈ tb := mb_2_6 _ (List.mem_of_getElem? (i := 11) rfl)
theorem m_554 : Cond.instanceMethod yX9_greatest ∈ tb := mb_2_6 _ (List.mem_of_getElem? (i := 12) rfl)
theorem m_555 : Cond.selects RX9 yX9_greatest yX9_greatest ∈ tb := mb_2_6 _ (List.mem_of_getElem? (i := 13) rfl)
theorem m_556 : Cond.code yX9_greatest cX9_greatest 5 (some .int) ∈ tb := mb_3_0 _ (List.mem_of_getElem? (i := 0) rfl)
theorem hd_X0_bring_v : yX0_bring.cls = RX0 ∧ yX0_bring.cls ≠ "java/lang/invoke/MethodHandle" ∧ yX0_bring.cls ≠ "java/lang/invoke/VarHandle" ∧ (parseMethodDescriptor yX0_bring.desc).map (fun d => d.parameters.length) = some 1 := by decide +kernel
theorem hd_X0_has_v : yX0_has.cls = RX0 ∧ yX0_has.cls ≠ "java/lang/invoke/MethodHandle" ∧ yX0_has.cls ≠ "java/lang/invoke/VarHandle" ∧ (parseMethodDescriptor yX0_has.desc).map (fun d => d.parameters.length) = some 1 := by decide +kernel
theorem hd_X10_draw_v : yX10_draw.cls = RX10 ∧ yX10_draw.cls ≠ "java/lang/invoke/MethodHandle" ∧ yX10_draw.cls ≠ "java/lang/invoke/VarHandle" ∧ (parseMethodDescriptor yX10_draw.desc).map (fun d => d.parameters.length) = some 3 := by decide +kernel
theorem hd_X10_drawn_v : yX10_drawn.cls = RX10 ∧ yX10_drawn.cls ≠ "java/lang/invoke/MethodHandle" ∧ yX10_drawn.cls ≠ "java/lang/invoke/VarHandle" ∧ (parseMethodDescriptor yX10_drawn.desc).map (fun d => d.parameters.length) = some 2 := by decide +kernel
theorem hd_X10_dropOut_v : yX10_dropOut.cls = RX10 ∧ yX10_dropOut.cls ≠ "java/lang/invoke/MethodHandle" ∧ yX10_dropOut.cls ≠ "java/lang/invoke/VarHandle" ∧ (parseMethodDescriptor yX10_dropOut.desc).map (fun d => d.parameters.length) = some 2 := by decide +kernel
theorem hd_X10_dryIn_v : yX10_dryIn.cls = RX10 ∧ yX10_dryIn.cls ≠ "java/lang/invoke/MethodHandle" ∧ yX10_dryIn.cls ≠ "java/lang/invoke/VarHandle" ∧ (parseMethodDescriptor yX10_dryIn.desc).map (fun d => d.parameters.length) = some 3 := by decide +kernel
theorem hd_X10_has_v : yX10_has.cls = RX10 ∧ yX10_has.cls ≠ "java/lang/invoke/MethodHandle" ∧ yX10_has.cls ≠ "java/lang/invoke/VarHandle" ∧ (parseMethodDescriptor yX10_has.desc).map (fun d => d.parameters.length) = some 1 := by decide +kernel
theorem hd_X10_weigh_v : yX10_weigh.cls = RX10 ∧ yX10_weigh.cls ≠ "java/lang/invoke/MethodHandle" ∧ yX10_weigh.cls ≠ "java/lang/invoke/VarHandle" ∧ (parseMethodDescriptor yX10_weigh.desc).map (fun d => d.parameters.length) = some 4 := by decide +kernel
theorem hd_X11_within_v : yX11_within.cls = RX11 ∧ yX11_within.cls ≠ "java/lang/invoke/MethodHandle" ∧ yX11_within.cls ≠ "java/lang/invoke/VarHandle" ∧ (parseMethodDescriptor yX11_within.desc).map (fun d => d.parameters.length) = some 3 := by decide +kernel
theorem hd_X9_greatest_v : yX9_greatest.cls = RX9 ∧ yX9_greatest.cls ≠ "java/lang/invoke/MethodHandle" ∧ yX9_greatest.cls ≠ "java/lang/invoke/VarHandle" ∧ (parseMethodDescriptor yX9_greatest.desc).map (fun d => d.parameters.length) = some 2 := by decide +kernel
theorem hd_X9_least_v : yX9_least.cls = RX9 ∧ yX9_least.cls ≠ "java/lang/invoke/MethodHandle" ∧ yX9_least.cls ≠ "java/lang/invoke/VarHandle" ∧ (parseMethodDescriptor yX9_least.desc).map (fun d => d.parameters.length) = some 2 := by decide +kernel
theorem hd_X9_note_v : yX9_note.cls = RX9 ∧ yX9_note.cls ≠ "java/lang/invoke/MethodHandle" ∧ yX9_note.cls ≠ "java/lang/invoke/VarHandle" ∧ (parseMethodDescriptor yX9_note.desc).map (fun d => d.parameters.length) = some 3 := by decide +kernel
set_option maxRecDepth 100000 in
theorem dvX11_bale_0 : ([(0, .iload_n 1, 1), (1, .iconst 1, 1), (2, .ldc 95, 2), (4, .invokestatic 89, 3), (7, .ifCond .ne 6, 3), (10, .ldc 93, 2), (12, .ireturn, 1), (13, .aload_n 0, 1), (14, .getfield 26, 3), (17, .getfield 96, 3), (20, .bipush 10, 2), (22, .if_icmp .lt 6, 3), (25, .ldc 99, 2), (27, .ireturn, 1), (28, .aload_n 0, 1), (29, .getfield 26, 3), (32, .iload_n 1, 1), (33, .invokevirtual 100, 3), (36, .ireturn, 1)] : List (Nat × Instr × Nat)).all (fun q => decide (decode cX11_bale q.1 = .ok (q.2.1, q.2.2))) = true := by decide +kernel
theorem dX11_bale_0 : decode cX11_bale 0 = .ok (.iload_n 1, 1) := all_at dvX11_bale_0 0 rfl
theorem dX11_bale_1 : decode cX11_bale 1 = .ok (.iconst 1, 1) := all_at dvX11_bale_0 1 rfl
theorem dX11_bale_2 : decode cX11_bale 2 = .ok (.ldc 95, 2) := all_at dvX11_bale_0 2 rfl
theorem dX11_bale_4 : decode cX11_bale 4 = .ok (.invokestatic 89, 3) := all_at dvX11_bale_0 3 rfl
theorem dX11_bale_7 : decode cX11_bale 7 = .ok (.ifCond .ne 6, 3) := all_at dvX11_bale_0 4 rfl
theorem dX11_bale_10 : decode cX11_bale 10 = .ok (.ldc 93, 2) := all_at dvX11_bale_0 5 rfl
theorem dX11_bale_12 : decode cX11_bale 12 = .ok (.ireturn, 1) := all_at dvX11_bale_0 6 rfl
theorem dX11_bale_13 : decode cX11_bale 13 = .ok (.aload_n 0, 1) := all_at dvX11_bale_0 7 rfl
theorem dX11_bale_14 : decode cX11_bale 14 = .ok (.getfield 26, 3) := all_at dvX11_bale_0 8 rfl
theorem dX11_bale_17 : decode cX11_bale 17 = .ok (.getfield 96, 3) := all_at dvX11_bale_0 9 rfl
theorem dX11_bale_20 : decode cX11_bale 20 = .ok (.bipush 10, 2) := all_at dvX11_bale_0 10 rfl
theorem dX11_bale_22 : decode cX11_bale 22 = .ok (.if_icmp .lt 6, 3) := all_at dvX11_bale_0 11 rfl
theorem dX11_bale_25 : decode cX11_bale 25 = .ok (.ldc 99, 2) := all_at dvX11_bale_0 12 rfl
theorem dX11_bale_27 : decode cX11_bale 27 = .ok (.ireturn, 1) := all_at dvX11_bale_0 13 rfl
theorem dX11_bale_28 : decode cX11_bale 28 = .ok (.aload_n 0, 1) := all_at dvX11_bale_0 14 rfl
theorem dX11_bale_29 : decode cX11_bale 29 = .ok (.getfield 26, 3) := all_at dvX11_bale_0 15 rfl
theorem dX11_bale_32 : decode cX11_bale 32 = .ok (.iload_n 1, 1) := all_at dvX11_bale_0 16 rfl
theorem dX11_bale_33 : decode cX11_bale 33 = .ok (.invokevirtual 100, 3) := all_at dvX11_bale_0 17 rfl
theorem dX11_bale_36 : decode cX11_bale 36 = .ok (.ireturn, 1) := all_at dvX11_bale_0 18 rfl
set_option maxRecDepth 100000 in
theorem dvX11_error_0 : ([(0, .iload_n 1, 1), (1, .iconst 0, 1), (2, .iconst 3, 1), (3, .invokestatic 89, 3), (6, .ifCond .eq 23, 3), (9, .iload_n 2, 1), (10, .iconst 0, 1), (11, .sipush 3000, 3), (14, .invokestatic 89, 3), (17, .ifCond .eq 12, 3), (20, .iload_n 3, 1), (21, .iconst 0, 1), (22, .iconst 1, 1), (23, .invokestatic 89, 3), (26, .ifCond .ne 6, 3), (29, .ldc 93, 2), (31, .ireturn, 1), (32, .iload_n 3, 1), (33, .ifCond .ne 15, 3), (36, .aload_n 0, 1), (37, .getfield 19, 3), (40, .iload_n 1, 1), (41, .iload_n 2, 1), (42, .invokevirtual 138, 3)] : List (Nat × Instr × Nat)).all (fun q => decide (decode cX11_error q.1 = .ok (q.2.1, q.2.2))) = true := by decide +kernel
theorem dX11_error_0 : decode cX11_error 0 = .ok (.iload_n 1, 1) := all_at dvX11_error_0 0 rfl
theorem dX11_error_1 : decode cX11_error 1 = .ok (.iconst 0, 1) := all_at dvX11_error_0 1 rfl
theorem dX11_error_2 : decode cX11_error 2 = .ok (.iconst 3, 1) := all_at dvX11_error_0 2 rfl
theorem dX11_error_3 : decode cX11_error 3 = .ok (.invokestatic 89, 3) := all_at dvX11_error_0 3 rfl
theorem dX11_error_6 : decode cX11_error 6 = .ok (.ifCond .eq 23, 3) := all_at dvX11_error_0 4 rfl
theorem dX11_error_9 : decode cX11_error 9 = .ok (.iload_n 2, 1) := all_at dvX11_error_0 5 rfl
theorem dX11_error_10 : decode cX11_error 10 = .ok (.iconst 0, 1) := all_at dvX11_error_0 6 rfl
theorem dX11_error_11 : decode cX11_error 11 = .ok (.sipush 3000, 3) := all_at dvX11_error_0 7 rfl
theorem dX11_error_14 : decode cX11_error 14 = .ok (.invokestatic 89, 3) := all_at dvX11_error_0 8 rfl
theorem dX11_error_17 : decode cX11_error 17 = .ok (.ifCond .eq 12, 3) := all_at dvX11_error_0 9 rfl
theorem dX11_error_20 : decode cX11_error 20 = .ok (.iload_n 3, 1) := all_at dvX11_error_0 10 rfl
theorem dX11_error_21 : decode cX11_error 21 = .ok (.iconst 0, 1) := all_at dvX11_error_0 11 rfl
theorem dX11_error_22 : decode cX11_error 22 = .ok (.iconst 1, 1) := all_at dvX11_error_0 12 rfl
theorem dX11_error_23 : decode cX11_error 23 = .ok (.invokestatic 89, 3) := all_at dvX11_error_0 13 rfl
theorem dX11_error_26 : decode cX11_error 26 = .ok (.ifCond .ne 6, 3) := all_at dvX11_error_0 14 rfl
theorem dX11_error_29 : decode cX11_error 29 = .ok (.ldc 93, 2) := all_at dvX11_error_0 15 rfl
theorem dX11_error_31 : decode cX11_error 31 = .ok (.ireturn, 1) := all_at dvX11_error_0 16 rfl
theorem dX11_error_32 : decode cX11_error 32 = .ok (.iload_n 3, 1) := all_at dvX11_error_0 17 rfl
theorem dX11_error_33 : decode cX11_error 33 = .ok (.ifCond .ne 15, 3) := all_at dvX11_error_0 18 rfl
theorem dX11_error_36 : decode cX11_error 36 = .ok (.aload_n 0, 1) := all_at dvX11_error_0 19 rfl
theorem dX11_error_37 : decode cX11_error 37 = .ok (.getfield 19, 3) := all_at dvX11_error_0 20 rfl
theorem dX11_error_40 : decode cX11_error 40 = .ok (.iload_n 1, 1) := all_at dvX11_error_0 21 rfl
theorem dX11_error_41 : decode cX11_error 41 = .ok (.iload_n 2, 1) := all_at dvX11_error_0 22 rfl
theorem dX11_error_42 : decode cX11_error 42 = .ok (.invokevirtual 138, 3) := all_at dvX11_error_0 23 rfl
set_option maxRecDepth 100000 in
theorem dvX11_error_45 : ([(45, .goto 12, 3), (48, .aload_n 0, 1), (49, .getfield 19, 3), (52, .iload_n 1, 1), (53, .iload_n 2, 1), (54, .invokevirtual 141, 3), (57, .ireturn, 1)] : List (Nat × Instr × Nat)).all (fun q => decide (decode cX11_error q.1 = .ok (q.2.1, q.2.2))) = true := by decide +kernel
theorem dX11_error_45 : decode cX11_error 45 = .ok (.goto 12, 3) := all_at dvX11_error_45 0 rfl
theorem dX11_error_48 : decode cX11_error 48 = .ok (.aload_n 0, 1) := all_at dvX11_error_45 1 rfl
theorem dX11_error_49 : decode cX11_error 49 = .ok (.getfield 19, 3) := all_at dvX11_error_45 2 rfl
theorem dX11_error_52 : decode cX11_error 52 = .ok (.iload_n 1, 1) := all_at dvX11_error_45 3 rfl
theorem dX11_error_53 : decode cX11_error 53 = .ok (.iload_n 2, 1) := all_at dvX11_error_45 4 rfl
theorem dX11_error_54 : decode cX11_error 54 = .ok (.invokevirtual 141, 3) := all_at dvX11_error_45 5 rfl
theorem dX11_error_57 : decode cX11_error 57 = .ok (.ireturn, 1) := all_at dvX11_error_45 6 rfl
set_option maxRecDepth 100000 in
theorem dvX11_go_0 : ([(0, .iload_n 1, 1), (1, .iconst 0, 1), (2, .sipush 999, 3), (5, .invokestatic 89, 3), (8, .ifCond .ne 6, 3), (11, .ldc 93, 2), (13, .ireturn, 1), (14, .aload_n 0, 1), (15, .getfield 85, 3), (18, .iload_n 1, 1), (19, .iadd, 1), (20, .sipush 3000, 3), (23, .if_icmp .le 6, 3), (26, .ldc 94, 2), (28, .ireturn, 1), (29, .aload_n 0, 1), (30, .dup, 1), (31, .getfield 85, 3), (34, .iload_n 1, 1), (35, .iadd, 1), (36, .putfield 85, 3), (39, .aload_n 0, 1), (40, .getfield 85, 3), (43, .ireturn, 1)] : List (Nat × Instr × Nat)).all (fun q => decide (decode cX11_go q.1 = .ok (q.2.1, q.2.2))) = true := by decide +kernel
theorem dX11_go_0 : decode cX11_go 0 = .ok (.iload_n 1, 1) := all_at dvX11_go_0 0 rfl
theorem dX11_go_1 : decode cX11_go 1 = .ok (.iconst 0, 1) := all_at dvX11_go_0 1 rfl
theorem dX11_go_2 : decode cX11_go 2 = .ok (.sipush 999, 3) := all_at dvX11_go_0 2 rfl
theorem dX11_go_5 : decode cX11_go 5 = .ok (.invokestatic 89, 3) := all_at dvX11_go_0 3 rfl
theorem dX11_go_8 : decode cX11_go 8 = .ok (.ifCond .ne 6, 3) := all_at dvX11_go_0 4 rfl
theorem dX11_go_11 : decode cX11_go 11 = .ok (.ldc 93, 2) := all_at dvX11_go_0 5 rfl
theorem dX11_go_13 : decode cX11_go 13 = .ok (.ireturn, 1) := all_at dvX11_go_0 6 rfl
theorem dX11_go_14 : decode cX11_go 14 = .ok (.aload_n 0, 1) := all_at dvX11_go_0 7 rfl
theorem dX11_go_15 : decode cX11_go 15 = .ok (.getfield 85, 3) := all_at dvX11_go_0 8 rfl
theorem dX11_go_18 : decode cX11_go 18 = .ok (.iload_n 1, 1) := all_at dvX11_go_0 9 rfl
theorem dX11_go_19 : decode cX11_go 19 = .ok (.iadd, 1) := all_at dvX11_go_0 10 rfl
theorem dX11_go_20 : decode cX11_go 20 = .ok (.sipush 3000, 3) := all_at dvX11_go_0 11 rfl
theorem dX11_go_23 : decode cX11_go 23 = .ok (.if_icmp .le 6, 3) := all_at dvX11_go_0 12 rfl
theorem dX11_go_26 : decode cX11_go 26 = .ok (.ldc 94, 2) := all_at dvX11_go_0 13 rfl
theorem dX11_go_28 : decode cX11_go 28 = .ok (.ireturn, 1) := all_at dvX11_go_0 14 rfl
theorem dX11_go_29 : decode cX11_go 29 = .ok (.aload_n 0, 1) := all_at dvX11_go_0 15 rfl
theorem dX11_go_30 : decode cX11_go 30 = .ok (.dup, 1) := all_at dvX11_go_0 16 rfl
theorem dX11_go_31 : decode cX11_go 31 = .ok (.getfield 85, 3) := all_at dvX11_go_0 17 rfl
theorem dX11_go_34 : decode cX11_go 34 = .ok (.iload_n 1, 1) := all_at dvX11_go_0 18 rfl
theorem dX11_go_35 : decode cX11_go 35 = .ok (.iadd, 1) := all_at dvX11_go_0 19 rfl
theorem dX11_go_36 : decode cX11_go 36 = .ok (.putfield 85, 3) := all_at dvX11_go_0 20 rfl
theorem dX11_go_39 : decode cX11_go 39 = .ok (.aload_n 0, 1) := all_at dvX11_go_0 21 rfl
theorem dX11_go_40 : decode cX11_go 40 = .ok (.getfield 85, 3) := all_at dvX11_go_0 22 rfl
theorem dX11_go_43 : decode cX11_go 43 = .ok (.ireturn, 1) := all_at dvX11_go_0 23 rfl
set_option maxRecDepth 100000 in
theorem dvX11_lose_0 : ([(0, .aload_n 0, 1), (1, .getfield 10, 3), (4, .iload_n 1, 1), (5, .invokevirtual 126, 3), (8, .ifCond .ne 6, 3), (11, .ldc 108, 2), (13, .ireturn, 1), (14, .aload_n 0, 1), (15, .getfield 10, 3), (18, .iload_n 1, 1), (19, .bipush 8, 2), (21, .invokevirtual 127, 3), (24, .iconst (-1), 1), (25, .if_icmp .eq 6, 3), (28, .ldc 94, 2), (30, .ireturn, 1), (31, .aload_n 0, 1), (32, .getfield 10, 3), (35, .iload_n 1, 1), (36, .aload_n 0, 1), (37, .getfield 85, 3), (40, .invokevirtual 130, 3), (43, .iconst 1, 1), (44, .ireturn, 1)] : List (Nat × Instr × Nat)).all (fun q => decide (decode cX11_lose q.1 = .ok (q.2.1, q.2.2))) = true := by decide +kernel
theorem dX11_lose_0 : decode cX11_lose 0 = .ok (.aload_n 0, 1) := all_at dvX11_lose_0 0 rfl
theorem dX11_lose_1 : decode cX11_lose 1 = .ok (.getfield 10, 3) := all_at dvX11_lose_0 1 rfl
theorem dX11_lose_4 : decode cX11_lose 4 = .ok (.iload_n 1, 1) := all_at dvX11_lose_0 2 rfl
theorem dX11_lose_5 : decode cX11_lose 5 = .ok (.invokevirtual 126, 3) := all_at dvX11_lose_0 3 rfl
theorem dX11_lose_8 : decode cX11_lose 8 = .ok (.ifCond .ne 6, 3) := all_at dvX11_lose_0 4 rfl
theorem dX11_lose_11 : decode cX11_lose 11 = .ok (.ldc 108, 2) := all_at dvX11_lose_0 5 rfl
theorem dX11_lose_13 : decode cX11_lose 13 = .ok (.ireturn, 1) := all_at dvX11_lose_0 6 rfl
theorem dX11_lose_14 : decode cX11_lose 14 = .ok (.aload_n 0, 1) := all_at dvX11_lose_0 7 rfl
theorem dX11_lose_15 : decode cX11_lose 15 = .ok (.getfield 10, 3) := all_at dvX11_lose_0 8 rfl
theorem dX11_lose_18 : decode cX11_lose 18 = .ok (.iload_n 1, 1) := all_at dvX11_lose_0 9 rfl
theorem dX11_lose_19 : decode cX11_lose 19 = .ok (.bipush 8, 2) := all_at dvX11_lose_0 10 rfl
theorem dX11_lose_21 : decode cX11_lose 21 = .ok (.invokevirtual 127, 3) := all_at dvX11_lose_0 11 rfl
theorem dX11_lose_24 : decode cX11_lose 24 = .ok (.iconst (-1), 1) := all_at dvX11_lose_0 12 rfl
theorem dX11_lose_25 : decode cX11_lose 25 = .ok (.if_icmp .eq 6, 3) := all_at dvX11_lose_0 13 rfl
theorem dX11_lose_28 : decode cX11_lose 28 = .ok (.ldc 94, 2) := all_at dvX11_lose_0 14 rfl
theorem dX11_lose_30 : decode cX11_lose 30 = .ok (.ireturn, 1) := all_at dvX11_lose_0 15 rfl
theorem dX11_lose_31 : decode cX11_lose 31 = .ok (.aload_n 0, 1) := all_at dvX11_lose_0 16 rfl
theorem dX11_lose_32 : decode cX11_lose 32 = .ok (.getfield 10, 3) := all_at dvX11_lose_0 17 rfl
theorem dX11_lose_35 : decode cX11_lose 35 = .ok (.iload_n 1, 1) := all_at dvX11_lose_0 18 rfl
theorem dX11_lose_36 : decode cX11_lose 36 = .ok (.aload_n 0, 1) := all_at dvX11_lose_0 19 rfl
theorem dX11_lose_37 : decode cX11_lose 37 = .ok (.getfield 85, 3) := all_at dvX11_lose_0 20 rfl
theorem dX11_lose_40 : decode cX11_lose 40 = .ok (.invokevirtual 130, 3) := all_at dvX11_lose_0 21 rfl
theorem dX11_lose_43 : decode cX11_lose 43 = .ok (.iconst 1, 1) := all_at dvX11_lose_0 22 rfl
theorem dX11_lose_44 : decode cX11_lose 44 = .ok (.ireturn, 1) := all_at dvX11_lose_0 23 rfl
set_option maxRecDepth 100000 in
theorem dvX11_skein_0 : ([(0, .aload_n 0, 1), (1, .getfield 26, 3), (4, .iload_n 1, 1), (5, .invokevirtual 104, 3), (8, .ifCond .ne 6, 3), (11, .ldc 108, 2), (13, .ireturn, 1), (14, .iload_n 2, 1), (15, .iconst 0, 1), (16, .iconst 2, 1), (17, .invokestatic 89, 3), (20, .ifCond .eq 33, 3), (23, .iload_n 3, 1), (24, .iconst 0, 1), (25, .iconst 3, 1), (26, .invokestatic 89, 3), (29, .ifCond .eq 24, 3), (32, .iload 6, 2), (34, .iconst 0, 1), (35, .iconst 3, 1), (36, .invokestatic 89, 3), (39, .ifCond .eq 14, 3), (42, .iload 7, 2), (44, .iconst 0, 1)] : List (Nat × Instr × Nat)).all (fun q => decide (decode cX11_skein q.1 = .ok (q.2.1, q.2.2))) = true := by decide +kernel
theorem dX11_skein_0 : decode cX11_skein 0 = .ok (.aload_n 0, 1) := all_at dvX11_skein_0 0 rfl
theorem dX11_skein_1 : decode cX11_skein 1 = .ok (.getfield 26, 3) := all_at dvX11_skein_0 1 rfl
theorem dX11_skein_4 : decode cX11_skein 4 = .ok (.iload_n 1, 1) := all_at dvX11_skein_0 2 rfl
theorem dX11_skein_5 : decode cX11_skein 5 = .ok (.invokevirtual 104, 3) := all_at dvX11_skein_0 3 rfl
theorem dX11_skein_8 : decode cX11_skein 8 = .ok (.ifCond .ne 6, 3) := all_at dvX11_skein_0 4 rfl
theorem dX11_skein_11 : decode cX11_skein 11 = .ok (.ldc 108, 2) := all_at dvX11_skein_0 5 rfl
theorem dX11_skein_13 : decode cX11_skein 13 = .ok (.ireturn, 1) := all_at dvX11_skein_0 6 rfl
theorem dX11_skein_14 : decode cX11_skein 14 = .ok (.iload_n 2, 1) := all_at dvX11_skein_0 7 rfl
theorem dX11_skein_15 : decode cX11_skein 15 = .ok (.iconst 0, 1) := all_at dvX11_skein_0 8 rfl
theorem dX11_skein_16 : decode cX11_skein 16 = .ok (.iconst 2, 1) := all_at dvX11_skein_0 9 rfl
theorem dX11_skein_17 : decode cX11_skein 17 = .ok (.invokestatic 89, 3) := all_at dvX11_skein_0 10 rfl
theorem dX11_skein_20 : decode cX11_skein 20 = .ok (.ifCond .eq 33, 3) := all_at dvX11_skein_0 11 rfl
theorem dX11_skein_23 : decode cX11_skein 23 = .ok (.iload_n 3, 1) := all_at dvX11_skein_0 12 rfl
theorem dX11_skein_24 : decode cX11_skein 24 = .ok (.iconst 0, 1) := all_at dvX11_skein_0 13 rfl
theorem dX11_skein_25 : decode cX11_skein 25 = .ok (.iconst 3, 1) := all_at dvX11_skein_0 14 rfl
theorem dX11_skein_26 : decode cX11_skein 26 = .ok (.invokestatic 89, 3) := all_at dvX11_skein_0 15 rfl
theorem dX11_skein_29 : decode cX11_skein 29 = .ok (.ifCond .eq 24, 3) := all_at dvX11_skein_0 16 rfl
theorem dX11_skein_32 : decode cX11_skein 32 = .ok (.iload 6, 2) := all_at dvX11_skein_0 17 rfl
theorem dX11_skein_34 : decode cX11_skein 34 = .ok (.iconst 0, 1) := all_at dvX11_skein_0 18 rfl
theorem dX11_skein_35 : decode cX11_skein 35 = .ok (.iconst 3, 1) := all_at dvX11_skein_0 19 rfl
theorem dX11_skein_36 : decode cX11_skein 36 = .ok (.invokestatic 89, 3) := all_at dvX11_skein_0 20 rfl
theorem dX11_skein_39 : decode cX11_skein 39 = .ok (.ifCond .eq 14, 3) := all_at dvX11_skein_0 21 rfl
theorem dX11_skein_42 : decode cX11_skein 42 = .ok (.iload 7, 2) := all_at dvX11_skein_0 22 rfl
theorem dX11_skein_44 : decode cX11_skein 44 = .ok (.iconst 0, 1) := all_at dvX11_skein_0 23 rfl
set_option maxRecDepth 100000 in
theorem dvX11_skein_45 : ([(45, .bipush 7, 2), (47, .invokestatic 89, 3), (50, .ifCond .ne 6, 3), (53, .ldc 93, 2), (55, .ireturn, 1), (56, .iload 4, 2), (58, .bipush 100, 2), (60, .sipush 9999, 3), (63, .invokestatic 89, 3), (66, .ifCond .eq 15, 3), (69, .iload 5, 2), (71, .bipush 50, 2), (73, .iload 4, 2), (75, .invokestatic 89, 3), (78, .ifCond .ne 6, 3), (81, .ldc 93, 2), (83, .ireturn, 1), (84, .aload_n 0, 1), (85, .getfield 10, 3), (88, .getfield 109, 3), (91, .bipush 60, 2), (93, .if_icmp .ge 17, 3), (96, .aload_n 0, 1), (97, .getfield 10, 3)] : List (Nat × Instr × Nat)).all (fun q => decide (decode cX11_skein q.1 = .ok (q.2.1, q.2.2))) = true := by decide +kernel
theorem dX11_skein_45 : decode cX11_skein 45 = .ok (.bipush 7, 2) := all_at dvX11_skein_45 0 rfl
theorem dX11_skein_47 : decode cX11_skein 47 = .ok (.invokestatic 89, 3) := all_at dvX11_skein_45 1 rfl
theorem dX11_skein_50 : decode cX11_skein 50 = .ok (.ifCond .ne 6, 3) := all_at dvX11_skein_45 2 rfl
theorem dX11_skein_53 : decode cX11_skein 53 = .ok (.ldc 93, 2) := all_at dvX11_skein_45 3 rfl
theorem dX11_skein_55 : decode cX11_skein 55 = .ok (.ireturn, 1) := all_at dvX11_skein_45 4 rfl
theorem dX11_skein_56 : decode cX11_skein 56 = .ok (.iload 4, 2) := all_at dvX11_skein_45 5 rfl
theorem dX11_skein_58 : decode cX11_skein 58 = .ok (.bipush 100, 2) := all_at dvX11_skein_45 6 rfl
theorem dX11_skein_60 : decode cX11_skein 60 = .ok (.sipush 9999, 3) := all_at dvX11_skein_45 7 rfl
theorem dX11_skein_63 : decode cX11_skein 63 = .ok (.invokestatic 89, 3) := all_at dvX11_skein_45 8 rfl
theorem dX11_skein_66 : decode cX11_skein 66 = .ok (.ifCond .eq 15, 3) := all_at dvX11_skein_45 9 rfl
theorem dX11_skein_69 : decode cX11_skein 69 = .ok (.iload 5, 2) := all_at dvX11_skein_45 10 rfl
theorem dX11_skein_71 : decode cX11_skein 71 = .ok (.bipush 50, 2) := all_at dvX11_skein_45 11 rfl
theorem dX11_skein_73 : decode cX11_skein 73 = .ok (.iload 4, 2) := all_at dvX11_skein_45 12 rfl
theorem dX11_skein_75 : decode cX11_skein 75 = .ok (.invokestatic 89, 3) := all_at dvX11_skein_45 13 rfl
theorem dX11_skein_78 : decode cX11_skein 78 = .ok (.ifCond .ne 6, 3) := all_at dvX11_skein_45 14 rfl
theorem dX11_skein_81 : decode cX11_skein 81 = .ok (.ldc 93, 2) := all_at dvX11_skein_45 15 rfl
theorem dX11_skein_83 : decode cX11_skein 83 = .ok (.ireturn, 1) := all_at dvX11_skein_45 16 rfl
theorem dX11_skein_84 : decode cX11_skein 84 = .ok (.aload_n 0, 1) := all_at dvX11_skein_45 17 rfl
theorem dX11_skein_85 : decode cX11_skein 85 = .ok (.getfield 10, 3) := all_at dvX11_skein_45 18 rfl
theorem dX11_skein_88 : decode cX11_skein 88 = .ok (.getfield 109, 3) := all_at dvX11_skein_45 19 rfl
theorem dX11_skein_91 : decode cX11_skein 91 = .ok (.bipush 60, 2) := all_at dvX11_skein_45 20 rfl
theorem dX11_skein_93 : decode cX11_skein 93 = .ok (.if_icmp .ge 17, 3) := all_at dvX11_skein_45 21 rfl
theorem dX11_skein_96 : decode cX11_skein 96 = .ok (.aload_n 0, 1) := all_at dvX11_skein_45 22 rfl
theorem dX11_skein_97 : decode cX11_skein 97 = .ok (.getfield 10, 3) := all_at dvX11_skein_45 23 rfl
set_option maxRecDepth 100000 in
theorem dvX11_skein_100 : ([(100, .iload_n 1, 1), (101, .iload_n 2, 1), (102, .invokevirtual 110, 3), (105, .bipush 12, 2), (107, .if_icmp .lt 6, 3), (110, .ldc 99, 2), (112, .ireturn, 1), (113, .aload_n 0, 1), (114, .getfield 10, 3), (117, .iload_n 1, 1), (118, .iload_n 2, 1), (119, .aload_n 0, 1), (120, .getfield 85, 3), (123, .invokevirtual 114, 3), (126, .istore 8, 2), (128, .aload_n 0, 1), (129, .getfield 10, 3), (132, .iload 8, 2), (134, .iload_n 3, 1), (135, .iload 4, 2), (137, .iload 5, 2), (139, .invokevirtual 118, 3), (142, .aload_n 0, 1), (143, .getfield 10, 3)] : List (Nat × Instr × Nat)).all (fun q => decide (decode cX11_skein q.1 = .ok (q.2.1, q.2.2))) = true := by decide +kernel
theorem dX11_skein_100 : decode cX11_skein 100 = .ok (.iload_n 1, 1) := all_at dvX11_skein_100 0 rfl
theorem dX11_skein_101 : decode cX11_skein 101 = .ok (.iload_n 2, 1) := all_at dvX11_skein_100 1 rfl
theorem dX11_skein_102 : decode cX11_skein 102 = .ok (.invokevirtual 110, 3) := all_at dvX11_skein_100 2 rfl
theorem dX11_skein_105 : decode cX11_skein 105 = .ok (.bipush 12, 2) := all_at dvX11_skein_100 3 rfl
theorem dX11_skein_107 : decode cX11_skein 107 = .ok (.if_icmp .lt 6, 3) := all_at dvX11_skein_100 4 rfl
theorem dX11_skein_110 : decode cX11_skein 110 = .ok (.ldc 99, 2) := all_at dvX11_skein_100 5 rfl
theorem dX11_skein_112 : decode cX11_skein 112 = .ok (.ireturn, 1) := all_at dvX11_skein_100 6 rfl
theorem dX11_skein_113 : decode cX11_skein 113 = .ok (.aload_n 0, 1) := all_at dvX11_skein_100 7 rfl
theorem dX11_skein_114 : decode cX11_skein 114 = .ok (.getfield 10, 3) := all_at dvX11_skein_100 8 rfl
theorem dX11_skein_117 : decode cX11_skein 117 = .ok (.iload_n 1, 1) := all_at dvX11_skein_100 9 rfl
theorem dX11_skein_118 : decode cX11_skein 118 = .ok (.iload_n 2, 1) := all_at dvX11_skein_100 10 rfl
theorem dX11_skein_119 : decode cX11_skein 119 = .ok (.aload_n 0, 1) := all_at dvX11_skein_100 11 rfl
theorem dX11_skein_120 : decode cX11_skein 120 = .ok (.getfield 85, 3) := all_at dvX11_skein_100 12 rfl
theorem dX11_skein_123 : decode cX11_skein 123 = .ok (.invokevirtual 114, 3) := all_at dvX11_skein_100 13 rfl
theorem dX11_skein_126 : decode cX11_skein 126 = .ok (.istore 8, 2) := all_at dvX11_skein_100 14 rfl
theorem dX11_skein_128 : decode cX11_skein 128 = .ok (.aload_n 0, 1) := all_at dvX11_skein_100 15 rfl
theorem dX11_skein_129 : decode cX11_skein 129 = .ok (.getfield 10, 3) := all_at dvX11_skein_100 16 rfl
theorem dX11_skein_132 : decode cX11_skein 132 = .ok (.iload 8, 2) := all_at dvX11_skein_100 17 rfl
theorem dX11_skein_134 : decode cX11_skein 134 = .ok (.iload_n 3, 1) := all_at dvX11_skein_100 18 rfl
theorem dX11_skein_135 : decode cX11_skein 135 = .ok (.iload 4, 2) := all_at dvX11_skein_100 19 rfl
theorem dX11_skein_137 : decode cX11_skein 137 = .ok (.iload 5, 2) := all_at dvX11_skein_100 20 rfl
theorem dX11_skein_139 : decode cX11_skein 139 = .ok (.invokevirtual 118, 3) := all_at dvX11_skein_100 21 rfl
theorem dX11_skein_142 : decode cX11_skein 142 = .ok (.aload_n 0, 1) := all_at dvX11_skein_100 22 rfl
theorem dX11_skein_143 : decode cX11_skein 143 = .ok (.getfield 10, 3) := all_at dvX11_skein_100 23 rfl
set_option maxRecDepth 100000 in
theorem dvX11_skein_146 : ([(146, .iload 8, 2), (148, .iload 6, 2), (150, .iload 7, 2), (152, .invokevirtual 122, 3), (155, .iload 8, 2), (157, .ireturn, 1)] : List (Nat × Instr × Nat)).all (fun q => decide (decode cX11_skein q.1 = .ok (q.2.1, q.2.2))) = true := by decide +kernel
theorem dX11_skein_146 : decode cX11_skein 146 = .ok (.iload 8, 2) := all_at dvX11_skein_146 0 rfl
theorem dX11_skein_148 : decode cX11_skein 148 = .ok (.iload 6, 2) := all_at dvX11_skein_146 1 rfl
theorem dX11_skein_150 : decode cX11_skein 150 = .ok (.iload 7, 2) := all_at dvX11_skein_146 2 rfl
theorem dX11_skein_152 : decode cX11_skein 152 = .ok (.invokevirtual 122, 3) := all_at dvX11_skein_146 3 rfl
theorem dX11_skein_155 : decode cX11_skein 155 = .ok (.iload 8, 2) := all_at dvX11_skein_146 4 rfl
theorem dX11_skein_157 : decode cX11_skein 157 = .ok (.ireturn, 1) := all_at dvX11_skein_146 5 rfl
set_option maxRecDepth 100000 in
theorem dvX11_test_0 : ([(0, .iload_n 1, 1), (1, .iconst 0, 1), (2, .iconst 3, 1), (3, .invokestatic 89, 3), (6, .ifCond .eq 25, 3), (9, .iload_n 2, 1), (10, .iconst 1, 1), (11, .sipush 9999, 3), (14, .invokestatic 89, 3), (17, .ifCond .eq 14, 3), (20, .iload_n 3, 1), (21, .iconst 1, 1), (22, .sipush 9999, 3), (25, .invokestatic 89, 3), (28, .ifCond .ne 6, 3), (31, .ldc 93, 2), (33, .ireturn, 1), (34, .aload_n 0, 1), (35, .getfield 19, 3), (38, .getfield 134, 3), (41, .bipush 30, 2), (43, .if_icmp .lt 6, 3), (46, .ldc 99, 2), (48, .ireturn, 1)] : List (Nat × Instr × Nat)).all (fun q => decide (decode cX11_test q.1 = .ok (q.2.1, q.2.2))) = true := by decide +kernel
theorem dX11_test_0 : decode cX11_test 0 = .ok (.iload_n 1, 1) := all_at dvX11_test_0 0 rfl
theorem dX11_test_1 : decode cX11_test 1 = .ok (.iconst 0, 1) := all_at dvX11_test_0 1 rfl
theorem dX11_test_2 : decode cX11_test 2 = .ok (.iconst 3, 1) := all_at dvX11_test_0 2 rfl
theorem dX11_test_3 : decode cX11_test 3 = .ok (.invokestatic 89, 3) := all_at dvX11_test_0 3 rfl
theorem dX11_test_6 : decode cX11_test 6 = .ok (.ifCond .eq 25, 3) := all_at dvX11_test_0 4 rfl
theorem dX11_test_9 : decode cX11_test 9 = .ok (.iload_n 2, 1) := all_at dvX11_test_0 5 rfl
theorem dX11_test_10 : decode cX11_test 10 = .ok (.iconst 1, 1) := all_at dvX11_test_0 6 rfl
theorem dX11_test_11 : decode cX11_test 11 = .ok (.sipush 9999, 3) := all_at dvX11_test_0 7 rfl
theorem dX11_test_14 : decode cX11_test 14 = .ok (.invokestatic 89, 3) := all_at dvX11_test_0 8 rfl
theorem dX11_test_17 : decode cX11_test 17 = .ok (.ifCond .eq 14, 3) := all_at dvX11_test_0 9 rfl
theorem dX11_test_20 : decode cX11_test 20 = .ok (.iload_n 3, 1) := all_at dvX11_test_0 10 rfl
theorem dX11_test_21 : decode cX11_test 21 = .ok (.iconst 1, 1) := all_at dvX11_test_0 11 rfl
theorem dX11_test_22 : decode cX11_test 22 = .ok (.sipush 9999, 3) := all_at dvX11_test_0 12 rfl
theorem dX11_test_25 : decode cX11_test 25 = .ok (.invokestatic 89, 3) := all_at dvX11_test_0 13 rfl
theorem dX11_test_28 : decode cX11_test 28 = .ok (.ifCond .ne 6, 3) := all_at dvX11_test_0 14 rfl
theorem dX11_test_31 : decode cX11_test 31 = .ok (.ldc 93, 2) := all_at dvX11_test_0 15 rfl
theorem dX11_test_33 : decode cX11_test 33 = .ok (.ireturn, 1) := all_at dvX11_test_0 16 rfl
theorem dX11_test_34 : decode cX11_test 34 = .ok (.aload_n 0, 1) := all_at dvX11_test_0 17 rfl
theorem dX11_test_35 : decode cX11_test 35 = .ok (.getfield 19, 3) := all_at dvX11_test_0 18 rfl
theorem dX11_test_38 : decode cX11_test 38 = .ok (.getfield 134, 3) := all_at dvX11_test_0 19 rfl
theorem dX11_test_41 : decode cX11_test 41 = .ok (.bipush 30, 2) := all_at dvX11_test_0 20 rfl
theorem dX11_test_43 : decode cX11_test 43 = .ok (.if_icmp .lt 6, 3) := all_at dvX11_test_0 21 rfl
theorem dX11_test_46 : decode cX11_test 46 = .ok (.ldc 99, 2) := all_at dvX11_test_0 22 rfl
theorem dX11_test_48 : decode cX11_test 48 = .ok (.ireturn, 1) := all_at dvX11_test_0 23 rfl
set_option maxRecDepth 100000 in
theorem dvX11_test_49 : ([(49, .aload_n 0, 1), (50, .getfield 19, 3), (53, .iload_n 1, 1), (54, .aload_n 0, 1), (55, .getfield 85, 3), (58, .iload_n 2, 1), (59, .iload_n 3, 1), (60, .isub, 1), (61, .invokevirtual 135, 3), (64, .ireturn, 1)] : List (Nat × Instr × Nat)).all (fun q => decide (decode cX11_test q.1 = .ok (q.2.1, q.2.2))) = true := by decide +kernel
theorem dX11_test_49 : decode cX11_test 49 = .ok (.aload_n 0, 1) := all_at dvX11_test_49 0 rfl
theorem dX11_test_50 : decode cX11_test 50 = .ok (.getfield 19, 3) := all_at dvX11_test_49 1 rfl
theorem dX11_test_53 : decode cX11_test 53 = .ok (.iload_n 1, 1) := all_at dvX11_test_49 2 rfl
theorem dX11_test_54 : decode cX11_test 54 = .ok (.aload_n 0, 1) := all_at dvX11_test_49 3 rfl
theorem dX11_test_55 : decode cX11_test 55 = .ok (.getfield 85, 3) := all_at dvX11_test_49 4 rfl
theorem dX11_test_58 : decode cX11_test 58 = .ok (.iload_n 2, 1) := all_at dvX11_test_49 5 rfl
theorem dX11_test_59 : decode cX11_test 59 = .ok (.iload_n 3, 1) := all_at dvX11_test_49 6 rfl
theorem dX11_test_60 : decode cX11_test 60 = .ok (.isub, 1) := all_at dvX11_test_49 7 rfl
theorem dX11_test_61 : decode cX11_test 61 = .ok (.invokevirtual 135, 3) := all_at dvX11_test_49 8 rfl
theorem dX11_test_64 : decode cX11_test 64 = .ok (.ireturn, 1) := all_at dvX11_test_49 9 rfl
set_option maxRecDepth 100000 in
theorem dvX11_told_0 : ([(0, .aload_n 0, 1), (1, .getfield 10, 3), (4, .iload_n 1, 1), (5, .invokevirtual 126, 3), (8, .ifCond .ne 6, 3), (11, .ldc 108, 2), (13, .ireturn, 1), (14, .iload_n 2, 1), (15, .iconst 0, 1), (16, .bipush 8, 2), (18, .invokestatic 89, 3), (21, .ifCond .eq 15, 3), (24, .aload_n 0, 1), (25, .getfield 10, 3), (28, .iload_n 1, 1), (29, .iload_n 2, 1), (30, .invokevirtual 127, 3), (33, .goto 5, 3), (36, .ldc 93, 2), (38, .ireturn, 1)] : List (Nat × Instr × Nat)).all (fun q => decide (decode cX11_told q.1 = .ok (q.2.1, q.2.2))) = true := by decide +kernel
theorem dX11_told_0 : decode cX11_told 0 = .ok (.aload_n 0, 1) := all_at dvX11_told_0 0 rfl
theorem dX11_told_1 : decode cX11_told 1 = .ok (.getfield 10, 3) := all_at dvX11_told_0 1 rfl
theorem dX11_told_4 : decode cX11_told 4 = .ok (.iload_n 1, 1) := all_at dvX11_told_0 2 rfl
theorem dX11_told_5 : decode cX11_told 5 = .ok (.invokevirtual 126, 3) := all_at dvX11_told_0 3 rfl
theorem dX11_told_8 : decode cX11_told 8 = .ok (.ifCond .ne 6, 3) := all_at dvX11_told_0 4 rfl
theorem dX11_told_11 : decode cX11_told 11 = .ok (.ldc 108, 2) := all_at dvX11_told_0 5 rfl
theorem dX11_told_13 : decode cX11_told 13 = .ok (.ireturn, 1) := all_at dvX11_told_0 6 rfl
theorem dX11_told_14 : decode cX11_told 14 = .ok (.iload_n 2, 1) := all_at dvX11_told_0 7 rfl
theorem dX11_told_15 : decode cX11_told 15 = .ok (.iconst 0, 1) := all_at dvX11_told_0 8 rfl
theorem dX11_told_16 : decode cX11_told 16 = .ok (.bipush 8, 2) := all_at dvX11_told_0 9 rfl
theorem dX11_told_18 : decode cX11_told 18 = .ok (.invokestatic 89, 3) := all_at dvX11_told_0 10 rfl
theorem dX11_told_21 : decode cX11_told 21 = .ok (.ifCond .eq 15, 3) := all_at dvX11_told_0 11 rfl
theorem dX11_told_24 : decode cX11_told 24 = .ok (.aload_n 0, 1) := all_at dvX11_told_0 12 rfl
theorem dX11_told_25 : decode cX11_told 25 = .ok (.getfield 10, 3) := all_at dvX11_told_0 13 rfl
theorem dX11_told_28 : decode cX11_told 28 = .ok (.iload_n 1, 1) := all_at dvX11_told_0 14 rfl
theorem dX11_told_29 : decode cX11_told 29 = .ok (.iload_n 2, 1) := all_at dvX11_told_0 15 rfl
theorem dX11_told_30 : decode cX11_told 30 = .ok (.invokevirtual 127, 3) := all_at dvX11_told_0 16 rfl
theorem dX11_told_33 : decode cX11_told 33 = .ok (.goto 5, 3) := all_at dvX11_told_0 17 rfl
theorem dX11_told_36 : decode cX11_told 36 = .ok (.ldc 93, 2) := all_at dvX11_told_0 18 rfl
theorem dX11_told_38 : decode cX11_told 38 = .ok (.ireturn, 1) := all_at dvX11_told_0 19 rfl
set_option maxRecDepth 100000 in
theorem dvX11_within_0 : ([(0, .iload_n 0, 1), (1, .iload_n 1, 1), (2, .if_icmp .lt 12, 3), (5, .iload_n 0, 1), (6, .iload_n 2, 1), (7, .if_icmp .gt 7, 3), (10, .iconst 1, 1), (11, .goto 4, 3), (14, .iconst 0, 1), (15, .ireturn, 1)] : List (Nat × Instr × Nat)).all (fun q => decide (decode cX11_within q.1 = .ok (q.2.1, q.2.2))) = true := by decide +kernel
theorem dX11_within_0 : decode cX11_within 0 = .ok (.iload_n 0, 1) := all_at dvX11_within_0 0 rfl
theorem dX11_within_1 : decode cX11_within 1 = .ok (.iload_n 1, 1) := all_at dvX11_within_0 1 rfl
theorem dX11_within_2 : decode cX11_within 2 = .ok (.if_icmp .lt 12, 3) := all_at dvX11_within_0 2 rfl
theorem dX11_within_5 : decode cX11_within 5 = .ok (.iload_n 0, 1) := all_at dvX11_within_0 3 rfl
theorem dX11_within_6 : decode cX11_within 6 = .ok (.iload_n 2, 1) := all_at dvX11_within_0 4 rfl
theorem dX11_within_7 : decode cX11_within 7 = .ok (.if_icmp .gt 7, 3) := all_at dvX11_within_0 5 rfl
theorem dX11_within_10 : decode cX11_within 10 = .ok (.iconst 1, 1) := all_at dvX11_within_0 6 rfl
theorem dX11_within_11 : decode cX11_within 11 = .ok (.goto 4, 3) := all_at dvX11_within_0 7 rfl
theorem dX11_within_14 : decode cX11_within 14 = .ok (.iconst 0, 1) := all_at dvX11_within_0 8 rfl
theorem dX11_within_15 : decode cX11_within 15 = .ok (.ireturn, 1) := all_at dvX11_within_0 9 rfl
set_option maxHeartbeats 4000000 in
set_option maxRecDepth 100000 in
/-- X11_within -/
theorem c_X11_within (l : Launch) (dC : Nat → ClassId) (dI : Nat → Nat → Nat) (n : Int32) (lo : Int32) (hi : Int32) (N L M : Int) (hn : n.toInt = N) (hlo : lo.toInt = L) (hhi : hi.toInt = M) : Met l yX11_within (wc yX11_within cX11_within 3 (some .boolean)) ({ frames := 0, cells := 0, slots := 0, locals := 0 } : Room) (pR (dC, dI) classes [] [] [.int n, .int lo, .int hi]) (vp_Si (fun r => (r = 1 ∧ (L ≤ N ∧ N ≤ M)) ∨ (r = 0 ∧ ¬ (L ≤ N ∧ N ≤ M)))) 0 0 (fun _ => False) := by
  refine Met.ofW (cc := cX11_within) (maxL := 3) (ret := (some .boolean)) (by decide) rfl ?_
  intro p e s m args below meth c s₁ B hml hv
  obtain ⟨rfl, hP, hK⟩ := hv
  have hx := B.exec
  have hb := B.bytes
  have hr := B.returns
  have ht := tb_tl (atoms_spec (ws := wc yX11_within cX11_within 3 (some .boolean)) B.pre)
  have hown : s.vm.findClass RX11 = some m.cls := findClass_of_methodNamed B.named
  have hlocks := B.notSynchronized
  have hl := lv_entry [.int n, .int lo, .int hi] (n := 3) (Nat.le_of_ble_eq_true rfl)
  rw [lg_entry_eq]
  generalize (lg_sl [.int n, .int lo, .int hi] ++ List.replicate (3 - (lg_sl [.int n, .int lo, .int hi]).length) Slot.unset).toArray = ls at hl ⊢
  have hl : lv_has ls 3 [(0, .int n), (1, .int lo), (2, .int hi)] := hl
  refine lv_iload_n hx hb dX11_within_0 rfl (lv_at hl 0 rfl) ?_
  refine lv_iload_n hx hb dX11_within_1 rfl (lv_at hl 1 rfl) ?_
  refine lv_icmp_lt (tgt := 14) hx hb dX11_within_2 (by decide) (fun c1 => ?_) (fun c1 => ?_)
  · have fc1 := z_lt hn hlo c1
    refine lv_iconst (v := 0) hx hb dX11_within_14 (by decide) ?_
    exact W.zret (v := 0) hx hb hr rfl (fun t ht9 hW => ⟨0, rfl, Or.inr ⟨rfl, by omega⟩, ht9⟩) (fun q hq => by cases hq) dX11_within_15
  · have fc1 := z_nlt hn hlo c1
    refine lv_iload_n hx hb dX11_within_5 rfl (lv_at hl 0 rfl) ?_
    refine lv_iload_n hx hb dX11_within_6 rfl (lv_at hl 2 rfl) ?_
    refine lv_icmp_gt (tgt := 14) hx hb dX11_within_7 (by decide) (fun c2 => ?_) (fun c2 => ?_)
    · have fc2 := z_lt hhi hn c2
      refine lv_iconst (v := 0) hx hb dX11_within_14 (by decide) ?_
      exact W.zret (v := 0) hx hb hr rfl (fun t ht9 hW => ⟨0, rfl, Or.inr ⟨rfl, by omega⟩, ht9⟩) (fun q hq => by cases hq) dX11_within_15
    · have fc2 := z_nlt hhi hn c2
      refine lv_iconst (v := 1) hx hb dX11_within_10 (by decide) ?_
      refine lv_goto (tgt := 15) hx hb dX11_within_11 (by decide) ?_
      exact W.zret (v := 1) hx hb hr rfl (fun t ht9 hW => ⟨1, rfl, Or.inl ⟨rfl, by omega⟩, ht9⟩) (fun q hq => by cases hq) dX11_within_15
