/-! ===== n4 ===== -/
set_option maxRecDepth 100000 in
theorem m_51 : Cond.selects RX12 yX12_readClause yX12_readClause ∈ tb := tb_in 51 (by decide +kernel) rfl
theorem m_1163 : Cond.fieldLink RX12 59 "SilkHouseModel" "inForce" "[I" ∈ tb := mb_5_5 _ (List.mem_of_getElem? (i := 4) rfl)
theorem m_1476 : Cond.methodLink RX12 310 yX12_readClause ∈ tb := mb_6_4 _ (List.mem_of_getElem? (i := 6) rfl)
theorem m_1478 : Cond.instanceMethod yX12_readClause ∈ tb := mb_6_4 _ (List.mem_of_getElem? (i := 7) rfl)
theorem m_1479 : Cond.code yX12_readClause cX12_readClause 4 none ∈ tb := mb_6_4 _ (List.mem_of_getElem? (i := 8) rfl)
theorem hd_X12_readClause_v : yX12_readClause.cls = RX12 ∧ yX12_readClause.cls ≠ "java/lang/invoke/MethodHandle" ∧ yX12_readClause.cls ≠ "java/lang/invoke/VarHandle" ∧ (parseMethodDescriptor yX12_readClause.desc).map (fun d => d.parameters.length) = some 2 := by decide +kernel
set_option maxRecDepth 100000 in
theorem dvX12_rule_0 : ([(0, .iload_n 1, 1), (1, .invokestatic 216, 3), (4, .ifCond .ne 6, 3), (7, .ldc 178, 2), (9, .ireturn, 1), (10, .aload_n 0, 1), (11, .getfield 303, 3), (14, .bipush 8, 2), (16, .if_icmp .ne 6, 3), (19, .ldc 182, 2), (21, .ireturn, 1), (22, .aload_n 0, 1), (23, .iconst 0, 1), (24, .putfield 254, 3), (27, .aload_n 0, 1), (28, .iconst 0, 1), (29, .putfield 257, 3), (32, .aload_n 0, 1), (33, .iconst (-1), 1), (34, .putfield 86, 3), (37, .iconst 0, 1), (38, .istore_n 2, 1), (39, .aload_n 0, 1), (40, .getfield 257, 3)] : List (Nat × Instr × Nat)).all (fun q => decide (decode cX12_rule q.1 = .ok (q.2.1, q.2.2))) = true := by decide +kernel
theorem dX12_rule_0 : decode cX12_rule 0 = .ok (.iload_n 1, 1) := all_at dvX12_rule_0 0 rfl
theorem dX12_rule_1 : decode cX12_rule 1 = .ok (.invokestatic 216, 3) := all_at dvX12_rule_0 1 rfl
theorem dX12_rule_4 : decode cX12_rule 4 = .ok (.ifCond .ne 6, 3) := all_at dvX12_rule_0 2 rfl
theorem dX12_rule_7 : decode cX12_rule 7 = .ok (.ldc 178, 2) := all_at dvX12_rule_0 3 rfl
theorem dX12_rule_9 : decode cX12_rule 9 = .ok (.ireturn, 1) := all_at dvX12_rule_0 4 rfl
theorem dX12_rule_10 : decode cX12_rule 10 = .ok (.aload_n 0, 1) := all_at dvX12_rule_0 5 rfl
theorem dX12_rule_11 : decode cX12_rule 11 = .ok (.getfield 303, 3) := all_at dvX12_rule_0 6 rfl
theorem dX12_rule_14 : decode cX12_rule 14 = .ok (.bipush 8, 2) := all_at dvX12_rule_0 7 rfl
theorem dX12_rule_16 : decode cX12_rule 16 = .ok (.if_icmp .ne 6, 3) := all_at dvX12_rule_0 8 rfl
theorem dX12_rule_19 : decode cX12_rule 19 = .ok (.ldc 182, 2) := all_at dvX12_rule_0 9 rfl
theorem dX12_rule_21 : decode cX12_rule 21 = .ok (.ireturn, 1) := all_at dvX12_rule_0 10 rfl
theorem dX12_rule_22 : decode cX12_rule 22 = .ok (.aload_n 0, 1) := all_at dvX12_rule_0 11 rfl
theorem dX12_rule_23 : decode cX12_rule 23 = .ok (.iconst 0, 1) := all_at dvX12_rule_0 12 rfl
theorem dX12_rule_24 : decode cX12_rule 24 = .ok (.putfield 254, 3) := all_at dvX12_rule_0 13 rfl
theorem dX12_rule_27 : decode cX12_rule 27 = .ok (.aload_n 0, 1) := all_at dvX12_rule_0 14 rfl
theorem dX12_rule_28 : decode cX12_rule 28 = .ok (.iconst 0, 1) := all_at dvX12_rule_0 15 rfl
theorem dX12_rule_29 : decode cX12_rule 29 = .ok (.putfield 257, 3) := all_at dvX12_rule_0 16 rfl
theorem dX12_rule_32 : decode cX12_rule 32 = .ok (.aload_n 0, 1) := all_at dvX12_rule_0 17 rfl
theorem dX12_rule_33 : decode cX12_rule 33 = .ok (.iconst (-1), 1) := all_at dvX12_rule_0 18 rfl
theorem dX12_rule_34 : decode cX12_rule 34 = .ok (.putfield 86, 3) := all_at dvX12_rule_0 19 rfl
theorem dX12_rule_37 : decode cX12_rule 37 = .ok (.iconst 0, 1) := all_at dvX12_rule_0 20 rfl
theorem dX12_rule_38 : decode cX12_rule 38 = .ok (.istore_n 2, 1) := all_at dvX12_rule_0 21 rfl
theorem dX12_rule_39 : decode cX12_rule 39 = .ok (.aload_n 0, 1) := all_at dvX12_rule_0 22 rfl
theorem dX12_rule_40 : decode cX12_rule 40 = .ok (.getfield 257, 3) := all_at dvX12_rule_0 23 rfl
set_option maxRecDepth 100000 in
theorem dvX12_rule_43 : ([(43, .ifCond .ne 170, 3), (46, .aload_n 0, 1), (47, .invokevirtual 260, 3), (50, .ifCond .lt 163, 3), (53, .aload_n 0, 1), (54, .invokevirtual 286, 3), (57, .aload_n 0, 1), (58, .iconst 3, 1), (59, .bipush 108, 2), (61, .bipush 101, 2), (63, .bipush 116, 2), (65, .iconst 0, 1), (66, .iconst 0, 1), (67, .iconst 0, 1), (68, .invokevirtual 282, 3), (71, .ifCond .eq 7, 3), (74, .iconst 0, 1), (75, .goto 73, 3), (78, .aload_n 0, 1), (79, .iconst 4, 1), (80, .bipush 116, 2), (82, .bipush 97, 2), (84, .bipush 107, 2), (86, .bipush 101, 2)] : List (Nat × Instr × Nat)).all (fun q => decide (decode cX12_rule q.1 = .ok (q.2.1, q.2.2))) = true := by decide +kernel
theorem dX12_rule_43 : decode cX12_rule 43 = .ok (.ifCond .ne 170, 3) := all_at dvX12_rule_43 0 rfl
theorem dX12_rule_46 : decode cX12_rule 46 = .ok (.aload_n 0, 1) := all_at dvX12_rule_43 1 rfl
theorem dX12_rule_47 : decode cX12_rule 47 = .ok (.invokevirtual 260, 3) := all_at dvX12_rule_43 2 rfl
theorem dX12_rule_50 : decode cX12_rule 50 = .ok (.ifCond .lt 163, 3) := all_at dvX12_rule_43 3 rfl
theorem dX12_rule_53 : decode cX12_rule 53 = .ok (.aload_n 0, 1) := all_at dvX12_rule_43 4 rfl
theorem dX12_rule_54 : decode cX12_rule 54 = .ok (.invokevirtual 286, 3) := all_at dvX12_rule_43 5 rfl
theorem dX12_rule_57 : decode cX12_rule 57 = .ok (.aload_n 0, 1) := all_at dvX12_rule_43 6 rfl
theorem dX12_rule_58 : decode cX12_rule 58 = .ok (.iconst 3, 1) := all_at dvX12_rule_43 7 rfl
theorem dX12_rule_59 : decode cX12_rule 59 = .ok (.bipush 108, 2) := all_at dvX12_rule_43 8 rfl
theorem dX12_rule_61 : decode cX12_rule 61 = .ok (.bipush 101, 2) := all_at dvX12_rule_43 9 rfl
theorem dX12_rule_63 : decode cX12_rule 63 = .ok (.bipush 116, 2) := all_at dvX12_rule_43 10 rfl
theorem dX12_rule_65 : decode cX12_rule 65 = .ok (.iconst 0, 1) := all_at dvX12_rule_43 11 rfl
theorem dX12_rule_66 : decode cX12_rule 66 = .ok (.iconst 0, 1) := all_at dvX12_rule_43 12 rfl
theorem dX12_rule_67 : decode cX12_rule 67 = .ok (.iconst 0, 1) := all_at dvX12_rule_43 13 rfl
theorem dX12_rule_68 : decode cX12_rule 68 = .ok (.invokevirtual 282, 3) := all_at dvX12_rule_43 14 rfl
theorem dX12_rule_71 : decode cX12_rule 71 = .ok (.ifCond .eq 7, 3) := all_at dvX12_rule_43 15 rfl
theorem dX12_rule_74 : decode cX12_rule 74 = .ok (.iconst 0, 1) := all_at dvX12_rule_43 16 rfl
theorem dX12_rule_75 : decode cX12_rule 75 = .ok (.goto 73, 3) := all_at dvX12_rule_43 17 rfl
theorem dX12_rule_78 : decode cX12_rule 78 = .ok (.aload_n 0, 1) := all_at dvX12_rule_43 18 rfl
theorem dX12_rule_79 : decode cX12_rule 79 = .ok (.iconst 4, 1) := all_at dvX12_rule_43 19 rfl
theorem dX12_rule_80 : decode cX12_rule 80 = .ok (.bipush 116, 2) := all_at dvX12_rule_43 20 rfl
theorem dX12_rule_82 : decode cX12_rule 82 = .ok (.bipush 97, 2) := all_at dvX12_rule_43 21 rfl
theorem dX12_rule_84 : decode cX12_rule 84 = .ok (.bipush 107, 2) := all_at dvX12_rule_43 22 rfl
theorem dX12_rule_86 : decode cX12_rule 86 = .ok (.bipush 101, 2) := all_at dvX12_rule_43 23 rfl
set_option maxRecDepth 100000 in
theorem dvX12_rule_88 : ([(88, .iconst 0, 1), (89, .iconst 0, 1), (90, .invokevirtual 282, 3), (93, .ifCond .eq 7, 3), (96, .iconst 1, 1), (97, .goto 51, 3), (100, .aload_n 0, 1), (101, .iconst 4, 1), (102, .bipush 110, 2), (104, .bipush 97, 2), (106, .bipush 109, 2), (108, .bipush 101, 2), (110, .iconst 0, 1), (111, .iconst 0, 1), (112, .invokevirtual 282, 3), (115, .ifCond .eq 7, 3), (118, .iconst 2, 1), (119, .goto 29, 3), (122, .aload_n 0, 1), (123, .bipush 6, 2), (125, .bipush 115, 2), (127, .bipush 116, 2), (129, .bipush 114, 2), (131, .bipush 105, 2)] : List (Nat × Instr × Nat)).all (fun q => decide (decode cX12_rule q.1 = .ok (q.2.1, q.2.2))) = true := by decide +kernel
theorem dX12_rule_88 : decode cX12_rule 88 = .ok (.iconst 0, 1) := all_at dvX12_rule_88 0 rfl
theorem dX12_rule_89 : decode cX12_rule 89 = .ok (.iconst 0, 1) := all_at dvX12_rule_88 1 rfl
theorem dX12_rule_90 : decode cX12_rule 90 = .ok (.invokevirtual 282, 3) := all_at dvX12_rule_88 2 rfl
theorem dX12_rule_93 : decode cX12_rule 93 = .ok (.ifCond .eq 7, 3) := all_at dvX12_rule_88 3 rfl
theorem dX12_rule_96 : decode cX12_rule 96 = .ok (.iconst 1, 1) := all_at dvX12_rule_88 4 rfl
theorem dX12_rule_97 : decode cX12_rule 97 = .ok (.goto 51, 3) := all_at dvX12_rule_88 5 rfl
theorem dX12_rule_100 : decode cX12_rule 100 = .ok (.aload_n 0, 1) := all_at dvX12_rule_88 6 rfl
theorem dX12_rule_101 : decode cX12_rule 101 = .ok (.iconst 4, 1) := all_at dvX12_rule_88 7 rfl
theorem dX12_rule_102 : decode cX12_rule 102 = .ok (.bipush 110, 2) := all_at dvX12_rule_88 8 rfl
theorem dX12_rule_104 : decode cX12_rule 104 = .ok (.bipush 97, 2) := all_at dvX12_rule_88 9 rfl
theorem dX12_rule_106 : decode cX12_rule 106 = .ok (.bipush 109, 2) := all_at dvX12_rule_88 10 rfl
theorem dX12_rule_108 : decode cX12_rule 108 = .ok (.bipush 101, 2) := all_at dvX12_rule_88 11 rfl
theorem dX12_rule_110 : decode cX12_rule 110 = .ok (.iconst 0, 1) := all_at dvX12_rule_88 12 rfl
theorem dX12_rule_111 : decode cX12_rule 111 = .ok (.iconst 0, 1) := all_at dvX12_rule_88 13 rfl
theorem dX12_rule_112 : decode cX12_rule 112 = .ok (.invokevirtual 282, 3) := all_at dvX12_rule_88 14 rfl
theorem dX12_rule_115 : decode cX12_rule 115 = .ok (.ifCond .eq 7, 3) := all_at dvX12_rule_88 15 rfl
theorem dX12_rule_118 : decode cX12_rule 118 = .ok (.iconst 2, 1) := all_at dvX12_rule_88 16 rfl
theorem dX12_rule_119 : decode cX12_rule 119 = .ok (.goto 29, 3) := all_at dvX12_rule_88 17 rfl
theorem dX12_rule_122 : decode cX12_rule 122 = .ok (.aload_n 0, 1) := all_at dvX12_rule_88 18 rfl
theorem dX12_rule_123 : decode cX12_rule 123 = .ok (.bipush 6, 2) := all_at dvX12_rule_88 19 rfl
theorem dX12_rule_125 : decode cX12_rule 125 = .ok (.bipush 115, 2) := all_at dvX12_rule_88 20 rfl
theorem dX12_rule_127 : decode cX12_rule 127 = .ok (.bipush 116, 2) := all_at dvX12_rule_88 21 rfl
theorem dX12_rule_129 : decode cX12_rule 129 = .ok (.bipush 114, 2) := all_at dvX12_rule_88 22 rfl
theorem dX12_rule_131 : decode cX12_rule 131 = .ok (.bipush 105, 2) := all_at dvX12_rule_88 23 rfl
set_option maxRecDepth 100000 in
theorem dvX12_rule_133 : ([(133, .bipush 107, 2), (135, .bipush 101, 2), (137, .invokevirtual 282, 3), (140, .ifCond .eq 7, 3), (143, .iconst 3, 1), (144, .goto 4, 3), (147, .iconst (-1), 1), (148, .istore_n 3, 1), (149, .aload_n 0, 1), (150, .iload_n 3, 1), (151, .ifCond .lt 7, 3), (154, .iconst 1, 1), (155, .goto 4, 3), (158, .iconst 0, 1), (159, .iconst 1, 1), (160, .aload_n 0, 1), (161, .getfield 264, 3), (164, .invokevirtual 278, 3), (167, .ifCond .eq 43, 3), (170, .aload_n 0, 1), (171, .iload_n 2, 1), (172, .bipush 12, 2), (174, .if_icmp .ge 7, 3), (177, .iconst 1, 1)] : List (Nat × Instr × Nat)).all (fun q => decide (decode cX12_rule q.1 = .ok (q.2.1, q.2.2))) = true := by decide +kernel
theorem dX12_rule_133 : decode cX12_rule 133 = .ok (.bipush 107, 2) := all_at dvX12_rule_133 0 rfl
theorem dX12_rule_135 : decode cX12_rule 135 = .ok (.bipush 101, 2) := all_at dvX12_rule_133 1 rfl
theorem dX12_rule_137 : decode cX12_rule 137 = .ok (.invokevirtual 282, 3) := all_at dvX12_rule_133 2 rfl
theorem dX12_rule_140 : decode cX12_rule 140 = .ok (.ifCond .eq 7, 3) := all_at dvX12_rule_133 3 rfl
theorem dX12_rule_143 : decode cX12_rule 143 = .ok (.iconst 3, 1) := all_at dvX12_rule_133 4 rfl
theorem dX12_rule_144 : decode cX12_rule 144 = .ok (.goto 4, 3) := all_at dvX12_rule_133 5 rfl
theorem dX12_rule_147 : decode cX12_rule 147 = .ok (.iconst (-1), 1) := all_at dvX12_rule_133 6 rfl
theorem dX12_rule_148 : decode cX12_rule 148 = .ok (.istore_n 3, 1) := all_at dvX12_rule_133 7 rfl
theorem dX12_rule_149 : decode cX12_rule 149 = .ok (.aload_n 0, 1) := all_at dvX12_rule_133 8 rfl
theorem dX12_rule_150 : decode cX12_rule 150 = .ok (.iload_n 3, 1) := all_at dvX12_rule_133 9 rfl
theorem dX12_rule_151 : decode cX12_rule 151 = .ok (.ifCond .lt 7, 3) := all_at dvX12_rule_133 10 rfl
theorem dX12_rule_154 : decode cX12_rule 154 = .ok (.iconst 1, 1) := all_at dvX12_rule_133 11 rfl
theorem dX12_rule_155 : decode cX12_rule 155 = .ok (.goto 4, 3) := all_at dvX12_rule_133 12 rfl
theorem dX12_rule_158 : decode cX12_rule 158 = .ok (.iconst 0, 1) := all_at dvX12_rule_133 13 rfl
theorem dX12_rule_159 : decode cX12_rule 159 = .ok (.iconst 1, 1) := all_at dvX12_rule_133 14 rfl
theorem dX12_rule_160 : decode cX12_rule 160 = .ok (.aload_n 0, 1) := all_at dvX12_rule_133 15 rfl
theorem dX12_rule_161 : decode cX12_rule 161 = .ok (.getfield 264, 3) := all_at dvX12_rule_133 16 rfl
theorem dX12_rule_164 : decode cX12_rule 164 = .ok (.invokevirtual 278, 3) := all_at dvX12_rule_133 17 rfl
theorem dX12_rule_167 : decode cX12_rule 167 = .ok (.ifCond .eq 43, 3) := all_at dvX12_rule_133 18 rfl
theorem dX12_rule_170 : decode cX12_rule 170 = .ok (.aload_n 0, 1) := all_at dvX12_rule_133 19 rfl
theorem dX12_rule_171 : decode cX12_rule 171 = .ok (.iload_n 2, 1) := all_at dvX12_rule_133 20 rfl
theorem dX12_rule_172 : decode cX12_rule 172 = .ok (.bipush 12, 2) := all_at dvX12_rule_133 21 rfl
theorem dX12_rule_174 : decode cX12_rule 174 = .ok (.if_icmp .ge 7, 3) := all_at dvX12_rule_133 22 rfl
theorem dX12_rule_177 : decode cX12_rule 177 = .ok (.iconst 1, 1) := all_at dvX12_rule_133 23 rfl
set_option maxRecDepth 100000 in
theorem dvX12_rule_178 : ([(178, .goto 4, 3), (181, .iconst 0, 1), (182, .iconst 5, 1), (183, .aload_n 0, 1), (184, .getfield 264, 3), (187, .invokevirtual 278, 3), (190, .ifCond .eq 20, 3), (193, .aload_n 0, 1), (194, .iload_n 3, 1), (195, .bipush 12, 2), (197, .aload_n 0, 1), (198, .getfield 303, 3), (201, .imul, 1), (202, .iload_n 2, 1), (203, .iadd, 1), (204, .invokevirtual 310, 3), (207, .iinc 2 1, 3), (210, .goto (-171), 3), (213, .aload_n 0, 1), (214, .iconst 0, 1), (215, .putfield 249, 3), (218, .aload_n 0, 1), (219, .getfield 257, 3), (222, .ifCond .le 11, 3)] : List (Nat × Instr × Nat)).all (fun q => decide (decode cX12_rule q.1 = .ok (q.2.1, q.2.2))) = true := by decide +kernel
theorem dX12_rule_178 : decode cX12_rule 178 = .ok (.goto 4, 3) := all_at dvX12_rule_178 0 rfl
theorem dX12_rule_181 : decode cX12_rule 181 = .ok (.iconst 0, 1) := all_at dvX12_rule_178 1 rfl
theorem dX12_rule_182 : decode cX12_rule 182 = .ok (.iconst 5, 1) := all_at dvX12_rule_178 2 rfl
theorem dX12_rule_183 : decode cX12_rule 183 = .ok (.aload_n 0, 1) := all_at dvX12_rule_178 3 rfl
theorem dX12_rule_184 : decode cX12_rule 184 = .ok (.getfield 264, 3) := all_at dvX12_rule_178 4 rfl
theorem dX12_rule_187 : decode cX12_rule 187 = .ok (.invokevirtual 278, 3) := all_at dvX12_rule_178 5 rfl
theorem dX12_rule_190 : decode cX12_rule 190 = .ok (.ifCond .eq 20, 3) := all_at dvX12_rule_178 6 rfl
theorem dX12_rule_193 : decode cX12_rule 193 = .ok (.aload_n 0, 1) := all_at dvX12_rule_178 7 rfl
theorem dX12_rule_194 : decode cX12_rule 194 = .ok (.iload_n 3, 1) := all_at dvX12_rule_178 8 rfl
theorem dX12_rule_195 : decode cX12_rule 195 = .ok (.bipush 12, 2) := all_at dvX12_rule_178 9 rfl
theorem dX12_rule_197 : decode cX12_rule 197 = .ok (.aload_n 0, 1) := all_at dvX12_rule_178 10 rfl
theorem dX12_rule_198 : decode cX12_rule 198 = .ok (.getfield 303, 3) := all_at dvX12_rule_178 11 rfl
theorem dX12_rule_201 : decode cX12_rule 201 = .ok (.imul, 1) := all_at dvX12_rule_178 12 rfl
theorem dX12_rule_202 : decode cX12_rule 202 = .ok (.iload_n 2, 1) := all_at dvX12_rule_178 13 rfl
theorem dX12_rule_203 : decode cX12_rule 203 = .ok (.iadd, 1) := all_at dvX12_rule_178 14 rfl
theorem dX12_rule_204 : decode cX12_rule 204 = .ok (.invokevirtual 310, 3) := all_at dvX12_rule_178 15 rfl
theorem dX12_rule_207 : decode cX12_rule 207 = .ok (.iinc 2 1, 3) := all_at dvX12_rule_178 16 rfl
theorem dX12_rule_210 : decode cX12_rule 210 = .ok (.goto (-171), 3) := all_at dvX12_rule_178 17 rfl
theorem dX12_rule_213 : decode cX12_rule 213 = .ok (.aload_n 0, 1) := all_at dvX12_rule_178 18 rfl
theorem dX12_rule_214 : decode cX12_rule 214 = .ok (.iconst 0, 1) := all_at dvX12_rule_178 19 rfl
theorem dX12_rule_215 : decode cX12_rule 215 = .ok (.putfield 249, 3) := all_at dvX12_rule_178 20 rfl
theorem dX12_rule_218 : decode cX12_rule 218 = .ok (.aload_n 0, 1) := all_at dvX12_rule_178 21 rfl
theorem dX12_rule_219 : decode cX12_rule 219 = .ok (.getfield 257, 3) := all_at dvX12_rule_178 22 rfl
theorem dX12_rule_222 : decode cX12_rule 222 = .ok (.ifCond .le 11, 3) := all_at dvX12_rule_178 23 rfl
set_option maxRecDepth 100000 in
theorem dvX12_rule_225 : ([(225, .bipush (-10), 2), (227, .aload_n 0, 1), (228, .getfield 257, 3), (231, .isub, 1), (232, .ireturn, 1), (233, .aload_n 0, 1), (234, .getfield 62, 3), (237, .aload_n 0, 1), (238, .getfield 303, 3), (241, .iload_n 2, 1), (242, .iastore, 1), (243, .aload_n 0, 1), (244, .getfield 59, 3), (247, .aload_n 0, 1), (248, .getfield 303, 3), (251, .iload_n 1, 1), (252, .iastore, 1), (253, .aload_n 0, 1), (254, .dup, 1), (255, .getfield 303, 3), (258, .iconst 1, 1), (259, .iadd, 1), (260, .putfield 303, 3), (263, .aload_n 0, 1)] : List (Nat × Instr × Nat)).all (fun q => decide (decode cX12_rule q.1 = .ok (q.2.1, q.2.2))) = true := by decide +kernel
theorem dX12_rule_225 : decode cX12_rule 225 = .ok (.bipush (-10), 2) := all_at dvX12_rule_225 0 rfl
theorem dX12_rule_227 : decode cX12_rule 227 = .ok (.aload_n 0, 1) := all_at dvX12_rule_225 1 rfl
theorem dX12_rule_228 : decode cX12_rule 228 = .ok (.getfield 257, 3) := all_at dvX12_rule_225 2 rfl
theorem dX12_rule_231 : decode cX12_rule 231 = .ok (.isub, 1) := all_at dvX12_rule_225 3 rfl
theorem dX12_rule_232 : decode cX12_rule 232 = .ok (.ireturn, 1) := all_at dvX12_rule_225 4 rfl
theorem dX12_rule_233 : decode cX12_rule 233 = .ok (.aload_n 0, 1) := all_at dvX12_rule_225 5 rfl
theorem dX12_rule_234 : decode cX12_rule 234 = .ok (.getfield 62, 3) := all_at dvX12_rule_225 6 rfl
theorem dX12_rule_237 : decode cX12_rule 237 = .ok (.aload_n 0, 1) := all_at dvX12_rule_225 7 rfl
theorem dX12_rule_238 : decode cX12_rule 238 = .ok (.getfield 303, 3) := all_at dvX12_rule_225 8 rfl
theorem dX12_rule_241 : decode cX12_rule 241 = .ok (.iload_n 2, 1) := all_at dvX12_rule_225 9 rfl
theorem dX12_rule_242 : decode cX12_rule 242 = .ok (.iastore, 1) := all_at dvX12_rule_225 10 rfl
theorem dX12_rule_243 : decode cX12_rule 243 = .ok (.aload_n 0, 1) := all_at dvX12_rule_225 11 rfl
theorem dX12_rule_244 : decode cX12_rule 244 = .ok (.getfield 59, 3) := all_at dvX12_rule_225 12 rfl
theorem dX12_rule_247 : decode cX12_rule 247 = .ok (.aload_n 0, 1) := all_at dvX12_rule_225 13 rfl
theorem dX12_rule_248 : decode cX12_rule 248 = .ok (.getfield 303, 3) := all_at dvX12_rule_225 14 rfl
theorem dX12_rule_251 : decode cX12_rule 251 = .ok (.iload_n 1, 1) := all_at dvX12_rule_225 15 rfl
theorem dX12_rule_252 : decode cX12_rule 252 = .ok (.iastore, 1) := all_at dvX12_rule_225 16 rfl
theorem dX12_rule_253 : decode cX12_rule 253 = .ok (.aload_n 0, 1) := all_at dvX12_rule_225 17 rfl
theorem dX12_rule_254 : decode cX12_rule 254 = .ok (.dup, 1) := all_at dvX12_rule_225 18 rfl
theorem dX12_rule_255 : decode cX12_rule 255 = .ok (.getfield 303, 3) := all_at dvX12_rule_225 19 rfl
theorem dX12_rule_258 : decode cX12_rule 258 = .ok (.iconst 1, 1) := all_at dvX12_rule_225 20 rfl
theorem dX12_rule_259 : decode cX12_rule 259 = .ok (.iadd, 1) := all_at dvX12_rule_225 21 rfl
theorem dX12_rule_260 : decode cX12_rule 260 = .ok (.putfield 303, 3) := all_at dvX12_rule_225 22 rfl
theorem dX12_rule_263 : decode cX12_rule 263 = .ok (.aload_n 0, 1) := all_at dvX12_rule_225 23 rfl
set_option maxRecDepth 100000 in
theorem dvX12_rule_264 : ([(264, .getfield 303, 3), (267, .iconst 1, 1), (268, .isub, 1), (269, .ireturn, 1)] : List (Nat × Instr × Nat)).all (fun q => decide (decode cX12_rule q.1 = .ok (q.2.1, q.2.2))) = true := by decide +kernel
theorem dX12_rule_264 : decode cX12_rule 264 = .ok (.getfield 303, 3) := all_at dvX12_rule_264 0 rfl
theorem dX12_rule_267 : decode cX12_rule 267 = .ok (.iconst 1, 1) := all_at dvX12_rule_264 1 rfl
theorem dX12_rule_268 : decode cX12_rule 268 = .ok (.isub, 1) := all_at dvX12_rule_264 2 rfl
theorem dX12_rule_269 : decode cX12_rule 269 = .ok (.ireturn, 1) := all_at dvX12_rule_264 3 rfl
