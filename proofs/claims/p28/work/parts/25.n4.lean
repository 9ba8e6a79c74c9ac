/-! ===== n4 ===== -/
set_option maxRecDepth 100000 in
theorem m_51 : Cond.selects RX12 yX12_readClause yX12_readClause ∈ tb := tb_in 51 (by decide +kernel) rfl
theorem m_1163 : Cond.fieldLink RX12 59 "SilkHouseModel" "inForce" "[I" ∈ tb := mb_5_5 _ (List.mem_of_getElem? (i := 4) rfl)
theorem m_1476 : Cond.methodLink RX12 310 yX12_readClause ∈ tb := mb_6_4 _ (List.mem_of_getElem? (i := 6) rfl)
theorem m_1478 : Cond.instanceMethod yX12_readClause ∈ tb := mb_6_4 _ (List.mem_of_getElem? (i := 7) rfl)
theorem m_1479 : Cond.code yX12_readClause cX12_readClause 4 none ∈ tb := mb_6_4 _ (List.mem_of_getElem? (i := 8) rfl)
theorem hd_X12_readClause_v : yX12_readClause.cls = RX12 ∧ yX12_readClause.cls ≠ "java/lang/invoke/MethodHandle" ∧ yX12_readClause.cls ≠ "java/lang/invoke/VarHandle" ∧ (parseMethodDescriptor yX12_readClause.desc).map (fun d => d.parameters.length) = some 2 := by decide +kernel
set_option maxRecDepth 100000 in
theorem dvX12_rule_0 : ([(0, .iload_n 1, 1), (1, .invokestatic 216, 3), (4, .ifCond .ne 6, 3), (7, .ldc 178, 2), (9, .ireturn, 1), (10, .aload_n 0, 1), (11, .getfield 303, 3), (14, .bipush 8, 2), (16, .if_icmp .ne 6, 3), (19, .ldc 182, 2), (21, .ireturn, 1), (22, .aload_n 0, 1), (23, .iconst 0, 1), (24, .putfield 254, 3), (27, .aload_n 0, 1), (28, .iconst 0, 1), (29, .putfield 257, 3), (32, .aload_n 0, 1), (33, .iconst (-1), 1), (34, .putfield 86, 3), (37, .iconst 0, 1), (38, .istore_n 2, 1), (39, .aload_n 0, 1), (40, .getfield 257, 3)] : List (Nat × Instr × Nat)).all (fun q => decide (decode cX12_rule q.1 = .ok (q.2.1, q.2.2))) = true := by decide +kernel
theorem dX12_rule_0 : decode cX12_rule 0 = .ok (.iload_n 1, 1) := all_at dvX12_rule_0 0 rfl
theorem dX12_rule_1 : decode cX12_rule 1 = .ok (.invokestatic 216, 3) := all_at dvX12_rule_0 1 rfl
theorem dX12_rule_4 : decode cX12_rule 4 = .ok (.ifCond .ne 6, 3) := all_at dvX12_rule_0 2 rfl
theorem dX12_rule_7 : decode cX12_rule 7 = .ok (.ldc 178, 2) := all_at dvX12_rule_0 3 rfl
theorem dX12_rule_9 : decode cX12_rule 9 = .ok (.ireturn, 1) := all_at dvX12_rule_0 4 rfl
theorem dX12_rule_10 : decode cX12_rule 10 = .ok (.aload_n 0, 1) := all_at dvX12_rule_0 5 rfl
theorem dX12_rule_11 : decode cX12_rule 11 = .ok (.getfield 303, 3) := all_at dvX12_rule_0 6 rfl
theorem dX12_rule_14 : decode cX12_rule 14 = .ok (.bipush 8, 2) := all_at dvX12_rule_0 7 rfl
theorem dX12_rule_16 : decode cX12_rule 16 = .ok (.if_icmp .ne 6, 3) := all_at dvX12_rule_0 8 rfl
theorem dX12_rule_19 : decode cX12_rule 19 = .ok (.ldc 182, 2) := all_at dvX12_rule_0 9 rfl
theorem dX12_rule_21 : decode cX12_rule 21 = .ok (.ireturn, 1) := all_at dvX12_rule_0 10 rfl
theorem dX12_rule_22 : decode cX12_rule 22 = .ok (.aload_n 0, 1) := all_at dvX12_rule_0 11 rfl
theorem dX12_rule_23 : decode cX12_rule 23 = .ok (.iconst 0, 1) := all_at dvX12_rule_0 12 rfl
theorem dX12_rule_24 : decode cX12_rule 24 = .ok (.putfield 254, 3) := all_at dvX12_rule_0 13 rfl
theorem dX12_rule_27 : decode cX12_rule 27 = .ok (.aload_n 0, 1) := all_at dvX12_rule_0 14 rfl
theorem dX12_rule_28 : decode cX12_rule 28 = .ok (.iconst 0, 1) := all_at dvX12_rule_0 15 rfl
theorem dX12_rule_29 : decode cX12_rule 29 = .ok (.putfield 257, 3) := all_at dvX12_rule_0 16 rfl
theorem dX12_rule_32 : decode cX12_rule 32 = .ok (.aload_n 0, 1) := all_at dvX12_rule_0 17 rfl
theorem dX12_rule_33 : decode cX12_rule 33 = .ok (.iconst (-1), 1) := all_at dvX12_rule_0 18 rfl
theorem dX12_rule_34 : decode cX12_rule 34 = .ok (.putfield 86, 3) := all_at dvX12_rule_0 19 rfl
theorem dX12_rule_37 : decode cX12_rule 37 = .ok (.iconst 0, 1) := all_at dvX12_rule_0 20 rfl
theorem dX12_rule_38 : decode cX12_rule 38 = .ok (.istore_n 2, 1) := all_at dvX12_rule_0 21 rfl
theorem dX12_rule_39 : decode cX12_rule 39 = .ok (.aload_n 0, 1) := all_at dvX12_rule_0 22 rfl
theorem dX12_rule_40 : decode cX12_rule 40 = .ok (.getfield 257, 3) := all_at dvX12_rule_0 23 rfl
set_option maxRecDepth 100000 in
theorem dvX12_rule_43 : ([(43, .ifCond .ne 170, 3), (46, .aload_n 0, 1), (47, .invokevirtual 260, 3), (50, .ifCond .lt 163, 3), (53, .aload_n 0, 1), (54, .invokevirtual 286, 3), (57, .aload_n 0, 1), (58, .iconst 3, 1), (59, .bipush 108, 2), (61, .bipush 101, 2), (63, .bipush 116, 2), (65, .iconst 0, 1), (66, .iconst 0, 1), (67, .iconst 0, 1), (68, .invokevirtual 282, 3), (71, .ifCond .eq 7, 3), (74, .iconst 0, 1), (75, .goto 73, 3), (78, .aload_n 0, 1), (79, .iconst 4, 1), (80, .bipush 116, 2), (82, .bipush 97, 2), (84, .bipush 107, 2), (86, .bipush 101, 2)] : List (Nat × Instr × Nat)).all (fun q => decide (decode cX12_rule q.1 = .ok (q.2.1, q.2.2))) = true := by decide +kernel
theorem dX12_rule_43 : decode cX12_rule 43 = .ok (.ifCond .ne 170, 3) := all_at dvX12_rule_43 0 rfl
theorem dX12_rule_46 : decode cX12_rule 46 = .ok (.aload_n 0, 1) := all_at dvX12_rule_43 1 rfl
theorem dX12_rule_47 : decode cX12_rule 47 = .ok (.invokevirtual 260, 3) := all_at dvX12_rule_43 2 rfl
theorem dX12_rule_50 : decode cX12_rule 50 = .ok (.ifCond .lt 163, 3) := all_at dvX12_rule_43 3 rfl
theorem dX12_rule_53 : decode cX12_rule 53 = .ok (.aload_n 0, 1) := all_at dvX12_rule_43 4 rfl
theorem dX12_rule_54 : decode cX12_rule 54 = .ok (.invokevirtual 286, 3) := all_at dvX12_rule_43 5 rfl
theorem dX12_rule_57 : decode cX12_rule 57 = .ok (.aload_n 0, 1) := all_at dvX12_rule_43 6 rfl
theorem dX12_rule_58 : decode cX12_rule 58 = .ok (.iconst 3, 1) := all_at dvX12_rule_43 7 rfl
theorem dX12_rule_59 : decode cX12_rule 59 = .ok (.bipush 108, 2) := all_at dvX12_rule_43 8 rfl
theorem dX12_rule_61 : decode cX12_rule 61 = .ok (.bipush 101, 2) := all_at dvX12_rule_43 9 rfl
theorem dX12_rule_63 : decode cX12_rule 63 = .ok (.bipush 116, 2) := all_at dvX12_rule_43 10 rfl
theorem dX12_rule_65 : decode cX12_rule 65 = .ok (.iconst 0, 1) := all_at dvX12_rule_43 11 rfl
theorem dX12_rule_66 : decode cX12_rule 66 = .ok (.iconst 0, 1) := all_at dvX12_rule_43 12 rfl
theorem dX12_rule_67 : decode cX12_rule 67 = .ok (.iconst 0, 1) := all_at dvX12_rule_43 13 rfl
theorem dX12_rule_68 : decode cX12_rule 68 = .ok (.invokevirtual 282, 3) := all_at dvX12_rule_43 14 rfl
theorem dX12_rule_71 : decode cX12_rule 71 = .ok (.ifCond .eq 7, 3) := all_at dvX12_rule_43 15 rfl
theorem dX12_rule_74 : decode cX12_rule 74 = .ok (.iconst 0, 1) := all_at dvX12_rule_43 16 rfl
theorem dX12_rule_75 : decode cX12_rule 75 = .ok (.goto 73, 3) := all_at dvX12_rule_43 17 rfl
theorem dX12_rule_78 : decode cX12_rule 78 = .ok (.aload_n 0, 1) := all_at dvX12_rule_43 18 rfl
theorem dX12_rule_79 : decode cX12_rule 79 = .ok (.iconst 4, 1) := all_at dvX12_rule_43 19 rfl
theorem dX12_rule_80 : decode cX12_rule 80 = .ok (.bipush 116, 2) := all_at dvX12_rule_43 20 rfl
theorem dX12_rule_82 : decode cX12_rule 82 = .ok (.bipush 97, 2) := all_at dvX12_rule_43 21 rfl
theorem dX12_rule_84 : decode cX12_rule 84 = .ok (.bipush 107, 2) := all_at dvX12_rule_43 22 rfl
theorem dX12_rule_86 : decode cX12_rule 86 = .ok (.bipush 101, 2) := all_at dvX12_rule_43 23 rfl
set_option maxRecDepth 100000 in
theorem dvX12_rule_88 : ([(88, .iconst 0, 1), (89, .iconst 0, 1), (90, .invokevirtual 282, 3), (93, .ifCond .eq 7, 3), (96, .iconst 1, 1), (97, .goto 51, 3), (100, .aload_n 0, 1), (101, .iconst 4, 1), (102, .bipush 110, 2), (104, .bipush 97, 2), (106, .bipush 109, 2), (108, .bipush 101, 2), (110, .iconst 0, 1), (111, .iconst 0, 1), (112, .invokevirtual 282, 3), (115, .ifCond .eq 7, 3), (118, .iconst 2, 1), (119, .goto 29, 3), (122, .aload_n 0, 1), (123, .bipush 6, 2), (125, .bipush 115, 2), (127, .bipush 116, 2), (129, .bipush 114, 2), (131, .bipush 105, 2)] : List (Nat × Instr × Nat)).all (fun q => decide (decode cX12_rule q.1 = .ok (q.2.1, q.2.2))) = true := by decide +kernel
theorem dX12_rule_88 : decode cX12_rule 88 = .ok (.iconst 0, 1) := all_at dvX12_rule_88 0 rfl
theorem dX12_rule_89 : decode cX12_rule 89 = .ok (.iconst 0, 1) := all_at dvX12_rule_88 1 rfl
theorem dX12_rule_90 : decode cX12_rule 90 = .ok (.invokevirtual 282, 3) := all_at dvX12_rule_88 2 rfl
theorem dX12_rule_93 : decode cX12_rule 93 = .ok (.ifCond .eq 7, 3) := all_at dvX12_rule_88 3 rfl
theorem dX12_rule_96 : decode cX12_rule 96 = .ok (.iconst 1, 1) := all_at dvX12_rule_88 4 rfl
theorem dX12_rule_97 : decode cX12_rule 97 = .ok (.goto 51, 3) := all_at dvX12_rule_88 5 rfl
theorem dX12_rule_100 : decode cX12_rule 100 = .ok (.aload_n 0, 1) := all_at dvX12_rule_88 6 rfl
theorem dX12_rule_101 : decode cX12_rule 101 = .ok (.iconst 4, 1) := all_at dvX12_rule_88 7 rfl
theorem dX12_rule_102 : decode cX12_rule 102 = .ok (.bipush 110, 2) := all_at dvX12_rule_88 8 rfl
theorem dX12_rule_104 : decode cX12_rule 104 = .ok (.bipush 97, 2) := all_at dvX12_rule_88 9 rfl
theorem dX12_rule_106 : decode cX12_rule 106 = .ok (.bipush 109, 2) := all_at dvX12_rule_88 10 rfl
theorem dX12_rule_108 : decode cX12_rule 108 = .ok (.bipush 101, 2) := all_at dvX12_rule_88 11 rfl
theorem dX12_rule_110 : decode cX12_rule 110 = .ok (.iconst 0, 1) := all_at dvX12_rule_88 12 rfl
theorem dX12_rule_111 : decode cX12_rule 111 = .ok (.iconst 0, 1) := all_at dvX12_rule_88 13 rfl
theorem dX12_rule_112 : decode cX12_rule 112 = .ok (.invokevirtual 282, 3) := all_at dvX12_rule_88 14 rfl
theorem dX12_rule_115 : decode cX12_rule 115 = .ok (.ifCond .eq 7, 3) := all_at dvX12_rule_88 15 rfl
theorem dX12_rule_118 : decode cX12_rule 118 = .ok (.iconst 2, 1) := all_at dvX12_rule_88 16 rfl
theorem dX12_rule_119 : decode cX12_rule 119 = .ok (.goto 29, 3) := all_at dvX12_rule_88 17 rfl
theorem dX12_rule_122 : decode cX12_rule 122 = .ok (.aload_n 0, 1) := all_at dvX12_rule_88 18 rfl
theorem dX12_rule_123 : decode cX12_rule 123 = .ok (.bipush 6, 2) := all_at dvX12_rule_88 19 rfl
theorem dX12_rule_125 : decode cX12_rule 125 = .ok (.bipush 115, 2) := all_at dvX12_rule_88 20 rfl
theorem dX12_rule_127 : decode cX12_rule 127 = .ok (.bipush 116, 2) := all_at dvX12_rule_88 21 rfl
theorem dX12_rule_129 : decode cX12_rule 129 = .ok (.bipush 114, 2) := all_at dvX12_rule_88 22 rfl
theorem dX12_rule_131 : decode cX12_rule 131 = .ok (.bipush 105, 2) := all_at dvX12_rule_88 23 rfl
set_option maxRecDepth 100000 in
theorem dvX12_rule_133 : ([(133, .bipush 107, 2), (135, .bipush 101, 2), (137, .invokevirtual 282, 3), (140, .ifCond .eq 7, 3), (143, .iconst 3, 1), (144, .goto 4, 3), (147, .iconst (-1), 1), (148, .istore_n 3, 1), (149, .aload_n 0, 1), (150, .iload_n 3, 1), (151, .ifCond .lt 7, 3), (154, .iconst 1, 1), (155, .goto 4, 3), (158, .iconst 0, 1), (159, .iconst 1, 1), (160, .aload_n 0, 1), (161, .getfield 264, 3), (164, .invokevirtual 278, 3), (167, .ifCond .eq 43, 3), (170, .aload_n 0, 1), (171, .iload_n 2, 1), (172, .bipush 12, 2), (174, .if_icmp .ge 7, 3), (177, .iconst 1, 1)] : List (Nat × Instr × Nat)).all (fun q => decide (decode cX12_rule q.1 = .ok (q.2.1, q.2.2))) = true := by decide +kernel
theorem dX12_rule_133 : decode cX12_rule 133 = .ok (.bipush 107, 2) := all_at dvX12_rule_133 0 rfl
theorem dX12_rule_135 : decode cX12_rule 135 = .ok (.bipush 101, 2) := all_at dvX12_rule_133 1 rfl
theorem dX12_rule_137 : decode cX12_rule 137 = .ok (.invokevirtual 282, 3) := all_at dvX12_rule_133 2 rfl
theorem dX12_rule_140 : decode cX12_rule 140 = .ok (.ifCond .eq 7, 3) := all_at dvX12_rule_133 3 rfl
theorem dX12_rule_143 : decode cX12_rule 143 = .ok (.iconst 3, 1) := all_at dvX12_rule_133 4 rfl
theorem dX12_rule_144 : decode cX12_rule 144 = .ok (.goto 4, 3) := all_at dvX12_rule_133 5 rfl
theorem dX12_rule_147 : decode cX12_rule 147 = .ok (.iconst (-1), 1) := all_at dvX12_rule_133 6 rfl
theorem dX12_rule_148 : decode cX12_rule 148 = .ok (.istore_n 3, 1) := all_at dvX12_rule_133 7 rfl
theorem dX12_rule_149 : decode cX12_rule 149 = .ok (.aload_n 0, 1) := all_at dvX12_rule_133 8 rfl
theorem dX12_rule_150 : decode cX12_rule 150 = .ok (.iload_n 3, 1) := all_at dvX12_rule_133 9 rfl
theorem dX12_rule_151 : decode cX12_rule 151 = .ok (.ifCond .lt 7, 3) := all_at dvX12_rule_133 10 rfl
theorem dX12_rule_154 : decode cX12_rule 154 = .ok (.iconst 1, 1) := all_at dvX12_rule_133 11 rfl
theorem dX12_rule_155 : decode cX12_rule 155 = .ok (.goto 4, 3) := all_at dvX12_rule_133 12 rfl
theorem dX12_rule_158 : decode cX12_rule 158 = .ok (.iconst 0, 1) := all_at dvX12_rule_133 13 rfl
theorem dX12_rule_159 : decode cX12_rule 159 = .ok (.iconst 1, 1) := all_at dvX12_rule_133 14 rfl
theorem dX12_rule_160 : decode cX12_rule 160 = .ok (.aload_n 0, 1) := all_at dvX12_rule_133 15 rfl
theorem dX12_rule_161 : decode cX12_rule 161 = .ok (.getfield 264, 3) := all_at dvX12_rule_133 16 rfl
theorem dX12_rule_164 : decode cX12_rule 164 = .ok (.invokevirtual 278, 3) := all_at dvX12_rule_133 17 rfl
theorem dX12_rule_167 : decode cX12_rule 167 = .ok (.ifCond .eq 43, 3) := all_at dvX12_rule_133 18 rfl
theorem dX12_rule_170 : decode cX12_rule 170 = .ok (.aload_n 0, 1) := all_at dvX12_rule_133 19 rfl
theorem dX12_rule_171 : decode cX12_rule 171 = .ok (.iload_n 2, 1) := all_at dvX12_rule_133 20 rfl
theorem dX12_rule_172 : decode cX12_rule 172 = .ok (.bipush 12, 2) := all_at dvX12_rule_133 21 rfl
theorem dX12_rule_174 : decode cX12_rule 174 = .ok (.if_icmp .ge 7, 3) := all_at dvX12_rule_133 22 rfl
theorem dX12_rule_177 : decode cX12_rule 177 = .ok (.iconst 1, 1) := all_at dvX12_rule_133 23 rfl
set_option maxRecDepth 100000 in
theorem dvX12_rule_178 : ([(178, .goto 4, 3), (181, .iconst 0, 1), (182, .iconst 5, 1), (183, .aload_n 0, 1), (184, .getfield 264, 3), (187, .invokevirtual 278, 3), (190, .ifCond .eq 20, 3), (193, .aload_n 0, 1), (194, .iload_n 3, 1), (195, .bipush 12, 2), (197, .aload_n 0, 1), (198, .getfield 303, 3), (201, .imul, 1), (202, .iload_n 2, 1), (203, .iadd, 1), (204, .invokevirtual 310, 3), (207, .iinc 2 1, 3), (210, .goto (-171), 3), (213, .aload_n 0, 1), (214, .iconst 0, 1), (215, .putfield 249, 3), (218, .aload_n 0, 1), (219, .getfield 257, 3), (222, .ifCond .le 11, 3)] : List (Nat × Instr × Nat)).all (fun q => decide (decode cX12_rule q.1 = .ok (q.2.1, q.2.2))) = true := by decide +kernel
theorem dX12_rule_178 : decode cX12_rule 178 = .ok (.goto 4, 3) := all_at dvX12_rule_178 0 rfl
theorem dX12_rule_181 : decode cX12_rule 181 = .ok (.iconst 0, 1) := all_at dvX12_rule_178 1 rfl
theorem dX12_rule_182 : decode cX12_rule 182 = .ok (.iconst 5, 1) := all_at dvX12_rule_178 2 rfl
theorem dX12_rule_183 : decode cX12_rule 183 = .ok (.aload_n 0, 1) := all_at dvX12_rule_178 3 rfl
theorem dX12_rule_184 : decode cX12_rule 184 = .ok (.getfield 264, 3) := all_at dvX12_rule_178 4 rfl
theorem dX12_rule_187 : decode cX12_rule 187 = .ok (.invokevirtual 278, 3) := all_at dvX12_rule_178 5 rfl
theorem dX12_rule_190 : decode cX12_rule 190 = .ok (.ifCond .eq 20, 3) := all_at dvX12_rule_178 6 rfl
theorem dX12_rule_193 : decode cX12_rule 193 = .ok (.aload_n 0, 1) := all_at dvX12_rule_178 7 rfl
theorem dX12_rule_194 : decode cX12_rule 194 = .ok (.iload_n 3, 1) := all_at dvX12_rule_178 8 rfl
theorem dX12_rule_195 : decode cX12_rule 195 = .ok (.bipush 12, 2) := all_at dvX12_rule_178 9 rfl
theorem dX12_rule_197 : decode cX12_rule 197 = .ok (.aload_n 0, 1) := all_at dvX12_rule_178 10 rfl
theorem dX12_rule_198 : decode cX12_rule 198 = .ok (.getfield 303, 3) := all_at dvX12_rule_178 11 rfl
theorem dX12_rule_201 : decode cX12_rule 201 = .ok (.imul, 1) := all_at dvX12_rule_178 12 rfl
theorem dX12_rule_202 : decode cX12_rule 202 = .ok (.iload_n 2, 1) := all_at dvX12_rule_178 13 rfl
theorem dX12_rule_203 : decode cX12_rule 203 = .ok (.iadd, 1) := all_at dvX12_rule_178 14 rfl
theorem dX12_rule_204 : decode cX12_rule 204 = .ok (.invokevirtual 310, 3) := all_at dvX12_rule_178 15 rfl
theorem dX12_rule_207 : decode cX12_rule 207 = .ok (.iinc 2 1, 3) := all_at dvX12_rule_178 16 rfl
theorem dX12_rule_210 : decode cX12_rule 210 = .ok (.goto (-171), 3) := all_at dvX12_rule_178 17 rfl
theorem dX12_rule_213 : decode cX12_rule 213 = .ok (.aload_n 0, 1) := all_at dvX12_rule_178 18 rfl
theorem dX12_rule_214 : decode cX12_rule 214 = .ok (.iconst 0, 1) := all_at dvX12_rule_178 19 rfl
theorem dX12_rule_215 : decode cX12_rule 215 = .ok (.putfield 249, 3) := all_at dvX12_rule_178 20 rfl
theorem dX12_rule_218 : decode cX12_rule 218 = .ok (.aload_n 0, 1) := all_at dvX12_rule_178 21 rfl
theorem dX12_rule_219 : decode cX12_rule 219 = .ok (.getfield 257, 3) := all_at dvX12_rule_178 22 rfl
theorem dX12_rule_222 : decode cX12_rule 222 = .ok (.ifCond .le 11, 3) := all_at dvX12_rule_178 23 rfl
set_option maxRecDepth 100000 in
theorem dvX12_rule_225 : ([(225, .bipush (-10), 2), (227, .aload_n 0, 1), (228, .getfield 257, 3), (231, .isub, 1), (232, .ireturn, 1), (233, .aload_n 0, 1), (234, .getfield 62, 3), (237, .aload_n 0, 1), (238, .getfield 303, 3), (241, .iload_n 2, 1), (242, .iastore, 1), (243, .aload_n 0, 1), (244, .getfield 59, 3), (247, .aload_n 0, 1), (248, .getfield 303, 3), (251, .iload_n 1, 1), (252, .iastore, 1), (253, .aload_n 0, 1), (254, .dup, 1), (255, .getfield 303, 3), (258, .iconst 1, 1), (259, .iadd, 1), (260, .putfield 303, 3), (263, .aload_n 0, 1)] : List (Nat × Instr × Nat)).all (fun q => decide (decode cX12_rule q.1 = .ok (q.2.1, q.2.2))) = true := by decide +kernel
theorem dX12_rule_225 : decode cX12_rule 225 = .ok (.bipush (-10), 2) := all_at dvX12_rule_225 0 rfl
theorem dX12_rule_227 : decode cX12_rule 227 = .ok (.aload_n 0, 1) := all_at dvX12_rule_225 1 rfl
theorem dX12_rule_228 : decode cX12_rule 228 = .ok (.getfield 257, 3) := all_at dvX12_rule_225 2 rfl
theorem dX12_rule_231 : decode cX12_rule 231 = .ok (.isub, 1) := all_at dvX12_rule_225 3 rfl
theorem dX12_rule_232 : decode cX12_rule 232 = .ok (.ireturn, 1) := all_at dvX12_rule_225 4 rfl
theorem dX12_rule_233 : decode cX12_rule 233 = .ok (.aload_n 0, 1) := all_at dvX12_rule_225 5 rfl
theorem dX12_rule_234 : decode cX12_rule 234 = .ok (.getfield 62, 3) := all_at dvX12_rule_225 6 rfl
theorem dX12_rule_237 : decode cX12_rule 237 = .ok (.aload_n 0, 1) := all_at dvX12_rule_225 7 rfl
theorem dX12_rule_238 : decode cX12_rule 238 = .ok (.getfield 303, 3) := all_at dvX12_rule_225 8 rfl
theorem dX12_rule_241 : decode cX12_rule 241 = .ok (.iload_n 2, 1) := all_at dvX12_rule_225 9 rfl
theorem dX12_rule_242 : decode cX12_rule 242 = .ok (.iastore, 1) := all_at dvX12_rule_225 10 rfl
theorem dX12_rule_243 : decode cX12_rule 243 = .ok (.aload_n 0, 1) := all_at dvX12_rule_225 11 rfl
theorem dX12_rule_244 : decode cX12_rule 244 = .ok (.getfield 59, 3) := all_at dvX12_rule_225 12 rfl
theorem dX12_rule_247 : decode cX12_rule 247 = .ok (.aload_n 0, 1) := all_at dvX12_rule_225 13 rfl
theorem dX12_rule_248 : decode cX12_rule 248 = .ok (.getfield 303, 3) := all_at dvX12_rule_225 14 rfl
theorem dX12_rule_251 : decode cX12_rule 251 = .ok (.iload_n 1, 1) := all_at dvX12_rule_225 15 rfl
theorem dX12_rule_252 : decode cX12_rule 252 = .ok (.iastore, 1) := all_at dvX12_rule_225 16 rfl
theorem dX12_rule_253 : decode cX12_rule 253 = .ok (.aload_n 0, 1) := all_at dvX12_rule_225 17 rfl
theorem dX12_rule_254 : decode cX12_rule 254 = .ok (.dup, 1) := all_at dvX12_rule_225 18 rfl
theorem dX12_rule_255 : decode cX12_rule 255 = .ok (.getfield 303, 3) := all_at dvX12_rule_225 19 rfl
theorem dX12_rule_258 : decode cX12_rule 258 = .ok (.iconst 1, 1) := all_at dvX12_rule_225 20 rfl
theorem dX12_rule_259 : decode cX12_rule 259 = .ok (.iadd, 1) := all_at dvX12_rule_225 21 rfl
theorem dX12_rule_260 : decode cX12_rule 260 = .ok (.putfield 303, 3) := all_at dvX12_rule_225 22 rfl
theorem dX12_rule_263 : decode cX12_rule 263 = .ok (.aload_n 0, 1) := all_at dvX12_rule_225 23 rfl
set_option maxRecDepth 100000 in
theorem dvX12_rule_264 : ([(264, .getfield 303, 3), (267, .iconst 1, 1), (268, .isub, 1), (269, .ireturn, 1)] : List (Nat × Instr × Nat)).all (fun q => decide (decode cX12_rule q.1 = .ok (q.2.1, q.2.2))) = true := by decide +kernel
theorem dX12_rule_264 : decode cX12_rule 264 = .ok (.getfield 303, 3) := all_at dvX12_rule_264 0 rfl
theorem dX12_rule_267 : decode cX12_rule 267 = .ok (.iconst 1, 1) := all_at dvX12_rule_264 1 rfl
theorem dX12_rule_268 : decode cX12_rule 268 = .ok (.isub, 1) := all_at dvX12_rule_264 2 rfl
theorem dX12_rule_269 : decode cX12_rule 269 = .ok (.ireturn, 1) := all_at dvX12_rule_264 3 rfl
set_option maxHeartbeats 4000000 in
set_option maxRecDepth 100000 in
/-- X12_rule -/
theorem c_X12_rule (l : Launch) (dC : Nat → ClassId) (dI : Nat → Nat → Nat) (sz : Nat) (h : Nat) (g : Nat → Nat → Nat) (ca : Nat → Nat → ClassId) (iv : Nat → Nat → Int32) (lv : Nat → Nat → Int64) (fa : Nat → Nat → Nat → Int32) (la : Nat → Nat → Nat → Int64) (hI : IX iv fa) (a : Int32) (hJC : JCf (iv 12 23).toInt (fa 12 25) (fa 12 26) (fa 12 27) (fa 12 28)) : Met l yX12_rule (wc yX12_rule cX12_rule 4 (some .int)) ({ frames := 4, cells := 0, slots := 0, locals := 95 } : Room) (pW (dC, dI) classes (WM h g ca iv lv fa la) (TM ca) sz [.ref h, .int a]) (va_Qi (fun r (u : SS) => ∃ (na_12_24 : Nat → Int32) (na_12_25 : Nat → Int32) (na_12_26 : Nat → Int32) (na_12_27 : Nat → Int32) (na_12_28 : Nat → Int32) (na_12_29 : Nat → Int32) (na_12_30 : Nat → Int32) (na_12_31 : Nat → Int32) (ni_12_23 : Int32) (ni_12_33 : Int32) (ni_12_34 : Int32) (ni_12_35 : Int32) (ni_12_36 : Int32) (ni_12_37 : Int32) (ni_12_38 : Int32), (∀ j, inb (bA 12 25 j) (na_12_25 j)) ∧ (∀ j, inb (bA 12 30 j) (na_12_30 j)) ∧ inb (bI 12 23) ni_12_23 ∧ inb (bI 12 33) ni_12_33 ∧ inb (bI 12 34) ni_12_34 ∧ inb (bI 12 35) ni_12_35 ∧ inb (bI 12 37) ni_12_37 ∧ inb (bI 12 38) ni_12_38 ∧ (JCf (ni_12_23).toInt na_12_25 na_12_26 na_12_27 na_12_28) ∧ ((-100004) ≤ r.toInt ∧ r.toInt ≤ 7) ∧ u = ((u2 (u2 (u2 (u2 (u2 (u2 (u2 iv 12 23 ni_12_23) 12 33 ni_12_33) 12 34 ni_12_34) 12 35 ni_12_35) 12 36 ni_12_36) 12 37 ni_12_37) 12 38 ni_12_38), lv, (u2 (u2 (u2 (u2 (u2 (u2 (u2 (u2 fa 12 24 na_12_24) 12 25 na_12_25) 12 26 na_12_26) 12 27 na_12_27) 12 28 na_12_28) 12 29 na_12_29) 12 30 na_12_30) 12 31 na_12_31), la)) (bM (dC, dI) h g ca (va_A (WM h g ca iv lv fa la) sz)) (va_A (WM h g ca iv lv fa la) sz)) 0 0 (va_A (WM h g ca iv lv fa la) sz) := by
  refine Met.ofW (cc := cX12_rule) (maxL := 4) (ret := (some .int)) (by decide) rfl ?_
  intro p e s m args below meth c s₁ B hml hv
  obtain ⟨rfl, hsz, hP, hK, hD0⟩ := hv
  have hx := B.exec
  have hb := B.bytes
  have hr := B.returns
  have ht := tb_tl (atoms_spec (ws := wc yX12_rule cX12_rule 4 (some .int)) B.pre)
  have hown : s.vm.findClass RX12 = some m.cls := findClass_of_methodNamed B.named
  have hlocks := B.notSynchronized
  subst hsz
  have hD := hD0.self (sz := s.heap.size)
  generalize hAe : va_A (WM h g ca iv lv fa la) s.heap.size = A at hD ⊢
  have hA : ∀ q : Nat, s.heap.size ≤ q → A q := fun q h => by rw [← hAe]; exact Or.inr h
  have hS : va_S A s.heap s.heap [] := va_S.rf
  have hl := lv_entry [.ref h, .int a] (n := 4) (Nat.le_of_ble_eq_true rfl)
  rw [lg_entry_eq]
  generalize (lg_sl [.ref h, .int a] ++ List.replicate (4 - (lg_sl [.ref h, .int a]).length) Slot.unset).toArray = ls at hl ⊢
  have hl : lv_has ls 4 [(0, .ref h), (1, .int a)] := hl
  refine lv_iload_n hx hb dX12_rule_0 rfl (lv_at hl 1 rfl) ?_
  refine vp_callSi (W.runS (As := [.int a]) (rest := []) ⟨hx, hb, hml, hown, ht⟩ (c_X12_isDay l dC dI a) (kS 1 ht m_1422 m_1423 m_89 m_1424 rfl rfl hd_X12_isDay_v ⟨Nat.le_of_ble_eq_true rfl, Nat.le_of_ble_eq_true rfl⟩) (sR noP (hK.sub (tys' := []) [] rfl)) rfl rfl hl.1 rfl (lv_room (Nat.le_of_ble_eq_true rfl)) dX12_rule_1 ⟨Nat.le_of_ble_eq_true rfl, Nat.le_of_ble_eq_true rfl⟩) (fun r1 hr1 => ?_)
  rcases hr1 with ⟨rfl, fr1⟩ | ⟨rfl, fr1⟩
  · skip
    refine lv_if_ne (tgt := 10) hx hb dX12_rule_4 (by decide) (fun c2 => ?_) (fun c2 => ?_)
    · skip
      refine lv_aload_n hx hb dX12_rule_10 rfl (lv_at hl 0 rfl) ?_
      have i_12_23 : 0 ≤ (iv 12 23).toInt ∧ (iv 12 23).toInt ≤ 8 := hI.1 12 23
      refine gM_12_23 hx hb ht hown hK hP m_1162 (v := (iv 12 23)) rfl dX12_rule_11 ?_
      refine lv_bipush (v := 8) hx hb dX12_rule_14 (by decide) ?_
      refine lv_icmp_ne (tgt := 22) hx hb dX12_rule_16 (by decide) (fun c3 => ?_) (fun c3 => ?_)
      · have fc3 := z_ne (rfl : ((iv 12 23)).toInt = _) (by decide : (8 : Int32).toInt = 8) c3
        refine lv_aload_n hx hb dX12_rule_22 rfl (lv_at hl 0 rfl) ?_
        refine lv_iconst (v := 0) hx hb dX12_rule_23 (by decide) ?_
        refine pM_12_34 (v := 0) hx hb ht hown hK hP hD hS m_1173 dX12_rule_24 (fun H locs hP hD hS => ?_)
        refine lv_aload_n hx hb dX12_rule_27 rfl (lv_at hl 0 rfl) ?_
        refine lv_iconst (v := 0) hx hb dX12_rule_28 (by decide) ?_
        refine pM_12_35 (v := 0) hx hb ht hown hK hP hD hS m_1174 dX12_rule_29 (fun H locs hP hD hS => ?_)
        refine lv_aload_n hx hb dX12_rule_32 rfl (lv_at hl 0 rfl) ?_
        refine lv_iconst (v := (-1)) hx hb dX12_rule_33 (by decide) ?_
        refine pM_12_36 (v := (-1)) hx hb ht hown hK hP hD hS m_1175 dX12_rule_34 (fun H locs hP hD hS => ?_)
        refine lv_iconst (v := 0) hx hb dX12_rule_37 (by decide) ?_
        refine lv_istore_n (lv' := [(2, .int 0), (0, .ref h), (1, .int a)]) hx hb dX12_rule_38 rfl hl (by decide) rfl (fun ls hl => ?_)
        have lp1358 : ∀ (nn1358 : Nat) (x1357_2 : Int32) (w1357_i_12_34 : Int32) (w1357_i_12_35 : Int32) (w1357_i_12_36 : Int32) (w1357_i_12_37 : Int32) (w1357_i_12_38 : Int32) (w1357_a_12_26 : Nat → Int32) (w1357_a_12_28 : Nat → Int32) (w1357_a_12_30 : Nat → Int32) (w1357_a_12_29 : Nat → Int32) (w1357_a_12_31 : Nat → Int32) (w1357_a_12_27 : Nat → Int32), 0 ≤ x1357_2.toInt ∧ x1357_2.toInt ≤ 12 → 0 ≤ w1357_i_12_34.toInt ∧ w1357_i_12_34.toInt ≤ 200 → 0 ≤ w1357_i_12_35.toInt ∧ w1357_i_12_35.toInt ≤ 5 → 0 ≤ w1357_i_12_37.toInt ∧ w1357_i_12_37.toInt ≤ 200 → 0 ≤ w1357_i_12_38.toInt ∧ w1357_i_12_38.toInt ≤ 200 → (∀ j, inb (bA 12 26 j) (w1357_a_12_26 j)) → (∀ j, inb (bA 12 28 j) (w1357_a_12_28 j)) → (∀ j, inb (bA 12 30 j) (w1357_a_12_30 j)) → (∀ j, inb (bA 12 29 j) (w1357_a_12_29 j)) → (∀ j, inb (bA 12 31 j) (w1357_a_12_31 j)) → (∀ j, inb (bA 12 27 j) (w1357_a_12_27 j)) → (∀ j : Nat, (j : Int) < 12 * ((iv 12 23) : Int32).toInt → w1357_a_12_26 j = (fa 12 26) j ∧ w1357_a_12_27 j = (fa 12 27) j ∧ w1357_a_12_28 j = (fa 12 28) j) → (((w1357_i_12_35 : Int32).toInt ≠ 0 ∨ ∀ j : Nat, 12 * ((iv 12 23) : Int32).toInt ≤ (j : Int) → (j : Int) < 12 * ((iv 12 23) : Int32).toInt + (x1357_2 : Int32).toInt → gd3 (w1357_a_12_26 j) (w1357_a_12_27 j) (w1357_a_12_28 j))) → 402 - (w1357_i_12_34 : Int32).toInt - 201 * min 1 (w1357_i_12_35 : Int32).toInt < (nn1358 : Int) → ∀ (H : Heap) (locs : List Loc), ∀ (ls : Array Slot), va_P (dC, dI) classes (WM h g ca (u2 (u2 (u2 (u2 (u2 iv 12 34 w1357_i_12_34) 12 35 w1357_i_12_35) 12 36 w1357_i_12_36) 12 37 w1357_i_12_37) 12 38 w1357_i_12_38) lv (u2 (u2 (u2 (u2 (u2 (u2 fa 12 26 w1357_a_12_26) 12 28 w1357_a_12_28) 12 30 w1357_a_12_30) 12 29 w1357_a_12_29) 12 31 w1357_a_12_31) 12 27 w1357_a_12_27) la) H → va_D A (WM h g ca (u2 (u2 (u2 (u2 (u2 iv 12 34 w1357_i_12_34) 12 35 w1357_i_12_35) 12 36 w1357_i_12_36) 12 37 w1357_i_12_37) 12 38 w1357_i_12_38) lv (u2 (u2 (u2 (u2 (u2 (u2 fa 12 26 w1357_a_12_26) 12 28 w1357_a_12_28) 12 30 w1357_a_12_30) 12 29 w1357_a_12_29) 12 31 w1357_a_12_31) 12 27 w1357_a_12_27) la) → va_S A s.heap H locs → lv_has ls 4 [(2, .int x1357_2), (0, .ref h), (1, .int a)] → W p l e ({ frames := 4, cells := 0, slots := 0, locals := 95 } : Room) s m ([.ref h, .int a] : List Value).toArray below meth c H locs 0 0 (MQ below (va_Qi (fun r (u : SS) => ∃ (na_12_24 : Nat → Int32) (na_12_25 : Nat → Int32) (na_12_26 : Nat → Int32) (na_12_27 : Nat → Int32) (na_12_28 : Nat → Int32) (na_12_29 : Nat → Int32) (na_12_30 : Nat → Int32) (na_12_31 : Nat → Int32) (ni_12_23 : Int32) (ni_12_33 : Int32) (ni_12_34 : Int32) (ni_12_35 : Int32) (ni_12_36 : Int32) (ni_12_37 : Int32) (ni_12_38 : Int32), (∀ j, inb (bA 12 25 j) (na_12_25 j)) ∧ (∀ j, inb (bA 12 30 j) (na_12_30 j)) ∧ inb (bI 12 23) ni_12_23 ∧ inb (bI 12 33) ni_12_33 ∧ inb (bI 12 34) ni_12_34 ∧ inb (bI 12 35) ni_12_35 ∧ inb (bI 12 37) ni_12_37 ∧ inb (bI 12 38) ni_12_38 ∧ (JCf (ni_12_23).toInt na_12_25 na_12_26 na_12_27 na_12_28) ∧ ((-100004) ≤ r.toInt ∧ r.toInt ≤ 7) ∧ u = ((u2 (u2 (u2 (u2 (u2 (u2 (u2 iv 12 23 ni_12_23) 12 33 ni_12_33) 12 34 ni_12_34) 12 35 ni_12_35) 12 36 ni_12_36) 12 37 ni_12_37) 12 38 ni_12_38), lv, (u2 (u2 (u2 (u2 (u2 (u2 (u2 (u2 fa 12 24 na_12_24) 12 25 na_12_25) 12 26 na_12_26) 12 27 na_12_27) 12 28 na_12_28) 12 29 na_12_29) 12 30 na_12_30) 12 31 na_12_31), la)) (bM (dC, dI) h g ca A) A) ([.ref h, .int a] : List Value).toArray s 0 0 A) (F0 m 39 ls []) := by
          intro nn1358
          induction nn1358 with
          | zero => intro x1357_2 w1357_i_12_34 w1357_i_12_35 w1357_i_12_36 w1357_i_12_37 w1357_i_12_38 w1357_a_12_26 w1357_a_12_28 w1357_a_12_30 w1357_a_12_29 w1357_a_12_31 w1357_a_12_27 hx1357_2 hw1357_i_12_34 hw1357_i_12_35 hw1357_i_12_37 hw1357_i_12_38 hw1357_a_12_26 hw1357_a_12_28 hw1357_a_12_30 hw1357_a_12_29 hw1357_a_12_31 hw1357_a_12_27 hq1358_0 hq1358_1 hm1358; exfalso; omega
          | succ nn1358 ih1358 =>
            intro x1357_2 w1357_i_12_34 w1357_i_12_35 w1357_i_12_36 w1357_i_12_37 w1357_i_12_38 w1357_a_12_26 w1357_a_12_28 w1357_a_12_30 w1357_a_12_29 w1357_a_12_31 w1357_a_12_27 hx1357_2 hw1357_i_12_34 hw1357_i_12_35 hw1357_i_12_37 hw1357_i_12_38 hw1357_a_12_26 hw1357_a_12_28 hw1357_a_12_30 hw1357_a_12_29 hw1357_a_12_31 hw1357_a_12_27 hq1358_0 hq1358_1 hm1358 H locs ls hP hD hS hl
            refine lv_aload_n hx hb dX12_rule_39 rfl (lv_at hl 1 rfl) ?_
            refine gM_12_35 hx hb ht hown hK hP m_1174 (v := w1357_i_12_35) rfl dX12_rule_40 ?_
            refine lv_if_ne (tgt := 213) hx hb dX12_rule_43 (by decide) (fun c1359 => ?_) (fun c1359 => ?_)
            · have fc1359 := z_ne (rfl : (w1357_i_12_35).toInt = _) (by decide : (0 : Int32).toInt = 0) c1359
              refine lv_aload_n hx hb dX12_rule_213 rfl (lv_at hl 1 rfl) ?_
              refine lv_iconst (v := 0) hx hb dX12_rule_214 (by decide) ?_
              refine pM_12_33 (v := 0) hx hb ht hown hK hP hD hS m_1172 dX12_rule_215 (fun H locs hP hD hS => ?_)
              refine lv_aload_n hx hb dX12_rule_218 rfl (lv_at hl 1 rfl) ?_
              refine gM_12_35 hx hb ht hown hK hP m_1174 (v := w1357_i_12_35) rfl dX12_rule_219 ?_
              refine lv_if_le (tgt := 233) hx hb dX12_rule_222 (by decide) (fun c1360 => ?_) (fun c1360 => ?_)
              · have fc1360 := z_le (rfl : (w1357_i_12_35).toInt = _) (by decide : (0 : Int32).toInt = 0) c1360; exfalso; omega
              · skip
                refine lv_bipush (v := (-10)) hx hb dX12_rule_225 (by decide) ?_
                refine lv_aload_n hx hb dX12_rule_227 rfl (lv_at hl 1 rfl) ?_
                refine gM_12_35 hx hb ht hown hK hP m_1174 (v := w1357_i_12_35) rfl dX12_rule_228 ?_
                refine lv_isub hx hb dX12_rule_231 ?_
                refine lv_topi (fun v1361 ev1361 => ?_)
                have tv1361 := z_sub ev1361 (by decide : ((-10) : Int32).toInt = (-10)) (rfl : (w1357_i_12_35).toInt = _) (by omega) (by omega)
                have hP9 : va_P (dC, dI) classes (WM h g ca (u2 (u2 (u2 (u2 (u2 (u2 (u2 iv 12 23 (iv 12 23)) 12 33 0) 12 34 w1357_i_12_34) 12 35 w1357_i_12_35) 12 36 w1357_i_12_36) 12 37 w1357_i_12_37) 12 38 w1357_i_12_38) lv (u2 (u2 (u2 (u2 (u2 (u2 (u2 (u2 fa 12 24 (fa 12 24)) 12 25 (fa 12 25)) 12 26 w1357_a_12_26) 12 27 w1357_a_12_27) 12 28 w1357_a_12_28) 12 29 w1357_a_12_29) 12 30 w1357_a_12_30) 12 31 w1357_a_12_31) la) H := hP
                have hD9 : va_D A (WM h g ca (u2 (u2 (u2 (u2 (u2 (u2 (u2 iv 12 23 (iv 12 23)) 12 33 0) 12 34 w1357_i_12_34) 12 35 w1357_i_12_35) 12 36 w1357_i_12_36) 12 37 w1357_i_12_37) 12 38 w1357_i_12_38) lv (u2 (u2 (u2 (u2 (u2 (u2 (u2 (u2 fa 12 24 (fa 12 24)) 12 25 (fa 12 25)) 12 26 w1357_a_12_26) 12 27 w1357_a_12_27) 12 28 w1357_a_12_28) 12 29 w1357_a_12_29) 12 30 w1357_a_12_30) 12 31 w1357_a_12_31) la) := hD
                exact W.iret (v := v1361) hx hb hr (fun t ht9 hW => ⟨⟨v1361, ((u2 (u2 (u2 (u2 (u2 (u2 (u2 iv 12 23 (iv 12 23)) 12 33 0) 12 34 w1357_i_12_34) 12 35 w1357_i_12_35) 12 36 w1357_i_12_36) 12 37 w1357_i_12_37) 12 38 w1357_i_12_38), lv, (u2 (u2 (u2 (u2 (u2 (u2 (u2 (u2 fa 12 24 (fa 12 24)) 12 25 (fa 12 25)) 12 26 w1357_a_12_26) 12 27 w1357_a_12_27) 12 28 w1357_a_12_28) 12 29 w1357_a_12_29) 12 30 w1357_a_12_30) 12 31 w1357_a_12_31), la), rfl, ⟨(fa 12 24), (fa 12 25), w1357_a_12_26, w1357_a_12_27, w1357_a_12_28, w1357_a_12_29, w1357_a_12_30, w1357_a_12_31, (iv 12 23), 0, w1357_i_12_34, w1357_i_12_35, w1357_i_12_36, w1357_i_12_37, w1357_i_12_38, (hI.2 12 25), hw1357_a_12_30, (hI.1 12 23), (show inb (0, 200) 0 from ⟨by decide, by decide⟩), (show inb (0, 200) w1357_i_12_34 from ⟨by omega, by omega⟩), (show inb (0, 5) w1357_i_12_35 from ⟨by omega, by omega⟩), (show inb (0, 200) w1357_i_12_37 from ⟨by omega, by omega⟩), (show inb (0, 200) w1357_i_12_38 from ⟨by omega, by omega⟩), (show JCf ((iv 12 23) : Int32).toInt (fa 12 25) w1357_a_12_26 w1357_a_12_27 w1357_a_12_28 from (JC_keep hJC (hI.2 12 25) hq1358_0)), ⟨by omega, by omega⟩, rfl⟩, by rw [ht9]; exact hP9, hD9⟩, hS.F ht9⟩) hS.2.2 dX12_rule_232
            · have fc1359 := z_eq (rfl : (w1357_i_12_35).toInt = _) (by decide : (0 : Int32).toInt = 0) c1359
              refine lv_aload_n hx hb dX12_rule_46 rfl (lv_at hl 1 rfl) ?_
              have hFc := free_all hD hS hA
              refine va_calli (va_runV (As := []) (rest := []) ⟨hx, hb, hml, hown, ht⟩ (c_X12_here_x l dC dI H.size h g ca (u2 (u2 (u2 (u2 (u2 iv 12 34 w1357_i_12_34) 12 35 w1357_i_12_35) 12 36 w1357_i_12_36) 12 37 w1357_i_12_37) 12 38 w1357_i_12_38) lv (u2 (u2 (u2 (u2 (u2 (u2 fa 12 26 w1357_a_12_26) 12 28 w1357_a_12_28) 12 30 w1357_a_12_30) 12 29 w1357_a_12_29) 12 31 w1357_a_12_31) 12 27 w1357_a_12_27) la (IX_a (c := 12) (k := 27) (IX_a (c := 12) (k := 31) (IX_a (c := 12) (k := 29) (IX_a (c := 12) (k := 30) (IX_a (c := 12) (k := 28) (IX_a (c := 12) (k := 26) (IX_i (c := 12) (k := 38) (IX_i (c := 12) (k := 37) (IX_i (c := 12) (k := 36) (IX_i (c := 12) (k := 35) (IX_i (c := 12) (k := 34) hI (show inb (0, 200) w1357_i_12_34 from ⟨by omega, by omega⟩)) (show inb (0, 5) w1357_i_12_35 from ⟨by omega, by omega⟩)) (full_i _)) (show inb (0, 200) w1357_i_12_37 from ⟨by omega, by omega⟩)) (show inb (0, 200) w1357_i_12_38 from ⟨by omega, by omega⟩)) hw1357_a_12_26) hw1357_a_12_28) hw1357_a_12_30) hw1357_a_12_29) hw1357_a_12_31) hw1357_a_12_27)) (kV 0 ht m_1458 m_1460 m_47 m_89 m_1461 rfl rfl hd_X12_here_v ⟨Nat.le_of_ble_eq_true rfl, Nat.le_of_ble_eq_true rfl⟩) (vW hP hK hD (rM_12 hK hP)) rfl rfl hl.1 rfl (lv_room (Nat.le_of_ble_eq_true rfl)) dX12_rule_47 ⟨Nat.le_of_ble_eq_true rfl, Nat.le_of_ble_eq_true rfl⟩) hS (fun q _ h => hFc q h) hFc (fun r1362 u t H1 locs ht9 hvm hr1362 hB hz1 hk1 hS => ?_)
              obtain ⟨n1363, hn1363, xr1362_0, xr1362_1, hr1362, rfl⟩ := hr1362
              have hn1363 : 0 ≤ n1363.toInt ∧ n1363.toInt ≤ 200 := hn1363
              obtain ⟨hP, hD⟩ := hB
              rw [ht9] at hP
              generalize H1 = H at hP hS ⊢
              have hP : va_P (dC, dI) classes (WM h g ca (u2 (u2 (u2 (u2 (u2 iv 12 34 n1363) 12 35 w1357_i_12_35) 12 36 w1357_i_12_36) 12 37 w1357_i_12_37) 12 38 w1357_i_12_38) lv (u2 (u2 (u2 (u2 (u2 (u2 fa 12 26 w1357_a_12_26) 12 28 w1357_a_12_28) 12 30 w1357_a_12_30) 12 29 w1357_a_12_29) 12 31 w1357_a_12_31) 12 27 w1357_a_12_27) la) H := hP
              have hD : va_D A (WM h g ca (u2 (u2 (u2 (u2 (u2 iv 12 34 n1363) 12 35 w1357_i_12_35) 12 36 w1357_i_12_36) 12 37 w1357_i_12_37) 12 38 w1357_i_12_38) lv (u2 (u2 (u2 (u2 (u2 (u2 fa 12 26 w1357_a_12_26) 12 28 w1357_a_12_28) 12 30 w1357_a_12_30) 12 29 w1357_a_12_29) 12 31 w1357_a_12_31) 12 27 w1357_a_12_27) la) := (show va_D _ (WM h g ca (u2 (u2 (u2 (u2 (u2 iv 12 34 n1363) 12 35 w1357_i_12_35) 12 36 w1357_i_12_36) 12 37 w1357_i_12_37) 12 38 w1357_i_12_38) lv (u2 (u2 (u2 (u2 (u2 (u2 fa 12 26 w1357_a_12_26) 12 28 w1357_a_12_28) 12 30 w1357_a_12_30) 12 29 w1357_a_12_29) 12 31 w1357_a_12_31) 12 27 w1357_a_12_27) la) from hD).weaken (fun _ _ _ h => hFc _ h)
              have xr1362_0 : (w1357_i_12_34 : Int32).toInt ≤ (n1363 : Int32).toInt := xr1362_0
              have i_12_33 : 0 ≤ (iv 12 33).toInt ∧ (iv 12 33).toInt ≤ 200 := hI.1 12 33
              have xr1362_1 : ((r1362 : Int32).toInt = -1 ∨ (n1363 : Int32).toInt + 1 ≤ ((iv 12 33) : Int32).toInt) := xr1362_1
              refine lv_if_lt (tgt := 213) hx hb dX12_rule_50 (by decide) (fun c1364 => ?_) (fun c1364 => ?_)
              · have fc1364 := z_lt (rfl : (r1362).toInt = _) (by decide : (0 : Int32).toInt = 0) c1364
                refine lv_aload_n hx hb dX12_rule_213 rfl (lv_at hl 1 rfl) ?_
                refine lv_iconst (v := 0) hx hb dX12_rule_214 (by decide) ?_
                refine pM_12_33 (v := 0) hx hb ht hown hK hP hD hS m_1172 dX12_rule_215 (fun H locs hP hD hS => ?_)
                refine lv_aload_n hx hb dX12_rule_218 rfl (lv_at hl 1 rfl) ?_
                refine gM_12_35 hx hb ht hown hK hP m_1174 (v := w1357_i_12_35) rfl dX12_rule_219 ?_
                refine lv_if_le (tgt := 233) hx hb dX12_rule_222 (by decide) (fun c1365 => ?_) (fun c1365 => ?_)
                · skip
                  refine lv_aload_n hx hb dX12_rule_233 rfl (lv_at hl 1 rfl) ?_
                  refine gM_12_25 hx hb ht hown hK hP m_1164 dX12_rule_234 ?_
                  refine lv_aload_n hx hb dX12_rule_237 rfl (lv_at hl 1 rfl) ?_
                  refine gM_12_23 hx hb ht hown hK hP m_1162 (v := (iv 12 23)) rfl dX12_rule_238 ?_
                  refine lv_iload_n hx hb dX12_rule_241 rfl (lv_at hl 0 rfl) ?_
                  refine tM_12_25 hx hb hK hP hD hS (f0 := (fa 12 25)) rfl (i := (iv 12 23)) (x := x1357_2) (vp_in_iff.mpr ⟨by omega, by omega⟩) dX12_rule_242 (fun f1366 ef1366 H locs hP hD hS => ?_)
                  have hf1366 : ∀ j, inb (bA 12 25 j) (f1366 j) := by rw [ef1366]; exact upd_b (b := bA 12 25) (hI.2 12 25) (show inb (0, 12) x1357_2 from ⟨by omega, by omega⟩)
                  refine lv_aload_n hx hb dX12_rule_243 rfl (lv_at hl 1 rfl) ?_
                  refine gM_12_24 hx hb ht hown hK hP m_1163 dX12_rule_244 ?_
                  refine lv_aload_n hx hb dX12_rule_247 rfl (lv_at hl 1 rfl) ?_
                  refine gM_12_23 hx hb ht hown hK hP m_1162 (v := (iv 12 23)) rfl dX12_rule_248 ?_
                  refine lv_iload_n hx hb dX12_rule_251 rfl (lv_at hl 2 rfl) ?_
                  refine tM_12_24 hx hb hK hP hD hS (f0 := (fa 12 24)) rfl (i := (iv 12 23)) (x := a) (vp_in_iff.mpr ⟨by omega, by omega⟩) dX12_rule_252 (fun f1367 ef1367 H locs hP hD hS => ?_)
                  have hf1367 : ∀ j, inb (bA 12 24 j) (f1367 j) := fun j => full_i _
                  refine lv_aload_n hx hb dX12_rule_253 rfl (lv_at hl 1 rfl) ?_
                  refine lv_dup hx hb dX12_rule_254 rfl ?_
                  refine gM_12_23 hx hb ht hown hK hP m_1162 (v := (iv 12 23)) rfl dX12_rule_255 ?_
                  refine lv_iconst (v := 1) hx hb dX12_rule_258 (by decide) ?_
                  refine lv_iadd hx hb dX12_rule_259 ?_
                  refine lv_topi (fun v1368 ev1368 => ?_)
                  have tv1368 := z_add ev1368 (rfl : ((iv 12 23)).toInt = _) (by decide : (1 : Int32).toInt = 1) (by omega) (by omega)
                  refine pM_12_23 (v := v1368) hx hb ht hown hK hP hD hS m_1162 dX12_rule_260 (fun H locs hP hD hS => ?_)
                  refine lv_aload_n hx hb dX12_rule_263 rfl (lv_at hl 1 rfl) ?_
                  refine gM_12_23 hx hb ht hown hK hP m_1162 (v := v1368) rfl dX12_rule_264 ?_
                  refine lv_iconst (v := 1) hx hb dX12_rule_267 (by decide) ?_
                  refine lv_isub hx hb dX12_rule_268 ?_
                  refine lv_topi (fun v1369 ev1369 => ?_)
                  have tv1369 := z_sub ev1369 (rfl : (v1368).toInt = _) (by decide : (1 : Int32).toInt = 1) (by omega) (by omega)
                  have hP9 : va_P (dC, dI) classes (WM h g ca (u2 (u2 (u2 (u2 (u2 (u2 (u2 iv 12 23 v1368) 12 33 0) 12 34 n1363) 12 35 w1357_i_12_35) 12 36 w1357_i_12_36) 12 37 w1357_i_12_37) 12 38 w1357_i_12_38) lv (u2 (u2 (u2 (u2 (u2 (u2 (u2 (u2 fa 12 24 f1367) 12 25 f1366) 12 26 w1357_a_12_26) 12 27 w1357_a_12_27) 12 28 w1357_a_12_28) 12 29 w1357_a_12_29) 12 30 w1357_a_12_30) 12 31 w1357_a_12_31) la) H := hP
                  have hD9 : va_D A (WM h g ca (u2 (u2 (u2 (u2 (u2 (u2 (u2 iv 12 23 v1368) 12 33 0) 12 34 n1363) 12 35 w1357_i_12_35) 12 36 w1357_i_12_36) 12 37 w1357_i_12_37) 12 38 w1357_i_12_38) lv (u2 (u2 (u2 (u2 (u2 (u2 (u2 (u2 fa 12 24 f1367) 12 25 f1366) 12 26 w1357_a_12_26) 12 27 w1357_a_12_27) 12 28 w1357_a_12_28) 12 29 w1357_a_12_29) 12 30 w1357_a_12_30) 12 31 w1357_a_12_31) la) := hD
                  exact W.iret (v := v1369) hx hb hr (fun t ht9 hW => ⟨⟨v1369, ((u2 (u2 (u2 (u2 (u2 (u2 (u2 iv 12 23 v1368) 12 33 0) 12 34 n1363) 12 35 w1357_i_12_35) 12 36 w1357_i_12_36) 12 37 w1357_i_12_37) 12 38 w1357_i_12_38), lv, (u2 (u2 (u2 (u2 (u2 (u2 (u2 (u2 fa 12 24 f1367) 12 25 f1366) 12 26 w1357_a_12_26) 12 27 w1357_a_12_27) 12 28 w1357_a_12_28) 12 29 w1357_a_12_29) 12 30 w1357_a_12_30) 12 31 w1357_a_12_31), la), rfl, ⟨f1367, f1366, w1357_a_12_26, w1357_a_12_27, w1357_a_12_28, w1357_a_12_29, w1357_a_12_30, w1357_a_12_31, v1368, 0, n1363, w1357_i_12_35, w1357_i_12_36, w1357_i_12_37, w1357_i_12_38, hf1366, hw1357_a_12_30, (show inb (0, 8) v1368 from ⟨by omega, by omega⟩), (show inb (0, 200) 0 from ⟨by decide, by decide⟩), (show inb (0, 200) n1363 from ⟨by omega, by omega⟩), (show inb (0, 5) w1357_i_12_35 from ⟨by omega, by omega⟩), (show inb (0, 200) w1357_i_12_37 from ⟨by omega, by omega⟩), (show inb (0, 200) w1357_i_12_38 from ⟨by omega, by omega⟩), (show JCf (v1368 : Int32).toInt f1366 w1357_a_12_26 w1357_a_12_27 w1357_a_12_28 from (by rw [tv1368, ef1366]; exact JC_add hJC (hI.2 12 25) ⟨by omega, by omega⟩ hq1358_0 (hq1358_1.resolve_left (by omega)))), ⟨by omega, by omega⟩, rfl⟩, by rw [ht9]; exact hP9, hD9⟩, hS.F ht9⟩) hS.2.2 dX12_rule_269
                · have fc1365 := z_nle (rfl : (w1357_i_12_35).toInt = _) (by decide : (0 : Int32).toInt = 0) c1365; exfalso; omega
              · have fc1364 := z_nlt (rfl : (r1362).toInt = _) (by decide : (0 : Int32).toInt = 0) c1364
                refine lv_aload_n hx hb dX12_rule_53 rfl (lv_at hl 1 rfl) ?_
                have hFc := free_all hD hS hA
                refine va_callv (va_runV (As := []) (rest := []) ⟨hx, hb, hml, hown, ht⟩ (c_X12_takeWord l dC dI H.size h g ca (u2 (u2 (u2 (u2 (u2 iv 12 34 n1363) 12 35 w1357_i_12_35) 12 36 w1357_i_12_36) 12 37 w1357_i_12_37) 12 38 w1357_i_12_38) lv (u2 (u2 (u2 (u2 (u2 (u2 fa 12 26 w1357_a_12_26) 12 28 w1357_a_12_28) 12 30 w1357_a_12_30) 12 29 w1357_a_12_29) 12 31 w1357_a_12_31) 12 27 w1357_a_12_27) la (IX_a (c := 12) (k := 27) (IX_a (c := 12) (k := 31) (IX_a (c := 12) (k := 29) (IX_a (c := 12) (k := 30) (IX_a (c := 12) (k := 28) (IX_a (c := 12) (k := 26) (IX_i (c := 12) (k := 38) (IX_i (c := 12) (k := 37) (IX_i (c := 12) (k := 36) (IX_i (c := 12) (k := 35) (IX_i (c := 12) (k := 34) hI (show inb (0, 200) n1363 from ⟨by omega, by omega⟩)) (show inb (0, 5) w1357_i_12_35 from ⟨by omega, by omega⟩)) (full_i _)) (show inb (0, 200) w1357_i_12_37 from ⟨by omega, by omega⟩)) (show inb (0, 200) w1357_i_12_38 from ⟨by omega, by omega⟩)) hw1357_a_12_26) hw1357_a_12_28) hw1357_a_12_30) hw1357_a_12_29) hw1357_a_12_31) hw1357_a_12_27)) (kV 0 ht m_1462 m_1464 m_48 m_89 m_1465 rfl rfl hd_X12_takeWord_v ⟨Nat.le_of_ble_eq_true rfl, Nat.le_of_ble_eq_true rfl⟩) (vW hP hK hD (rM_12 hK hP)) rfl rfl hl.1 rfl (lv_room (Nat.le_of_ble_eq_true rfl)) dX12_rule_54 ⟨Nat.le_of_ble_eq_true rfl, Nat.le_of_ble_eq_true rfl⟩) hS (fun q _ h => hFc q h) hFc (fun u t H1 locs ht9 hvm hr1370 hB hz1 hk1 hS => ?_)
                obtain ⟨n1371, n1372, n1373, hn1371, hn1372, hn1373, xr1370_0, xr1370_1, rfl⟩ := hr1370
                have hn1371 : 0 ≤ n1371.toInt ∧ n1371.toInt ≤ 200 := hn1371
                have hn1372 : 0 ≤ n1372.toInt ∧ n1372.toInt ≤ 200 := hn1372
                have hn1373 : 0 ≤ n1373.toInt ∧ n1373.toInt ≤ 200 := hn1373
                obtain ⟨hP, hD⟩ := hB
                rw [ht9] at hP
                generalize H1 = H at hP hS ⊢
                have hP : va_P (dC, dI) classes (WM h g ca (u2 (u2 (u2 (u2 (u2 iv 12 34 n1371) 12 35 w1357_i_12_35) 12 36 w1357_i_12_36) 12 37 n1372) 12 38 n1373) lv (u2 (u2 (u2 (u2 (u2 (u2 fa 12 26 w1357_a_12_26) 12 28 w1357_a_12_28) 12 30 w1357_a_12_30) 12 29 w1357_a_12_29) 12 31 w1357_a_12_31) 12 27 w1357_a_12_27) la) H := hP
                have hD : va_D A (WM h g ca (u2 (u2 (u2 (u2 (u2 iv 12 34 n1371) 12 35 w1357_i_12_35) 12 36 w1357_i_12_36) 12 37 n1372) 12 38 n1373) lv (u2 (u2 (u2 (u2 (u2 (u2 fa 12 26 w1357_a_12_26) 12 28 w1357_a_12_28) 12 30 w1357_a_12_30) 12 29 w1357_a_12_29) 12 31 w1357_a_12_31) 12 27 w1357_a_12_27) la) := (show va_D _ (WM h g ca (u2 (u2 (u2 (u2 (u2 iv 12 34 n1371) 12 35 w1357_i_12_35) 12 36 w1357_i_12_36) 12 37 n1372) 12 38 n1373) lv (u2 (u2 (u2 (u2 (u2 (u2 fa 12 26 w1357_a_12_26) 12 28 w1357_a_12_28) 12 30 w1357_a_12_30) 12 29 w1357_a_12_29) 12 31 w1357_a_12_31) 12 27 w1357_a_12_27) la) from hD).weaken (fun _ _ _ h => hFc _ h)
                have xr1370_0 : (n1363 : Int32).toInt ≤ (n1372 : Int32).toInt := xr1370_0
                have xr1370_1 : (n1372 : Int32).toInt + (n1373 : Int32).toInt = (n1371 : Int32).toInt := xr1370_1
                refine lv_aload_n hx hb dX12_rule_57 rfl (lv_at hl 1 rfl) ?_
                refine lv_iconst (v := 3) hx hb dX12_rule_58 (by decide) ?_
                refine lv_bipush (v := 108) hx hb dX12_rule_59 (by decide) ?_
                refine lv_bipush (v := 101) hx hb dX12_rule_61 (by decide) ?_
                refine lv_bipush (v := 116) hx hb dX12_rule_63 (by decide) ?_
                refine lv_iconst (v := 0) hx hb dX12_rule_65 (by decide) ?_
                refine lv_iconst (v := 0) hx hb dX12_rule_66 (by decide) ?_
                refine lv_iconst (v := 0) hx hb dX12_rule_67 (by decide) ?_
                refine vp_callSi (W.runV (As := [.int 3, .int 108, .int 101, .int 116, .int 0, .int 0, .int 0]) (rest := []) ⟨hx, hb, hml, hown, ht⟩ (c_X12_isWord l dC dI h g ca (u2 (u2 (u2 (u2 (u2 iv 12 34 n1371) 12 35 w1357_i_12_35) 12 36 w1357_i_12_36) 12 37 n1372) 12 38 n1373) lv (u2 (u2 (u2 (u2 (u2 (u2 fa 12 26 w1357_a_12_26) 12 28 w1357_a_12_28) 12 30 w1357_a_12_30) 12 29 w1357_a_12_29) 12 31 w1357_a_12_31) 12 27 w1357_a_12_27) la (IX_a (c := 12) (k := 27) (IX_a (c := 12) (k := 31) (IX_a (c := 12) (k := 29) (IX_a (c := 12) (k := 30) (IX_a (c := 12) (k := 28) (IX_a (c := 12) (k := 26) (IX_i (c := 12) (k := 38) (IX_i (c := 12) (k := 37) (IX_i (c := 12) (k := 36) (IX_i (c := 12) (k := 35) (IX_i (c := 12) (k := 34) hI (show inb (0, 200) n1371 from ⟨by omega, by omega⟩)) (show inb (0, 5) w1357_i_12_35 from ⟨by omega, by omega⟩)) (full_i _)) (show inb (0, 200) n1372 from ⟨by omega, by omega⟩)) (show inb (0, 200) n1373 from ⟨by omega, by omega⟩)) hw1357_a_12_26) hw1357_a_12_28) hw1357_a_12_30) hw1357_a_12_29) hw1357_a_12_31) hw1357_a_12_27) 3 108 101 116 0 0 0 ⟨by decide, by decide⟩ (show (n1372 : Int32).toInt + (n1373 : Int32).toInt ≤ 200 from by omega)) (kV 7 ht m_1468 m_1470 m_49 m_89 m_1471 rfl rfl hd_X12_isWord_v ⟨Nat.le_of_ble_eq_true rfl, Nat.le_of_ble_eq_true rfl⟩) (vR hP hK (rM_12 hK hP)) rfl rfl hl.1 rfl (lv_room (Nat.le_of_ble_eq_true rfl)) dX12_rule_68 ⟨Nat.le_of_ble_eq_true rfl, Nat.le_of_ble_eq_true rfl⟩) (fun r1374 hr1374 => ?_)
                obtain ⟨hr1374, xr1374_0⟩ := hr1374
                have : (3 : Int32).toInt = 3 := (by decide)
                have xr1374_0 : ((r1374 : Int32).toInt = 0 ∨ (n1373 : Int32).toInt = (3 : Int32).toInt) := xr1374_0
                refine lv_if_eq (tgt := 78) hx hb dX12_rule_71 (by decide) (fun c1375 => ?_) (fun c1375 => ?_)
                · have fc1375 := z_eq (rfl : (r1374).toInt = _) (by decide : (0 : Int32).toInt = 0) c1375
                  refine lv_aload_n hx hb dX12_rule_78 rfl (lv_at hl 1 rfl) ?_
                  refine lv_iconst (v := 4) hx hb dX12_rule_79 (by decide) ?_
                  refine lv_bipush (v := 116) hx hb dX12_rule_80 (by decide) ?_
                  refine lv_bipush (v := 97) hx hb dX12_rule_82 (by decide) ?_
                  refine lv_bipush (v := 107) hx hb dX12_rule_84 (by decide) ?_
                  refine lv_bipush (v := 101) hx hb dX12_rule_86 (by decide) ?_
                  refine lv_iconst (v := 0) hx hb dX12_rule_88 (by decide) ?_
                  refine lv_iconst (v := 0) hx hb dX12_rule_89 (by decide) ?_
                  refine vp_callSi (W.runV (As := [.int 4, .int 116, .int 97, .int 107, .int 101, .int 0, .int 0]) (rest := []) ⟨hx, hb, hml, hown, ht⟩ (c_X12_isWord l dC dI h g ca (u2 (u2 (u2 (u2 (u2 iv 12 34 n1371) 12 35 w1357_i_12_35) 12 36 w1357_i_12_36) 12 37 n1372) 12 38 n1373) lv (u2 (u2 (u2 (u2 (u2 (u2 fa 12 26 w1357_a_12_26) 12 28 w1357_a_12_28) 12 30 w1357_a_12_30) 12 29 w1357_a_12_29) 12 31 w1357_a_12_31) 12 27 w1357_a_12_27) la (IX_a (c := 12) (k := 27) (IX_a (c := 12) (k := 31) (IX_a (c := 12) (k := 29) (IX_a (c := 12) (k := 30) (IX_a (c := 12) (k := 28) (IX_a (c := 12) (k := 26) (IX_i (c := 12) (k := 38) (IX_i (c := 12) (k := 37) (IX_i (c := 12) (k := 36) (IX_i (c := 12) (k := 35) (IX_i (c := 12) (k := 34) hI (show inb (0, 200) n1371 from ⟨by omega, by omega⟩)) (show inb (0, 5) w1357_i_12_35 from ⟨by omega, by omega⟩)) (full_i _)) (show inb (0, 200) n1372 from ⟨by omega, by omega⟩)) (show inb (0, 200) n1373 from ⟨by omega, by omega⟩)) hw1357_a_12_26) hw1357_a_12_28) hw1357_a_12_30) hw1357_a_12_29) hw1357_a_12_31) hw1357_a_12_27) 4 116 97 107 101 0 0 ⟨by decide, by decide⟩ (show (n1372 : Int32).toInt + (n1373 : Int32).toInt ≤ 200 from by omega)) (kV 7 ht m_1468 m_1470 m_49 m_89 m_1471 rfl rfl hd_X12_isWord_v ⟨Nat.le_of_ble_eq_true rfl, Nat.le_of_ble_eq_true rfl⟩) (vR hP hK (rM_12 hK hP)) rfl rfl hl.1 rfl (lv_room (Nat.le_of_ble_eq_true rfl)) dX12_rule_90 ⟨Nat.le_of_ble_eq_true rfl, Nat.le_of_ble_eq_true rfl⟩) (fun r1376 hr1376 => ?_)
                  obtain ⟨hr1376, xr1376_0⟩ := hr1376
                  have : (4 : Int32).toInt = 4 := (by decide)
                  have xr1376_0 : ((r1376 : Int32).toInt = 0 ∨ (n1373 : Int32).toInt = (4 : Int32).toInt) := xr1376_0
                  refine lv_if_eq (tgt := 100) hx hb dX12_rule_93 (by decide) (fun c1377 => ?_) (fun c1377 => ?_)
                  · have fc1377 := z_eq (rfl : (r1376).toInt = _) (by decide : (0 : Int32).toInt = 0) c1377
                    refine lv_aload_n hx hb dX12_rule_100 rfl (lv_at hl 1 rfl) ?_
                    refine lv_iconst (v := 4) hx hb dX12_rule_101 (by decide) ?_
                    refine lv_bipush (v := 110) hx hb dX12_rule_102 (by decide) ?_
                    refine lv_bipush (v := 97) hx hb dX12_rule_104 (by decide) ?_
                    refine lv_bipush (v := 109) hx hb dX12_rule_106 (by decide) ?_
                    refine lv_bipush (v := 101) hx hb dX12_rule_108 (by decide) ?_
                    refine lv_iconst (v := 0) hx hb dX12_rule_110 (by decide) ?_
                    refine lv_iconst (v := 0) hx hb dX12_rule_111 (by decide) ?_
                    refine vp_callSi (W.runV (As := [.int 4, .int 110, .int 97, .int 109, .int 101, .int 0, .int 0]) (rest := []) ⟨hx, hb, hml, hown, ht⟩ (c_X12_isWord l dC dI h g ca (u2 (u2 (u2 (u2 (u2 iv 12 34 n1371) 12 35 w1357_i_12_35) 12 36 w1357_i_12_36) 12 37 n1372) 12 38 n1373) lv (u2 (u2 (u2 (u2 (u2 (u2 fa 12 26 w1357_a_12_26) 12 28 w1357_a_12_28) 12 30 w1357_a_12_30) 12 29 w1357_a_12_29) 12 31 w1357_a_12_31) 12 27 w1357_a_12_27) la (IX_a (c := 12) (k := 27) (IX_a (c := 12) (k := 31) (IX_a (c := 12) (k := 29) (IX_a (c := 12) (k := 30) (IX_a (c := 12) (k := 28) (IX_a (c := 12) (k := 26) (IX_i (c := 12) (k := 38) (IX_i (c := 12) (k := 37) (IX_i (c := 12) (k := 36) (IX_i (c := 12) (k := 35) (IX_i (c := 12) (k := 34) hI (show inb (0, 200) n1371 from ⟨by omega, by omega⟩)) (show inb (0, 5) w1357_i_12_35 from ⟨by omega, by omega⟩)) (full_i _)) (show inb (0, 200) n1372 from ⟨by omega, by omega⟩)) (show inb (0, 200) n1373 from ⟨by omega, by omega⟩)) hw1357_a_12_26) hw1357_a_12_28) hw1357_a_12_30) hw1357_a_12_29) hw1357_a_12_31) hw1357_a_12_27) 4 110 97 109 101 0 0 ⟨by decide, by decide⟩ (show (n1372 : Int32).toInt + (n1373 : Int32).toInt ≤ 200 from by omega)) (kV 7 ht m_1468 m_1470 m_49 m_89 m_1471 rfl rfl hd_X12_isWord_v ⟨Nat.le_of_ble_eq_true rfl, Nat.le_of_ble_eq_true rfl⟩) (vR hP hK (rM_12 hK hP)) rfl rfl hl.1 rfl (lv_room (Nat.le_of_ble_eq_true rfl)) dX12_rule_112 ⟨Nat.le_of_ble_eq_true rfl, Nat.le_of_ble_eq_true rfl⟩) (fun r1378 hr1378 => ?_)
                    obtain ⟨hr1378, xr1378_0⟩ := hr1378
                    have xr1378_0 : ((r1378 : Int32).toInt = 0 ∨ (n1373 : Int32).toInt = (4 : Int32).toInt) := xr1378_0
                    refine lv_if_eq (tgt := 122) hx hb dX12_rule_115 (by decide) (fun c1379 => ?_) (fun c1379 => ?_)
                    · have fc1379 := z_eq (rfl : (r1378).toInt = _) (by decide : (0 : Int32).toInt = 0) c1379
                      refine lv_aload_n hx hb dX12_rule_122 rfl (lv_at hl 1 rfl) ?_
                      refine lv_bipush (v := 6) hx hb dX12_rule_123 (by decide) ?_
                      refine lv_bipush (v := 115) hx hb dX12_rule_125 (by decide) ?_
                      refine lv_bipush (v := 116) hx hb dX12_rule_127 (by decide) ?_
                      refine lv_bipush (v := 114) hx hb dX12_rule_129 (by decide) ?_
                      refine lv_bipush (v := 105) hx hb dX12_rule_131 (by decide) ?_
                      refine lv_bipush (v := 107) hx hb dX12_rule_133 (by decide) ?_
                      refine lv_bipush (v := 101) hx hb dX12_rule_135 (by decide) ?_
                      refine vp_callSi (W.runV (As := [.int 6, .int 115, .int 116, .int 114, .int 105, .int 107, .int 101]) (rest := []) ⟨hx, hb, hml, hown, ht⟩ (c_X12_isWord l dC dI h g ca (u2 (u2 (u2 (u2 (u2 iv 12 34 n1371) 12 35 w1357_i_12_35) 12 36 w1357_i_12_36) 12 37 n1372) 12 38 n1373) lv (u2 (u2 (u2 (u2 (u2 (u2 fa 12 26 w1357_a_12_26) 12 28 w1357_a_12_28) 12 30 w1357_a_12_30) 12 29 w1357_a_12_29) 12 31 w1357_a_12_31) 12 27 w1357_a_12_27) la (IX_a (c := 12) (k := 27) (IX_a (c := 12) (k := 31) (IX_a (c := 12) (k := 29) (IX_a (c := 12) (k := 30) (IX_a (c := 12) (k := 28) (IX_a (c := 12) (k := 26) (IX_i (c := 12) (k := 38) (IX_i (c := 12) (k := 37) (IX_i (c := 12) (k := 36) (IX_i (c := 12) (k := 35) (IX_i (c := 12) (k := 34) hI (show inb (0, 200) n1371 from ⟨by omega, by omega⟩)) (show inb (0, 5) w1357_i_12_35 from ⟨by omega, by omega⟩)) (full_i _)) (show inb (0, 200) n1372 from ⟨by omega, by omega⟩)) (show inb (0, 200) n1373 from ⟨by omega, by omega⟩)) hw1357_a_12_26) hw1357_a_12_28) hw1357_a_12_30) hw1357_a_12_29) hw1357_a_12_31) hw1357_a_12_27) 6 115 116 114 105 107 101 ⟨by decide, by decide⟩ (show (n1372 : Int32).toInt + (n1373 : Int32).toInt ≤ 200 from by omega)) (kV 7 ht m_1468 m_1470 m_49 m_89 m_1471 rfl rfl hd_X12_isWord_v ⟨Nat.le_of_ble_eq_true rfl, Nat.le_of_ble_eq_true rfl⟩) (vR hP hK (rM_12 hK hP)) rfl rfl hl.1 rfl (lv_room (Nat.le_of_ble_eq_true rfl)) dX12_rule_137 ⟨Nat.le_of_ble_eq_true rfl, Nat.le_of_ble_eq_true rfl⟩) (fun r1380 hr1380 => ?_)
                      obtain ⟨hr1380, xr1380_0⟩ := hr1380
                      have : (6 : Int32).toInt = 6 := (by decide)
                      have xr1380_0 : ((r1380 : Int32).toInt = 0 ∨ (n1373 : Int32).toInt = (6 : Int32).toInt) := xr1380_0
                      refine lv_if_eq (tgt := 147) hx hb dX12_rule_140 (by decide) (fun c1381 => ?_) (fun c1381 => ?_)
                      · have fc1381 := z_eq (rfl : (r1380).toInt = _) (by decide : (0 : Int32).toInt = 0) c1381
                        refine lv_iconst (v := (-1)) hx hb dX12_rule_147 (by decide) ?_
                        refine lv_istore_n (lv' := [(3, .int (-1)), (2, .int x1357_2), (0, .ref h), (1, .int a)]) hx hb dX12_rule_148 rfl hl (by decide) rfl (fun ls hl => ?_)
                        refine lv_aload_n hx hb dX12_rule_149 rfl (lv_at hl 2 rfl) ?_
                        refine lv_iload_n hx hb dX12_rule_150 rfl (lv_at hl 0 rfl) ?_
                        refine lv_if_lt (tgt := 158) hx hb dX12_rule_151 (by decide) (fun c1382 => ?_) (fun c1382 => ?_)
                        · skip
                          refine lv_iconst (v := 0) hx hb dX12_rule_158 (by decide) ?_
                          refine lv_iconst (v := 1) hx hb dX12_rule_159 (by decide) ?_
                          refine lv_aload_n hx hb dX12_rule_160 rfl (lv_at hl 2 rfl) ?_
                          refine gM_12_37 hx hb ht hown hK hP m_1176 (v := n1372) rfl dX12_rule_161 ?_
                          have hFc := free_all hD hS hA
                          refine va_calli (va_runV (As := [.int 0, .int 1, .int n1372]) (rest := []) ⟨hx, hb, hml, hown, ht⟩ (c_X12_want_0 l dC dI H.size h g ca (u2 (u2 (u2 (u2 (u2 iv 12 34 n1371) 12 35 w1357_i_12_35) 12 36 w1357_i_12_36) 12 37 n1372) 12 38 n1373) lv (u2 (u2 (u2 (u2 (u2 (u2 fa 12 26 w1357_a_12_26) 12 28 w1357_a_12_28) 12 30 w1357_a_12_30) 12 29 w1357_a_12_29) 12 31 w1357_a_12_31) 12 27 w1357_a_12_27) la (IX_a (c := 12) (k := 27) (IX_a (c := 12) (k := 31) (IX_a (c := 12) (k := 29) (IX_a (c := 12) (k := 30) (IX_a (c := 12) (k := 28) (IX_a (c := 12) (k := 26) (IX_i (c := 12) (k := 38) (IX_i (c := 12) (k := 37) (IX_i (c := 12) (k := 36) (IX_i (c := 12) (k := 35) (IX_i (c := 12) (k := 34) hI (show inb (0, 200) n1371 from ⟨by omega, by omega⟩)) (show inb (0, 5) w1357_i_12_35 from ⟨by omega, by omega⟩)) (full_i _)) (show inb (0, 200) n1372 from ⟨by omega, by omega⟩)) (show inb (0, 200) n1373 from ⟨by omega, by omega⟩)) hw1357_a_12_26) hw1357_a_12_28) hw1357_a_12_30) hw1357_a_12_29) hw1357_a_12_31) hw1357_a_12_27) 1 n1372 ⟨by decide, by decide⟩) (kV 3 ht m_1472 m_1474 m_50 m_89 m_1475 rfl rfl hd_X12_want_v ⟨Nat.le_of_ble_eq_true rfl, Nat.le_of_ble_eq_true rfl⟩) (vW hP hK hD (rM_12 hK hP)) rfl rfl hl.1 rfl (lv_room (Nat.le_of_ble_eq_true rfl)) dX12_rule_164 ⟨Nat.le_of_ble_eq_true rfl, Nat.le_of_ble_eq_true rfl⟩) hS (fun q _ h => hFc q h) hFc (fun r1383 u t H1 locs ht9 hvm hr1383 hB hz1 hk1 hS => ?_)
                          obtain ⟨n1384, n1385, hn1384, xr1383_0, hr1383, rfl⟩ := hr1383
                          have hn1384 : 0 ≤ n1384.toInt ∧ n1384.toInt ≤ 5 := hn1384
                          obtain ⟨hP, hD⟩ := hB
                          rw [ht9] at hP
                          generalize H1 = H at hP hS ⊢
                          have hP : va_P (dC, dI) classes (WM h g ca (u2 (u2 (u2 (u2 (u2 iv 12 34 n1371) 12 35 n1384) 12 36 n1385) 12 37 n1372) 12 38 n1373) lv (u2 (u2 (u2 (u2 (u2 (u2 fa 12 26 w1357_a_12_26) 12 28 w1357_a_12_28) 12 30 w1357_a_12_30) 12 29 w1357_a_12_29) 12 31 w1357_a_12_31) 12 27 w1357_a_12_27) la) H := hP
                          have hD : va_D A (WM h g ca (u2 (u2 (u2 (u2 (u2 iv 12 34 n1371) 12 35 n1384) 12 36 n1385) 12 37 n1372) 12 38 n1373) lv (u2 (u2 (u2 (u2 (u2 (u2 fa 12 26 w1357_a_12_26) 12 28 w1357_a_12_28) 12 30 w1357_a_12_30) 12 29 w1357_a_12_29) 12 31 w1357_a_12_31) 12 27 w1357_a_12_27) la) := (show va_D _ (WM h g ca (u2 (u2 (u2 (u2 (u2 iv 12 34 n1371) 12 35 n1384) 12 36 n1385) 12 37 n1372) 12 38 n1373) lv (u2 (u2 (u2 (u2 (u2 (u2 fa 12 26 w1357_a_12_26) 12 28 w1357_a_12_28) 12 30 w1357_a_12_30) 12 29 w1357_a_12_29) 12 31 w1357_a_12_31) 12 27 w1357_a_12_27) la) from hD).weaken (fun _ _ _ h => hFc _ h)
                          have xr1383_0 : 1 ≤ (n1384 : Int32).toInt := xr1383_0
                          obtain rfl : 0 = r1383 := hr1383.symm
                          refine lv_if_eq (tgt := 210) hx hb dX12_rule_167 (by decide) (fun c1386 => ?_) (fun c1386 => ?_)
                          · skip
                            refine lv_goto (tgt := 39) hx hb dX12_rule_210 (by decide) ?_
                            exact ih1358 x1357_2 n1371 n1384 n1385 n1372 n1373 w1357_a_12_26 w1357_a_12_28 w1357_a_12_30 w1357_a_12_29 w1357_a_12_31 w1357_a_12_27 ⟨by omega, by omega⟩ ⟨by omega, by omega⟩ ⟨by omega, by omega⟩ ⟨by omega, by omega⟩ ⟨by omega, by omega⟩ hw1357_a_12_26 hw1357_a_12_28 hw1357_a_12_30 hw1357_a_12_29 hw1357_a_12_31 hw1357_a_12_27 (show ∀ j : Nat, (j : Int) < 12 * ((iv 12 23) : Int32).toInt → w1357_a_12_26 j = (fa 12 26) j ∧ w1357_a_12_27 j = (fa 12 27) j ∧ w1357_a_12_28 j = (fa 12 28) j from hq1358_0) (show ((n1384 : Int32).toInt ≠ 0 ∨ ∀ j : Nat, 12 * ((iv 12 23) : Int32).toInt ≤ (j : Int) → (j : Int) < 12 * ((iv 12 23) : Int32).toInt + (x1357_2 : Int32).toInt → gd3 (w1357_a_12_26 j) (w1357_a_12_27 j) (w1357_a_12_28 j)) from Or.inl (by omega)) (by omega) _ _ ls hP hD hS (lv_sub hl [1, 2, 3] rfl)
                          · exact absurd rfl c1386
                        · exact absurd c1382 (by decide)
                      · have fc1381 := z_ne (rfl : (r1380).toInt = _) (by decide : (0 : Int32).toInt = 0) c1381
                        refine lv_iconst (v := 3) hx hb dX12_rule_143 (by decide) ?_
                        refine lv_goto (tgt := 148) hx hb dX12_rule_144 (by decide) ?_
                        refine lv_istore_n (lv' := [(3, .int 3), (2, .int x1357_2), (0, .ref h), (1, .int a)]) hx hb dX12_rule_148 rfl hl (by decide) rfl (fun ls hl => ?_)
                        refine lv_aload_n hx hb dX12_rule_149 rfl (lv_at hl 2 rfl) ?_
                        refine lv_iload_n hx hb dX12_rule_150 rfl (lv_at hl 0 rfl) ?_
                        refine lv_if_lt (tgt := 158) hx hb dX12_rule_151 (by decide) (fun c1387 => ?_) (fun c1387 => ?_)
                        · exact absurd c1387 (by decide)
                        · skip
                          refine lv_iconst (v := 1) hx hb dX12_rule_154 (by decide) ?_
                          refine lv_goto (tgt := 159) hx hb dX12_rule_155 (by decide) ?_
                          refine lv_iconst (v := 1) hx hb dX12_rule_159 (by decide) ?_
                          refine lv_aload_n hx hb dX12_rule_160 rfl (lv_at hl 2 rfl) ?_
                          refine gM_12_37 hx hb ht hown hK hP m_1176 (v := n1372) rfl dX12_rule_161 ?_
                          refine vp_callSi (W.runV (As := [.int 1, .int 1, .int n1372]) (rest := []) ⟨hx, hb, hml, hown, ht⟩ (c_X12_want_1 l dC dI h g ca (u2 (u2 (u2 (u2 (u2 iv 12 34 n1371) 12 35 w1357_i_12_35) 12 36 w1357_i_12_36) 12 37 n1372) 12 38 n1373) lv (u2 (u2 (u2 (u2 (u2 (u2 fa 12 26 w1357_a_12_26) 12 28 w1357_a_12_28) 12 30 w1357_a_12_30) 12 29 w1357_a_12_29) 12 31 w1357_a_12_31) 12 27 w1357_a_12_27) la (IX_a (c := 12) (k := 27) (IX_a (c := 12) (k := 31) (IX_a (c := 12) (k := 29) (IX_a (c := 12) (k := 30) (IX_a (c := 12) (k := 28) (IX_a (c := 12) (k := 26) (IX_i (c := 12) (k := 38) (IX_i (c := 12) (k := 37) (IX_i (c := 12) (k := 36) (IX_i (c := 12) (k := 35) (IX_i (c := 12) (k := 34) hI (show inb (0, 200) n1371 from ⟨by omega, by omega⟩)) (show inb (0, 5) w1357_i_12_35 from ⟨by omega, by omega⟩)) (full_i _)) (show inb (0, 200) n1372 from ⟨by omega, by omega⟩)) (show inb (0, 200) n1373 from ⟨by omega, by omega⟩)) hw1357_a_12_26) hw1357_a_12_28) hw1357_a_12_30) hw1357_a_12_29) hw1357_a_12_31) hw1357_a_12_27) 1 n1372) (kV 3 ht m_1472 m_1474 m_50 m_89 m_1475 rfl rfl hd_X12_want_v ⟨Nat.le_of_ble_eq_true rfl, Nat.le_of_ble_eq_true rfl⟩) (vR hP hK (rM_12 hK hP)) rfl rfl hl.1 rfl (lv_room (Nat.le_of_ble_eq_true rfl)) dX12_rule_164 ⟨Nat.le_of_ble_eq_true rfl, Nat.le_of_ble_eq_true rfl⟩) (fun r1388 hr1388 => ?_)
                          rcases hr1388 with ⟨rfl, fr1388⟩ | ⟨rfl, fr1388⟩
                          · skip
                            have fr1388 : ((w1357_i_12_35 : Int32).toInt = 0) := fr1388
                            refine lv_if_eq (tgt := 210) hx hb dX12_rule_167 (by decide) (fun c1389 => ?_) (fun c1389 => ?_)
                            · exact absurd c1389 (by decide)
                            · skip
                              refine lv_aload_n hx hb dX12_rule_170 rfl (lv_at hl 2 rfl) ?_
                              refine lv_iload_n hx hb dX12_rule_171 rfl (lv_at hl 1 rfl) ?_
                              refine lv_bipush (v := 12) hx hb dX12_rule_172 (by decide) ?_
                              refine lv_icmp_ge (tgt := 181) hx hb dX12_rule_174 (by decide) (fun c1390 => ?_) (fun c1390 => ?_)
                              · have fc1390 := z_le (by decide : (12 : Int32).toInt = 12) (rfl : (x1357_2).toInt = _) c1390
                                refine lv_iconst (v := 0) hx hb dX12_rule_181 (by decide) ?_
                                refine lv_iconst (v := 5) hx hb dX12_rule_182 (by decide) ?_
                                refine lv_aload_n hx hb dX12_rule_183 rfl (lv_at hl 2 rfl) ?_
                                refine gM_12_37 hx hb ht hown hK hP m_1176 (v := n1372) rfl dX12_rule_184 ?_
                                have hFc := free_all hD hS hA
                                refine va_calli (va_runV (As := [.int 0, .int 5, .int n1372]) (rest := []) ⟨hx, hb, hml, hown, ht⟩ (c_X12_want_0 l dC dI H.size h g ca (u2 (u2 (u2 (u2 (u2 iv 12 34 n1371) 12 35 w1357_i_12_35) 12 36 w1357_i_12_36) 12 37 n1372) 12 38 n1373) lv (u2 (u2 (u2 (u2 (u2 (u2 fa 12 26 w1357_a_12_26) 12 28 w1357_a_12_28) 12 30 w1357_a_12_30) 12 29 w1357_a_12_29) 12 31 w1357_a_12_31) 12 27 w1357_a_12_27) la (IX_a (c := 12) (k := 27) (IX_a (c := 12) (k := 31) (IX_a (c := 12) (k := 29) (IX_a (c := 12) (k := 30) (IX_a (c := 12) (k := 28) (IX_a (c := 12) (k := 26) (IX_i (c := 12) (k := 38) (IX_i (c := 12) (k := 37) (IX_i (c := 12) (k := 36) (IX_i (c := 12) (k := 35) (IX_i (c := 12) (k := 34) hI (show inb (0, 200) n1371 from ⟨by omega, by omega⟩)) (show inb (0, 5) w1357_i_12_35 from ⟨by omega, by omega⟩)) (full_i _)) (show inb (0, 200) n1372 from ⟨by omega, by omega⟩)) (show inb (0, 200) n1373 from ⟨by omega, by omega⟩)) hw1357_a_12_26) hw1357_a_12_28) hw1357_a_12_30) hw1357_a_12_29) hw1357_a_12_31) hw1357_a_12_27) 5 n1372 ⟨by decide, by decide⟩) (kV 3 ht m_1472 m_1474 m_50 m_89 m_1475 rfl rfl hd_X12_want_v ⟨Nat.le_of_ble_eq_true rfl, Nat.le_of_ble_eq_true rfl⟩) (vW hP hK hD (rM_12 hK hP)) rfl rfl hl.1 rfl (lv_room (Nat.le_of_ble_eq_true rfl)) dX12_rule_187 ⟨Nat.le_of_ble_eq_true rfl, Nat.le_of_ble_eq_true rfl⟩) hS (fun q _ h => hFc q h) hFc (fun r1391 u t H1 locs ht9 hvm hr1391 hB hz1 hk1 hS => ?_)
                                obtain ⟨n1392, n1393, hn1392, xr1391_0, hr1391, rfl⟩ := hr1391
                                have hn1392 : 0 ≤ n1392.toInt ∧ n1392.toInt ≤ 5 := hn1392
                                obtain ⟨hP, hD⟩ := hB
                                rw [ht9] at hP
                                generalize H1 = H at hP hS ⊢
                                have hP : va_P (dC, dI) classes (WM h g ca (u2 (u2 (u2 (u2 (u2 iv 12 34 n1371) 12 35 n1392) 12 36 n1393) 12 37 n1372) 12 38 n1373) lv (u2 (u2 (u2 (u2 (u2 (u2 fa 12 26 w1357_a_12_26) 12 28 w1357_a_12_28) 12 30 w1357_a_12_30) 12 29 w1357_a_12_29) 12 31 w1357_a_12_31) 12 27 w1357_a_12_27) la) H := hP
                                have hD : va_D A (WM h g ca (u2 (u2 (u2 (u2 (u2 iv 12 34 n1371) 12 35 n1392) 12 36 n1393) 12 37 n1372) 12 38 n1373) lv (u2 (u2 (u2 (u2 (u2 (u2 fa 12 26 w1357_a_12_26) 12 28 w1357_a_12_28) 12 30 w1357_a_12_30) 12 29 w1357_a_12_29) 12 31 w1357_a_12_31) 12 27 w1357_a_12_27) la) := (show va_D _ (WM h g ca (u2 (u2 (u2 (u2 (u2 iv 12 34 n1371) 12 35 n1392) 12 36 n1393) 12 37 n1372) 12 38 n1373) lv (u2 (u2 (u2 (u2 (u2 (u2 fa 12 26 w1357_a_12_26) 12 28 w1357_a_12_28) 12 30 w1357_a_12_30) 12 29 w1357_a_12_29) 12 31 w1357_a_12_31) 12 27 w1357_a_12_27) la) from hD).weaken (fun _ _ _ h => hFc _ h)
                                have xr1391_0 : 1 ≤ (n1392 : Int32).toInt := xr1391_0
                                obtain rfl : 0 = r1391 := hr1391.symm
                                refine lv_if_eq (tgt := 210) hx hb dX12_rule_190 (by decide) (fun c1394 => ?_) (fun c1394 => ?_)
                                · skip
                                  refine lv_goto (tgt := 39) hx hb dX12_rule_210 (by decide) ?_
                                  exact ih1358 x1357_2 n1371 n1392 n1393 n1372 n1373 w1357_a_12_26 w1357_a_12_28 w1357_a_12_30 w1357_a_12_29 w1357_a_12_31 w1357_a_12_27 ⟨by omega, by omega⟩ ⟨by omega, by omega⟩ ⟨by omega, by omega⟩ ⟨by omega, by omega⟩ ⟨by omega, by omega⟩ hw1357_a_12_26 hw1357_a_12_28 hw1357_a_12_30 hw1357_a_12_29 hw1357_a_12_31 hw1357_a_12_27 (show ∀ j : Nat, (j : Int) < 12 * ((iv 12 23) : Int32).toInt → w1357_a_12_26 j = (fa 12 26) j ∧ w1357_a_12_27 j = (fa 12 27) j ∧ w1357_a_12_28 j = (fa 12 28) j from hq1358_0) (show ((n1392 : Int32).toInt ≠ 0 ∨ ∀ j : Nat, 12 * ((iv 12 23) : Int32).toInt ≤ (j : Int) → (j : Int) < 12 * ((iv 12 23) : Int32).toInt + (x1357_2 : Int32).toInt → gd3 (w1357_a_12_26 j) (w1357_a_12_27 j) (w1357_a_12_28 j)) from Or.inl (by omega)) (by omega) _ _ ls hP hD hS (lv_sub hl [1, 2, 3] rfl)
                                · exact absurd rfl c1394
                              · have fc1390 := z_nle (by decide : (12 : Int32).toInt = 12) (rfl : (x1357_2).toInt = _) c1390
                                refine lv_iconst (v := 1) hx hb dX12_rule_177 (by decide) ?_
                                refine lv_goto (tgt := 182) hx hb dX12_rule_178 (by decide) ?_
                                refine lv_iconst (v := 5) hx hb dX12_rule_182 (by decide) ?_
                                refine lv_aload_n hx hb dX12_rule_183 rfl (lv_at hl 2 rfl) ?_
                                refine gM_12_37 hx hb ht hown hK hP m_1176 (v := n1372) rfl dX12_rule_184 ?_
                                refine vp_callSi (W.runV (As := [.int 1, .int 5, .int n1372]) (rest := []) ⟨hx, hb, hml, hown, ht⟩ (c_X12_want_1 l dC dI h g ca (u2 (u2 (u2 (u2 (u2 iv 12 34 n1371) 12 35 w1357_i_12_35) 12 36 w1357_i_12_36) 12 37 n1372) 12 38 n1373) lv (u2 (u2 (u2 (u2 (u2 (u2 fa 12 26 w1357_a_12_26) 12 28 w1357_a_12_28) 12 30 w1357_a_12_30) 12 29 w1357_a_12_29) 12 31 w1357_a_12_31) 12 27 w1357_a_12_27) la (IX_a (c := 12) (k := 27) (IX_a (c := 12) (k := 31) (IX_a (c := 12) (k := 29) (IX_a (c := 12) (k := 30) (IX_a (c := 12) (k := 28) (IX_a (c := 12) (k := 26) (IX_i (c := 12) (k := 38) (IX_i (c := 12) (k := 37) (IX_i (c := 12) (k := 36) (IX_i (c := 12) (k := 35) (IX_i (c := 12) (k := 34) hI (show inb (0, 200) n1371 from ⟨by omega, by omega⟩)) (show inb (0, 5) w1357_i_12_35 from ⟨by omega, by omega⟩)) (full_i _)) (show inb (0, 200) n1372 from ⟨by omega, by omega⟩)) (show inb (0, 200) n1373 from ⟨by omega, by omega⟩)) hw1357_a_12_26) hw1357_a_12_28) hw1357_a_12_30) hw1357_a_12_29) hw1357_a_12_31) hw1357_a_12_27) 5 n1372) (kV 3 ht m_1472 m_1474 m_50 m_89 m_1475 rfl rfl hd_X12_want_v ⟨Nat.le_of_ble_eq_true rfl, Nat.le_of_ble_eq_true rfl⟩) (vR hP hK (rM_12 hK hP)) rfl rfl hl.1 rfl (lv_room (Nat.le_of_ble_eq_true rfl)) dX12_rule_187 ⟨Nat.le_of_ble_eq_true rfl, Nat.le_of_ble_eq_true rfl⟩) (fun r1395 hr1395 => ?_)
                                rcases hr1395 with ⟨rfl, fr1395⟩ | ⟨rfl, fr1395⟩
                                · skip
                                  have fr1395 : ((w1357_i_12_35 : Int32).toInt = 0) := fr1395
                                  refine lv_if_eq (tgt := 210) hx hb dX12_rule_190 (by decide) (fun c1396 => ?_) (fun c1396 => ?_)
                                  · exact absurd c1396 (by decide)
                                  · skip
                                    refine lv_aload_n hx hb dX12_rule_193 rfl (lv_at hl 2 rfl) ?_
                                    refine lv_iload_n hx hb dX12_rule_194 rfl (lv_at hl 0 rfl) ?_
                                    refine lv_bipush (v := 12) hx hb dX12_rule_195 (by decide) ?_
                                    refine lv_aload_n hx hb dX12_rule_197 rfl (lv_at hl 2 rfl) ?_
                                    refine gM_12_23 hx hb ht hown hK hP m_1162 (v := (iv 12 23)) rfl dX12_rule_198 ?_
                                    refine lv_imul hx hb dX12_rule_201 ?_
                                    refine lv_topi (fun v1397 ev1397 => ?_)
                                    have tv1397 := z_mul ev1397 (by decide : (12 : Int32).toInt = 12) (rfl : ((iv 12 23)).toInt = _) (by omega) (by omega)
                                    refine lv_iload_n hx hb dX12_rule_202 rfl (lv_at hl 1 rfl) ?_
                                    refine lv_iadd hx hb dX12_rule_203 ?_
                                    refine lv_topi (fun v1398 ev1398 => ?_)
                                    have tv1398 := z_add ev1398 (rfl : (v1397).toInt = _) (rfl : (x1357_2).toInt = _) (by omega) (by omega)
                                    have hFc := free_all hD hS hA
                                    refine va_callv (va_runV (As := [.int 3, .int v1398]) (rest := []) ⟨hx, hb, hml, hown, ht⟩ (c_X12_readClause_3 l dC dI H.size h g ca (u2 (u2 (u2 (u2 (u2 iv 12 34 n1371) 12 35 w1357_i_12_35) 12 36 w1357_i_12_36) 12 37 n1372) 12 38 n1373) lv (u2 (u2 (u2 (u2 (u2 (u2 fa 12 26 w1357_a_12_26) 12 28 w1357_a_12_28) 12 30 w1357_a_12_30) 12 29 w1357_a_12_29) 12 31 w1357_a_12_31) 12 27 w1357_a_12_27) la (IX_a (c := 12) (k := 27) (IX_a (c := 12) (k := 31) (IX_a (c := 12) (k := 29) (IX_a (c := 12) (k := 30) (IX_a (c := 12) (k := 28) (IX_a (c := 12) (k := 26) (IX_i (c := 12) (k := 38) (IX_i (c := 12) (k := 37) (IX_i (c := 12) (k := 36) (IX_i (c := 12) (k := 35) (IX_i (c := 12) (k := 34) hI (show inb (0, 200) n1371 from ⟨by omega, by omega⟩)) (show inb (0, 5) w1357_i_12_35 from ⟨by omega, by omega⟩)) (full_i _)) (show inb (0, 200) n1372 from ⟨by omega, by omega⟩)) (show inb (0, 200) n1373 from ⟨by omega, by omega⟩)) hw1357_a_12_26) hw1357_a_12_28) hw1357_a_12_30) hw1357_a_12_29) hw1357_a_12_31) hw1357_a_12_27) v1398 ⟨by omega, by omega⟩) (kV 2 ht m_1476 m_1478 m_51 m_89 m_1479 rfl rfl hd_X12_readClause_v ⟨Nat.le_of_ble_eq_true rfl, Nat.le_of_ble_eq_true rfl⟩) (vW hP hK hD (rM_12 hK hP)) rfl rfl hl.1 rfl (lv_room (Nat.le_of_ble_eq_true rfl)) dX12_rule_204 ⟨Nat.le_of_ble_eq_true rfl, Nat.le_of_ble_eq_true rfl⟩) hS (fun q _ h => hFc q h) hFc (fun u t H1 locs ht9 hvm hr1399 hB hz1 hk1 hS => ?_)
                                    obtain ⟨n1400, n1401, n1402, n1403, n1404, n1405, n1406, hn1402, hn1403, hn1404, hn1406, xr1399_0, xr1399_1, xr1399_2, rfl⟩ := hr1399
                                    have hn1400 : ∀ j, inb (bA 12 26 j) (n1400 j) := fun j => full_i _
                                    have hn1401 : ∀ j, inb (bA 12 28 j) (n1401 j) := fun j => full_i _
                                    have hn1403 : 0 ≤ n1403.toInt ∧ n1403.toInt ≤ 200 := hn1403
                                    have hn1404 : 0 ≤ n1404.toInt ∧ n1404.toInt ≤ 5 := hn1404
                                    have hn1406 : 0 ≤ n1406.toInt ∧ n1406.toInt ≤ 200 := hn1406
                                    obtain ⟨hP, hD⟩ := hB
                                    rw [ht9] at hP
                                    generalize H1 = H at hP hS ⊢
                                    have hP : va_P (dC, dI) classes (WM h g ca (u2 (u2 (u2 (u2 (u2 iv 12 34 n1403) 12 35 n1404) 12 36 n1405) 12 37 n1406) 12 38 n1373) lv (u2 (u2 (u2 (u2 (u2 (u2 fa 12 26 n1400) 12 28 n1401) 12 30 n1402) 12 29 w1357_a_12_29) 12 31 w1357_a_12_31) 12 27 w1357_a_12_27) la) H := hP
                                    have hD : va_D A (WM h g ca (u2 (u2 (u2 (u2 (u2 iv 12 34 n1403) 12 35 n1404) 12 36 n1405) 12 37 n1406) 12 38 n1373) lv (u2 (u2 (u2 (u2 (u2 (u2 fa 12 26 n1400) 12 28 n1401) 12 30 n1402) 12 29 w1357_a_12_29) 12 31 w1357_a_12_31) 12 27 w1357_a_12_27) la) := (show va_D _ (WM h g ca (u2 (u2 (u2 (u2 (u2 iv 12 34 n1403) 12 35 n1404) 12 36 n1405) 12 37 n1406) 12 38 n1373) lv (u2 (u2 (u2 (u2 (u2 (u2 fa 12 26 n1400) 12 28 n1401) 12 30 n1402) 12 29 w1357_a_12_29) 12 31 w1357_a_12_31) 12 27 w1357_a_12_27) la) from hD).weaken (fun _ _ _ h => hFc _ h)
                                    have xr1399_0 : (n1371 : Int32).toInt ≤ (n1403 : Int32).toInt := xr1399_0
                                    have xr1399_1 : ∀ j : Nat, j ≠ (v1398 : Int32).toNatClampNeg → n1400 j = w1357_a_12_26 j ∧ w1357_a_12_27 j = w1357_a_12_27 j ∧ n1401 j = w1357_a_12_28 j := xr1399_1
                                    have xr1399_2 : ((n1404 : Int32).toInt ≠ 0 ∨ gd3 (n1400 (v1398 : Int32).toNatClampNeg) (w1357_a_12_27 (v1398 : Int32).toNatClampNeg) (n1401 (v1398 : Int32).toNatClampNeg)) := xr1399_2
                                    obtain ⟨v1407, ev1407⟩ : ∃ y : Int32, y = x1357_2 + 1 := ⟨_, rfl⟩
                                    have tv1407 := z_add ev1407 rfl (by decide : (1 : Int32).toInt = 1) (by omega) (by omega)
                                    refine lv_iinc (v := v1407) (lv' := [(2, .int v1407), (3, .int 3), (0, .ref h), (1, .int a)]) hx hb dX12_rule_207 hl (k := 1) rfl (by rw [ev1407]; rfl) (by decide) rfl (fun ls hl => ?_)
                                    refine lv_goto (tgt := 39) hx hb dX12_rule_210 (by decide) ?_
                                    exact ih1358 v1407 n1403 n1404 n1405 n1406 n1373 n1400 n1401 n1402 w1357_a_12_29 w1357_a_12_31 w1357_a_12_27 ⟨by omega, by omega⟩ ⟨by omega, by omega⟩ ⟨by omega, by omega⟩ ⟨by omega, by omega⟩ ⟨by omega, by omega⟩ hn1400 hn1401 hn1402 hw1357_a_12_29 hw1357_a_12_31 hw1357_a_12_27 (show ∀ j : Nat, (j : Int) < 12 * ((iv 12 23) : Int32).toInt → n1400 j = (fa 12 26) j ∧ w1357_a_12_27 j = (fa 12 27) j ∧ n1401 j = (fa 12 28) j from (fun j h => have hj : j ≠ (v1398 : Int32).toNatClampNeg := (show j ≠ (v1398 : Int32).toInt.toNat from by omega); ⟨(xr1399_1 j hj).1.trans (hq1358_0 j h).1, (xr1399_1 j hj).2.1.trans (hq1358_0 j h).2.1, (xr1399_1 j hj).2.2.trans (hq1358_0 j h).2.2⟩)) (show ((n1404 : Int32).toInt ≠ 0 ∨ ∀ j : Nat, 12 * ((iv 12 23) : Int32).toInt ≤ (j : Int) → (j : Int) < 12 * ((iv 12 23) : Int32).toInt + (v1407 : Int32).toInt → gd3 (n1400 j) (w1357_a_12_27 j) (n1401 j)) from (by
                                          by_cases h0 : (n1404 : Int32).toInt = 0
                                          · refine Or.inr (fun j h1 h2 => ?_)
                                            by_cases hj : j = (v1398 : Int32).toNatClampNeg
                                            · rw [hj]; exact xr1399_2.resolve_left (by omega)
                                            · have q := xr1399_1 j hj
                                              rw [q.1, q.2.1, q.2.2]
                                              refine (hq1358_1.resolve_left (by omega)) j h1 ?_
                                              have hj2 : j ≠ (v1398 : Int32).toInt.toNat := hj
                                              omega
                                          · exact Or.inl h0)) (by omega) _ _ ls hP hD hS (lv_sub hl [0, 2, 3] rfl)
                                · skip
                                  have fr1395 : ¬ ((w1357_i_12_35 : Int32).toInt = 0) := fr1395
                                  exfalso; omega
                          · skip
                            have fr1388 : ¬ ((w1357_i_12_35 : Int32).toInt = 0) := fr1388
                            exfalso; omega
                    · have fc1379 := z_ne (rfl : (r1378).toInt = _) (by decide : (0 : Int32).toInt = 0) c1379
                      refine lv_iconst (v := 2) hx hb dX12_rule_118 (by decide) ?_
                      refine lv_goto (tgt := 148) hx hb dX12_rule_119 (by decide) ?_
                      refine lv_istore_n (lv' := [(3, .int 2), (2, .int x1357_2), (0, .ref h), (1, .int a)]) hx hb dX12_rule_148 rfl hl (by decide) rfl (fun ls hl => ?_)
                      refine lv_aload_n hx hb dX12_rule_149 rfl (lv_at hl 2 rfl) ?_
                      refine lv_iload_n hx hb dX12_rule_150 rfl (lv_at hl 0 rfl) ?_
                      refine lv_if_lt (tgt := 158) hx hb dX12_rule_151 (by decide) (fun c1408 => ?_) (fun c1408 => ?_)
                      · exact absurd c1408 (by decide)
                      · skip
                        refine lv_iconst (v := 1) hx hb dX12_rule_154 (by decide) ?_
                        refine lv_goto (tgt := 159) hx hb dX12_rule_155 (by decide) ?_
                        refine lv_iconst (v := 1) hx hb dX12_rule_159 (by decide) ?_
                        refine lv_aload_n hx hb dX12_rule_160 rfl (lv_at hl 2 rfl) ?_
                        refine gM_12_37 hx hb ht hown hK hP m_1176 (v := n1372) rfl dX12_rule_161 ?_
                        refine vp_callSi (W.runV (As := [.int 1, .int 1, .int n1372]) (rest := []) ⟨hx, hb, hml, hown, ht⟩ (c_X12_want_1 l dC dI h g ca (u2 (u2 (u2 (u2 (u2 iv 12 34 n1371) 12 35 w1357_i_12_35) 12 36 w1357_i_12_36) 12 37 n1372) 12 38 n1373) lv (u2 (u2 (u2 (u2 (u2 (u2 fa 12 26 w1357_a_12_26) 12 28 w1357_a_12_28) 12 30 w1357_a_12_30) 12 29 w1357_a_12_29) 12 31 w1357_a_12_31) 12 27 w1357_a_12_27) la (IX_a (c := 12) (k := 27) (IX_a (c := 12) (k := 31) (IX_a (c := 12) (k := 29) (IX_a (c := 12) (k := 30) (IX_a (c := 12) (k := 28) (IX_a (c := 12) (k := 26) (IX_i (c := 12) (k := 38) (IX_i (c := 12) (k := 37) (IX_i (c := 12) (k := 36) (IX_i (c := 12) (k := 35) (IX_i (c := 12) (k := 34) hI (show inb (0, 200) n1371 from ⟨by omega, by omega⟩)) (show inb (0, 5) w1357_i_12_35 from ⟨by omega, by omega⟩)) (full_i _)) (show inb (0, 200) n1372 from ⟨by omega, by omega⟩)) (show inb (0, 200) n1373 from ⟨by omega, by omega⟩)) hw1357_a_12_26) hw1357_a_12_28) hw1357_a_12_30) hw1357_a_12_29) hw1357_a_12_31) hw1357_a_12_27) 1 n1372) (kV 3 ht m_1472 m_1474 m_50 m_89 m_1475 rfl rfl hd_X12_want_v ⟨Nat.le_of_ble_eq_true rfl, Nat.le_of_ble_eq_true rfl⟩) (vR hP hK (rM_12 hK hP)) rfl rfl hl.1 rfl (lv_room (Nat.le_of_ble_eq_true rfl)) dX12_rule_164 ⟨Nat.le_of_ble_eq_true rfl, Nat.le_of_ble_eq_true rfl⟩) (fun r1409 hr1409 => ?_)
                        rcases hr1409 with ⟨rfl, fr1409⟩ | ⟨rfl, fr1409⟩
                        · skip
                          have fr1409 : ((w1357_i_12_35 : Int32).toInt = 0) := fr1409
                          refine lv_if_eq (tgt := 210) hx hb dX12_rule_167 (by decide) (fun c1410 => ?_) (fun c1410 => ?_)
                          · exact absurd c1410 (by decide)
                          · skip
                            refine lv_aload_n hx hb dX12_rule_170 rfl (lv_at hl 2 rfl) ?_
                            refine lv_iload_n hx hb dX12_rule_171 rfl (lv_at hl 1 rfl) ?_
                            refine lv_bipush (v := 12) hx hb dX12_rule_172 (by decide) ?_
                            refine lv_icmp_ge (tgt := 181) hx hb dX12_rule_174 (by decide) (fun c1411 => ?_) (fun c1411 => ?_)
                            · have fc1411 := z_le (by decide : (12 : Int32).toInt = 12) (rfl : (x1357_2).toInt = _) c1411
                              refine lv_iconst (v := 0) hx hb dX12_rule_181 (by decide) ?_
                              refine lv_iconst (v := 5) hx hb dX12_rule_182 (by decide) ?_
                              refine lv_aload_n hx hb dX12_rule_183 rfl (lv_at hl 2 rfl) ?_
                              refine gM_12_37 hx hb ht hown hK hP m_1176 (v := n1372) rfl dX12_rule_184 ?_
                              have hFc := free_all hD hS hA
                              refine va_calli (va_runV (As := [.int 0, .int 5, .int n1372]) (rest := []) ⟨hx, hb, hml, hown, ht⟩ (c_X12_want_0 l dC dI H.size h g ca (u2 (u2 (u2 (u2 (u2 iv 12 34 n1371) 12 35 w1357_i_12_35) 12 36 w1357_i_12_36) 12 37 n1372) 12 38 n1373) lv (u2 (u2 (u2 (u2 (u2 (u2 fa 12 26 w1357_a_12_26) 12 28 w1357_a_12_28) 12 30 w1357_a_12_30) 12 29 w1357_a_12_29) 12 31 w1357_a_12_31) 12 27 w1357_a_12_27) la (IX_a (c := 12) (k := 27) (IX_a (c := 12) (k := 31) (IX_a (c := 12) (k := 29) (IX_a (c := 12) (k := 30) (IX_a (c := 12) (k := 28) (IX_a (c := 12) (k := 26) (IX_i (c := 12) (k := 38) (IX_i (c := 12) (k := 37) (IX_i (c := 12) (k := 36) (IX_i (c := 12) (k := 35) (IX_i (c := 12) (k := 34) hI (show inb (0, 200) n1371 from ⟨by omega, by omega⟩)) (show inb (0, 5) w1357_i_12_35 from ⟨by omega, by omega⟩)) (full_i _)) (show inb (0, 200) n1372 from ⟨by omega, by omega⟩)) (show inb (0, 200) n1373 from ⟨by omega, by omega⟩)) hw1357_a_12_26) hw1357_a_12_28) hw1357_a_12_30) hw1357_a_12_29) hw1357_a_12_31) hw1357_a_12_27) 5 n1372 ⟨by decide, by decide⟩) (kV 3 ht m_1472 m_1474 m_50 m_89 m_1475 rfl rfl hd_X12_want_v ⟨Nat.le_of_ble_eq_true rfl, Nat.le_of_ble_eq_true rfl⟩) (vW hP hK hD (rM_12 hK hP)) rfl rfl hl.1 rfl (lv_room (Nat.le_of_ble_eq_true rfl)) dX12_rule_187 ⟨Nat.le_of_ble_eq_true rfl, Nat.le_of_ble_eq_true rfl⟩) hS (fun q _ h => hFc q h) hFc (fun r1412 u t H1 locs ht9 hvm hr1412 hB hz1 hk1 hS => ?_)
                              obtain ⟨n1413, n1414, hn1413, xr1412_0, hr1412, rfl⟩ := hr1412
                              have hn1413 : 0 ≤ n1413.toInt ∧ n1413.toInt ≤ 5 := hn1413
                              obtain ⟨hP, hD⟩ := hB
                              rw [ht9] at hP
                              generalize H1 = H at hP hS ⊢
                              have hP : va_P (dC, dI) classes (WM h g ca (u2 (u2 (u2 (u2 (u2 iv 12 34 n1371) 12 35 n1413) 12 36 n1414) 12 37 n1372) 12 38 n1373) lv (u2 (u2 (u2 (u2 (u2 (u2 fa 12 26 w1357_a_12_26) 12 28 w1357_a_12_28) 12 30 w1357_a_12_30) 12 29 w1357_a_12_29) 12 31 w1357_a_12_31) 12 27 w1357_a_12_27) la) H := hP
                              have hD : va_D A (WM h g ca (u2 (u2 (u2 (u2 (u2 iv 12 34 n1371) 12 35 n1413) 12 36 n1414) 12 37 n1372) 12 38 n1373) lv (u2 (u2 (u2 (u2 (u2 (u2 fa 12 26 w1357_a_12_26) 12 28 w1357_a_12_28) 12 30 w1357_a_12_30) 12 29 w1357_a_12_29) 12 31 w1357_a_12_31) 12 27 w1357_a_12_27) la) := (show va_D _ (WM h g ca (u2 (u2 (u2 (u2 (u2 iv 12 34 n1371) 12 35 n1413) 12 36 n1414) 12 37 n1372) 12 38 n1373) lv (u2 (u2 (u2 (u2 (u2 (u2 fa 12 26 w1357_a_12_26) 12 28 w1357_a_12_28) 12 30 w1357_a_12_30) 12 29 w1357_a_12_29) 12 31 w1357_a_12_31) 12 27 w1357_a_12_27) la) from hD).weaken (fun _ _ _ h => hFc _ h)
                              have xr1412_0 : 1 ≤ (n1413 : Int32).toInt := xr1412_0
                              obtain rfl : 0 = r1412 := hr1412.symm
                              refine lv_if_eq (tgt := 210) hx hb dX12_rule_190 (by decide) (fun c1415 => ?_) (fun c1415 => ?_)
                              · skip
                                refine lv_goto (tgt := 39) hx hb dX12_rule_210 (by decide) ?_
                                exact ih1358 x1357_2 n1371 n1413 n1414 n1372 n1373 w1357_a_12_26 w1357_a_12_28 w1357_a_12_30 w1357_a_12_29 w1357_a_12_31 w1357_a_12_27 ⟨by omega, by omega⟩ ⟨by omega, by omega⟩ ⟨by omega, by omega⟩ ⟨by omega, by omega⟩ ⟨by omega, by omega⟩ hw1357_a_12_26 hw1357_a_12_28 hw1357_a_12_30 hw1357_a_12_29 hw1357_a_12_31 hw1357_a_12_27 (show ∀ j : Nat, (j : Int) < 12 * ((iv 12 23) : Int32).toInt → w1357_a_12_26 j = (fa 12 26) j ∧ w1357_a_12_27 j = (fa 12 27) j ∧ w1357_a_12_28 j = (fa 12 28) j from hq1358_0) (show ((n1413 : Int32).toInt ≠ 0 ∨ ∀ j : Nat, 12 * ((iv 12 23) : Int32).toInt ≤ (j : Int) → (j : Int) < 12 * ((iv 12 23) : Int32).toInt + (x1357_2 : Int32).toInt → gd3 (w1357_a_12_26 j) (w1357_a_12_27 j) (w1357_a_12_28 j)) from Or.inl (by omega)) (by omega) _ _ ls hP hD hS (lv_sub hl [1, 2, 3] rfl)
                              · exact absurd rfl c1415
                            · have fc1411 := z_nle (by decide : (12 : Int32).toInt = 12) (rfl : (x1357_2).toInt = _) c1411
                              refine lv_iconst (v := 1) hx hb dX12_rule_177 (by decide) ?_
                              refine lv_goto (tgt := 182) hx hb dX12_rule_178 (by decide) ?_
                              refine lv_iconst (v := 5) hx hb dX12_rule_182 (by decide) ?_
                              refine lv_aload_n hx hb dX12_rule_183 rfl (lv_at hl 2 rfl) ?_
                              refine gM_12_37 hx hb ht hown hK hP m_1176 (v := n1372) rfl dX12_rule_184 ?_
                              refine vp_callSi (W.runV (As := [.int 1, .int 5, .int n1372]) (rest := []) ⟨hx, hb, hml, hown, ht⟩ (c_X12_want_1 l dC dI h g ca (u2 (u2 (u2 (u2 (u2 iv 12 34 n1371) 12 35 w1357_i_12_35) 12 36 w1357_i_12_36) 12 37 n1372) 12 38 n1373) lv (u2 (u2 (u2 (u2 (u2 (u2 fa 12 26 w1357_a_12_26) 12 28 w1357_a_12_28) 12 30 w1357_a_12_30) 12 29 w1357_a_12_29) 12 31 w1357_a_12_31) 12 27 w1357_a_12_27) la (IX_a (c := 12) (k := 27) (IX_a (c := 12) (k := 31) (IX_a (c := 12) (k := 29) (IX_a (c := 12) (k := 30) (IX_a (c := 12) (k := 28) (IX_a (c := 12) (k := 26) (IX_i (c := 12) (k := 38) (IX_i (c := 12) (k := 37) (IX_i (c := 12) (k := 36) (IX_i (c := 12) (k := 35) (IX_i (c := 12) (k := 34) hI (show inb (0, 200) n1371 from ⟨by omega, by omega⟩)) (show inb (0, 5) w1357_i_12_35 from ⟨by omega, by omega⟩)) (full_i _)) (show inb (0, 200) n1372 from ⟨by omega, by omega⟩)) (show inb (0, 200) n1373 from ⟨by omega, by omega⟩)) hw1357_a_12_26) hw1357_a_12_28) hw1357_a_12_30) hw1357_a_12_29) hw1357_a_12_31) hw1357_a_12_27) 5 n1372) (kV 3 ht m_1472 m_1474 m_50 m_89 m_1475 rfl rfl hd_X12_want_v ⟨Nat.le_of_ble_eq_true rfl, Nat.le_of_ble_eq_true rfl⟩) (vR hP hK (rM_12 hK hP)) rfl rfl hl.1 rfl (lv_room (Nat.le_of_ble_eq_true rfl)) dX12_rule_187 ⟨Nat.le_of_ble_eq_true rfl, Nat.le_of_ble_eq_true rfl⟩) (fun r1416 hr1416 => ?_)
                              rcases hr1416 with ⟨rfl, fr1416⟩ | ⟨rfl, fr1416⟩
                              · skip
                                have fr1416 : ((w1357_i_12_35 : Int32).toInt = 0) := fr1416
                                refine lv_if_eq (tgt := 210) hx hb dX12_rule_190 (by decide) (fun c1417 => ?_) (fun c1417 => ?_)
                                · exact absurd c1417 (by decide)
                                · skip
                                  refine lv_aload_n hx hb dX12_rule_193 rfl (lv_at hl 2 rfl) ?_
                                  refine lv_iload_n hx hb dX12_rule_194 rfl (lv_at hl 0 rfl) ?_
                                  refine lv_bipush (v := 12) hx hb dX12_rule_195 (by decide) ?_
                                  refine lv_aload_n hx hb dX12_rule_197 rfl (lv_at hl 2 rfl) ?_
                                  refine gM_12_23 hx hb ht hown hK hP m_1162 (v := (iv 12 23)) rfl dX12_rule_198 ?_
                                  refine lv_imul hx hb dX12_rule_201 ?_
                                  refine lv_topi (fun v1418 ev1418 => ?_)
                                  have tv1418 := z_mul ev1418 (by decide : (12 : Int32).toInt = 12) (rfl : ((iv 12 23)).toInt = _) (by omega) (by omega)
                                  refine lv_iload_n hx hb dX12_rule_202 rfl (lv_at hl 1 rfl) ?_
                                  refine lv_iadd hx hb dX12_rule_203 ?_
                                  refine lv_topi (fun v1419 ev1419 => ?_)
                                  have tv1419 := z_add ev1419 (rfl : (v1418).toInt = _) (rfl : (x1357_2).toInt = _) (by omega) (by omega)
                                  have hFc := free_all hD hS hA
                                  refine va_callv (va_runV (As := [.int 2, .int v1419]) (rest := []) ⟨hx, hb, hml, hown, ht⟩ (c_X12_readClause_2 l dC dI H.size h g ca (u2 (u2 (u2 (u2 (u2 iv 12 34 n1371) 12 35 w1357_i_12_35) 12 36 w1357_i_12_36) 12 37 n1372) 12 38 n1373) lv (u2 (u2 (u2 (u2 (u2 (u2 fa 12 26 w1357_a_12_26) 12 28 w1357_a_12_28) 12 30 w1357_a_12_30) 12 29 w1357_a_12_29) 12 31 w1357_a_12_31) 12 27 w1357_a_12_27) la (IX_a (c := 12) (k := 27) (IX_a (c := 12) (k := 31) (IX_a (c := 12) (k := 29) (IX_a (c := 12) (k := 30) (IX_a (c := 12) (k := 28) (IX_a (c := 12) (k := 26) (IX_i (c := 12) (k := 38) (IX_i (c := 12) (k := 37) (IX_i (c := 12) (k := 36) (IX_i (c := 12) (k := 35) (IX_i (c := 12) (k := 34) hI (show inb (0, 200) n1371 from ⟨by omega, by omega⟩)) (show inb (0, 5) w1357_i_12_35 from ⟨by omega, by omega⟩)) (full_i _)) (show inb (0, 200) n1372 from ⟨by omega, by omega⟩)) (show inb (0, 200) n1373 from ⟨by omega, by omega⟩)) hw1357_a_12_26) hw1357_a_12_28) hw1357_a_12_30) hw1357_a_12_29) hw1357_a_12_31) hw1357_a_12_27) v1419 ⟨by omega, by omega⟩) (kV 2 ht m_1476 m_1478 m_51 m_89 m_1479 rfl rfl hd_X12_readClause_v ⟨Nat.le_of_ble_eq_true rfl, Nat.le_of_ble_eq_true rfl⟩) (vW hP hK hD (rM_12 hK hP)) rfl rfl hl.1 rfl (lv_room (Nat.le_of_ble_eq_true rfl)) dX12_rule_204 ⟨Nat.le_of_ble_eq_true rfl, Nat.le_of_ble_eq_true rfl⟩) hS (fun q _ h => hFc q h) hFc (fun u t H1 locs ht9 hvm hr1420 hB hz1 hk1 hS => ?_)
                                  obtain ⟨n1421, n1422, n1423, n1424, n1425, n1426, n1427, n1428, n1429, n1430, hn1424, hn1426, hn1427, hn1429, hn1430, xr1420_0, xr1420_1, xr1420_2, rfl⟩ := hr1420
                                  have hn1421 : ∀ j, inb (bA 12 26 j) (n1421 j) := fun j => full_i _
                                  have hn1422 : ∀ j, inb (bA 12 28 j) (n1422 j) := fun j => full_i _
                                  have hn1423 : ∀ j, inb (bA 12 29 j) (n1423 j) := fun j => full_i _
                                  have hn1425 : ∀ j, inb (bA 12 31 j) (n1425 j) := fun j => full_i _
                                  have hn1426 : 0 ≤ n1426.toInt ∧ n1426.toInt ≤ 200 := hn1426
                                  have hn1427 : 0 ≤ n1427.toInt ∧ n1427.toInt ≤ 5 := hn1427
                                  have hn1429 : 0 ≤ n1429.toInt ∧ n1429.toInt ≤ 200 := hn1429
                                  have hn1430 : 0 ≤ n1430.toInt ∧ n1430.toInt ≤ 200 := hn1430
                                  obtain ⟨hP, hD⟩ := hB
                                  rw [ht9] at hP
                                  generalize H1 = H at hP hS ⊢
                                  have hP : va_P (dC, dI) classes (WM h g ca (u2 (u2 (u2 (u2 (u2 iv 12 34 n1426) 12 35 n1427) 12 36 n1428) 12 37 n1429) 12 38 n1430) lv (u2 (u2 (u2 (u2 (u2 (u2 fa 12 26 n1421) 12 28 n1422) 12 30 n1424) 12 29 n1423) 12 31 n1425) 12 27 w1357_a_12_27) la) H := hP
                                  have hD : va_D A (WM h g ca (u2 (u2 (u2 (u2 (u2 iv 12 34 n1426) 12 35 n1427) 12 36 n1428) 12 37 n1429) 12 38 n1430) lv (u2 (u2 (u2 (u2 (u2 (u2 fa 12 26 n1421) 12 28 n1422) 12 30 n1424) 12 29 n1423) 12 31 n1425) 12 27 w1357_a_12_27) la) := (show va_D _ (WM h g ca (u2 (u2 (u2 (u2 (u2 iv 12 34 n1426) 12 35 n1427) 12 36 n1428) 12 37 n1429) 12 38 n1430) lv (u2 (u2 (u2 (u2 (u2 (u2 fa 12 26 n1421) 12 28 n1422) 12 30 n1424) 12 29 n1423) 12 31 n1425) 12 27 w1357_a_12_27) la) from hD).weaken (fun _ _ _ h => hFc _ h)
                                  have xr1420_0 : (n1371 : Int32).toInt ≤ (n1426 : Int32).toInt := xr1420_0
                                  have xr1420_1 : ∀ j : Nat, j ≠ (v1419 : Int32).toNatClampNeg → n1421 j = w1357_a_12_26 j ∧ w1357_a_12_27 j = w1357_a_12_27 j ∧ n1422 j = w1357_a_12_28 j := xr1420_1
                                  have xr1420_2 : ((n1427 : Int32).toInt ≠ 0 ∨ gd3 (n1421 (v1419 : Int32).toNatClampNeg) (w1357_a_12_27 (v1419 : Int32).toNatClampNeg) (n1422 (v1419 : Int32).toNatClampNeg)) := xr1420_2
                                  obtain ⟨v1431, ev1431⟩ : ∃ y : Int32, y = x1357_2 + 1 := ⟨_, rfl⟩
                                  have tv1431 := z_add ev1431 rfl (by decide : (1 : Int32).toInt = 1) (by omega) (by omega)
                                  refine lv_iinc (v := v1431) (lv' := [(2, .int v1431), (3, .int 2), (0, .ref h), (1, .int a)]) hx hb dX12_rule_207 hl (k := 1) rfl (by rw [ev1431]; rfl) (by decide) rfl (fun ls hl => ?_)
                                  refine lv_goto (tgt := 39) hx hb dX12_rule_210 (by decide) ?_
                                  exact ih1358 v1431 n1426 n1427 n1428 n1429 n1430 n1421 n1422 n1424 n1423 n1425 w1357_a_12_27 ⟨by omega, by omega⟩ ⟨by omega, by omega⟩ ⟨by omega, by omega⟩ ⟨by omega, by omega⟩ ⟨by omega, by omega⟩ hn1421 hn1422 hn1424 hn1423 hn1425 hw1357_a_12_27 (show ∀ j : Nat, (j : Int) < 12 * ((iv 12 23) : Int32).toInt → n1421 j = (fa 12 26) j ∧ w1357_a_12_27 j = (fa 12 27) j ∧ n1422 j = (fa 12 28) j from (fun j h => have hj : j ≠ (v1419 : Int32).toNatClampNeg := (show j ≠ (v1419 : Int32).toInt.toNat from by omega); ⟨(xr1420_1 j hj).1.trans (hq1358_0 j h).1, (xr1420_1 j hj).2.1.trans (hq1358_0 j h).2.1, (xr1420_1 j hj).2.2.trans (hq1358_0 j h).2.2⟩)) (show ((n1427 : Int32).toInt ≠ 0 ∨ ∀ j : Nat, 12 * ((iv 12 23) : Int32).toInt ≤ (j : Int) → (j : Int) < 12 * ((iv 12 23) : Int32).toInt + (v1431 : Int32).toInt → gd3 (n1421 j) (w1357_a_12_27 j) (n1422 j)) from (by
                                        by_cases h0 : (n1427 : Int32).toInt = 0
                                        · refine Or.inr (fun j h1 h2 => ?_)
                                          by_cases hj : j = (v1419 : Int32).toNatClampNeg
                                          · rw [hj]; exact xr1420_2.resolve_left (by omega)
                                          · have q := xr1420_1 j hj
                                            rw [q.1, q.2.1, q.2.2]
                                            refine (hq1358_1.resolve_left (by omega)) j h1 ?_
                                            have hj2 : j ≠ (v1419 : Int32).toInt.toNat := hj
                                            omega
                                        · exact Or.inl h0)) (by omega) _ _ ls hP hD hS (lv_sub hl [0, 2, 3] rfl)
                              · skip
                                have fr1416 : ¬ ((w1357_i_12_35 : Int32).toInt = 0) := fr1416
                                exfalso; omega
                        · skip
                          have fr1409 : ¬ ((w1357_i_12_35 : Int32).toInt = 0) := fr1409
                          exfalso; omega
                  · have fc1377 := z_ne (rfl : (r1376).toInt = _) (by decide : (0 : Int32).toInt = 0) c1377
                    refine lv_iconst (v := 1) hx hb dX12_rule_96 (by decide) ?_
                    refine lv_goto (tgt := 148) hx hb dX12_rule_97 (by decide) ?_
                    refine lv_istore_n (lv' := [(3, .int 1), (2, .int x1357_2), (0, .ref h), (1, .int a)]) hx hb dX12_rule_148 rfl hl (by decide) rfl (fun ls hl => ?_)
                    refine lv_aload_n hx hb dX12_rule_149 rfl (lv_at hl 2 rfl) ?_
                    refine lv_iload_n hx hb dX12_rule_150 rfl (lv_at hl 0 rfl) ?_
                    refine lv_if_lt (tgt := 158) hx hb dX12_rule_151 (by decide) (fun c1432 => ?_) (fun c1432 => ?_)
                    · exact absurd c1432 (by decide)
                    · skip
                      refine lv_iconst (v := 1) hx hb dX12_rule_154 (by decide) ?_
                      refine lv_goto (tgt := 159) hx hb dX12_rule_155 (by decide) ?_
                      refine lv_iconst (v := 1) hx hb dX12_rule_159 (by decide) ?_
                      refine lv_aload_n hx hb dX12_rule_160 rfl (lv_at hl 2 rfl) ?_
                      refine gM_12_37 hx hb ht hown hK hP m_1176 (v := n1372) rfl dX12_rule_161 ?_
                      refine vp_callSi (W.runV (As := [.int 1, .int 1, .int n1372]) (rest := []) ⟨hx, hb, hml, hown, ht⟩ (c_X12_want_1 l dC dI h g ca (u2 (u2 (u2 (u2 (u2 iv 12 34 n1371) 12 35 w1357_i_12_35) 12 36 w1357_i_12_36) 12 37 n1372) 12 38 n1373) lv (u2 (u2 (u2 (u2 (u2 (u2 fa 12 26 w1357_a_12_26) 12 28 w1357_a_12_28) 12 30 w1357_a_12_30) 12 29 w1357_a_12_29) 12 31 w1357_a_12_31) 12 27 w1357_a_12_27) la (IX_a (c := 12) (k := 27) (IX_a (c := 12) (k := 31) (IX_a (c := 12) (k := 29) (IX_a (c := 12) (k := 30) (IX_a (c := 12) (k := 28) (IX_a (c := 12) (k := 26) (IX_i (c := 12) (k := 38) (IX_i (c := 12) (k := 37) (IX_i (c := 12) (k := 36) (IX_i (c := 12) (k := 35) (IX_i (c := 12) (k := 34) hI (show inb (0, 200) n1371 from ⟨by omega, by omega⟩)) (show inb (0, 5) w1357_i_12_35 from ⟨by omega, by omega⟩)) (full_i _)) (show inb (0, 200) n1372 from ⟨by omega, by omega⟩)) (show inb (0, 200) n1373 from ⟨by omega, by omega⟩)) hw1357_a_12_26) hw1357_a_12_28) hw1357_a_12_30) hw1357_a_12_29) hw1357_a_12_31) hw1357_a_12_27) 1 n1372) (kV 3 ht m_1472 m_1474 m_50 m_89 m_1475 rfl rfl hd_X12_want_v ⟨Nat.le_of_ble_eq_true rfl, Nat.le_of_ble_eq_true rfl⟩) (vR hP hK (rM_12 hK hP)) rfl rfl hl.1 rfl (lv_room (Nat.le_of_ble_eq_true rfl)) dX12_rule_164 ⟨Nat.le_of_ble_eq_true rfl, Nat.le_of_ble_eq_true rfl⟩) (fun r1433 hr1433 => ?_)
                      rcases hr1433 with ⟨rfl, fr1433⟩ | ⟨rfl, fr1433⟩
                      · skip
                        have fr1433 : ((w1357_i_12_35 : Int32).toInt = 0) := fr1433
                        refine lv_if_eq (tgt := 210) hx hb dX12_rule_167 (by decide) (fun c1434 => ?_) (fun c1434 => ?_)
                        · exact absurd c1434 (by decide)
                        · skip
                          refine lv_aload_n hx hb dX12_rule_170 rfl (lv_at hl 2 rfl) ?_
                          refine lv_iload_n hx hb dX12_rule_171 rfl (lv_at hl 1 rfl) ?_
                          refine lv_bipush (v := 12) hx hb dX12_rule_172 (by decide) ?_
                          refine lv_icmp_ge (tgt := 181) hx hb dX12_rule_174 (by decide) (fun c1435 => ?_) (fun c1435 => ?_)
                          · have fc1435 := z_le (by decide : (12 : Int32).toInt = 12) (rfl : (x1357_2).toInt = _) c1435
                            refine lv_iconst (v := 0) hx hb dX12_rule_181 (by decide) ?_
                            refine lv_iconst (v := 5) hx hb dX12_rule_182 (by decide) ?_
                            refine lv_aload_n hx hb dX12_rule_183 rfl (lv_at hl 2 rfl) ?_
                            refine gM_12_37 hx hb ht hown hK hP m_1176 (v := n1372) rfl dX12_rule_184 ?_
                            have hFc := free_all hD hS hA
                            refine va_calli (va_runV (As := [.int 0, .int 5, .int n1372]) (rest := []) ⟨hx, hb, hml, hown, ht⟩ (c_X12_want_0 l dC dI H.size h g ca (u2 (u2 (u2 (u2 (u2 iv 12 34 n1371) 12 35 w1357_i_12_35) 12 36 w1357_i_12_36) 12 37 n1372) 12 38 n1373) lv (u2 (u2 (u2 (u2 (u2 (u2 fa 12 26 w1357_a_12_26) 12 28 w1357_a_12_28) 12 30 w1357_a_12_30) 12 29 w1357_a_12_29) 12 31 w1357_a_12_31) 12 27 w1357_a_12_27) la (IX_a (c := 12) (k := 27) (IX_a (c := 12) (k := 31) (IX_a (c := 12) (k := 29) (IX_a (c := 12) (k := 30) (IX_a (c := 12) (k := 28) (IX_a (c := 12) (k := 26) (IX_i (c := 12) (k := 38) (IX_i (c := 12) (k := 37) (IX_i (c := 12) (k := 36) (IX_i (c := 12) (k := 35) (IX_i (c := 12) (k := 34) hI (show inb (0, 200) n1371 from ⟨by omega, by omega⟩)) (show inb (0, 5) w1357_i_12_35 from ⟨by omega, by omega⟩)) (full_i _)) (show inb (0, 200) n1372 from ⟨by omega, by omega⟩)) (show inb (0, 200) n1373 from ⟨by omega, by omega⟩)) hw1357_a_12_26) hw1357_a_12_28) hw1357_a_12_30) hw1357_a_12_29) hw1357_a_12_31) hw1357_a_12_27) 5 n1372 ⟨by decide, by decide⟩) (kV 3 ht m_1472 m_1474 m_50 m_89 m_1475 rfl rfl hd_X12_want_v ⟨Nat.le_of_ble_eq_true rfl, Nat.le_of_ble_eq_true rfl⟩) (vW hP hK hD (rM_12 hK hP)) rfl rfl hl.1 rfl (lv_room (Nat.le_of_ble_eq_true rfl)) dX12_rule_187 ⟨Nat.le_of_ble_eq_true rfl, Nat.le_of_ble_eq_true rfl⟩) hS (fun q _ h => hFc q h) hFc (fun r1436 u t H1 locs ht9 hvm hr1436 hB hz1 hk1 hS => ?_)
                            obtain ⟨n1437, n1438, hn1437, xr1436_0, hr1436, rfl⟩ := hr1436
                            have hn1437 : 0 ≤ n1437.toInt ∧ n1437.toInt ≤ 5 := hn1437
                            obtain ⟨hP, hD⟩ := hB
                            rw [ht9] at hP
                            generalize H1 = H at hP hS ⊢
                            have hP : va_P (dC, dI) classes (WM h g ca (u2 (u2 (u2 (u2 (u2 iv 12 34 n1371) 12 35 n1437) 12 36 n1438) 12 37 n1372) 12 38 n1373) lv (u2 (u2 (u2 (u2 (u2 (u2 fa 12 26 w1357_a_12_26) 12 28 w1357_a_12_28) 12 30 w1357_a_12_30) 12 29 w1357_a_12_29) 12 31 w1357_a_12_31) 12 27 w1357_a_12_27) la) H := hP
                            have hD : va_D A (WM h g ca (u2 (u2 (u2 (u2 (u2 iv 12 34 n1371) 12 35 n1437) 12 36 n1438) 12 37 n1372) 12 38 n1373) lv (u2 (u2 (u2 (u2 (u2 (u2 fa 12 26 w1357_a_12_26) 12 28 w1357_a_12_28) 12 30 w1357_a_12_30) 12 29 w1357_a_12_29) 12 31 w1357_a_12_31) 12 27 w1357_a_12_27) la) := (show va_D _ (WM h g ca (u2 (u2 (u2 (u2 (u2 iv 12 34 n1371) 12 35 n1437) 12 36 n1438) 12 37 n1372) 12 38 n1373) lv (u2 (u2 (u2 (u2 (u2 (u2 fa 12 26 w1357_a_12_26) 12 28 w1357_a_12_28) 12 30 w1357_a_12_30) 12 29 w1357_a_12_29) 12 31 w1357_a_12_31) 12 27 w1357_a_12_27) la) from hD).weaken (fun _ _ _ h => hFc _ h)
                            have xr1436_0 : 1 ≤ (n1437 : Int32).toInt := xr1436_0
                            obtain rfl : 0 = r1436 := hr1436.symm
                            refine lv_if_eq (tgt := 210) hx hb dX12_rule_190 (by decide) (fun c1439 => ?_) (fun c1439 => ?_)
                            · skip
                              refine lv_goto (tgt := 39) hx hb dX12_rule_210 (by decide) ?_
                              exact ih1358 x1357_2 n1371 n1437 n1438 n1372 n1373 w1357_a_12_26 w1357_a_12_28 w1357_a_12_30 w1357_a_12_29 w1357_a_12_31 w1357_a_12_27 ⟨by omega, by omega⟩ ⟨by omega, by omega⟩ ⟨by omega, by omega⟩ ⟨by omega, by omega⟩ ⟨by omega, by omega⟩ hw1357_a_12_26 hw1357_a_12_28 hw1357_a_12_30 hw1357_a_12_29 hw1357_a_12_31 hw1357_a_12_27 (show ∀ j : Nat, (j : Int) < 12 * ((iv 12 23) : Int32).toInt → w1357_a_12_26 j = (fa 12 26) j ∧ w1357_a_12_27 j = (fa 12 27) j ∧ w1357_a_12_28 j = (fa 12 28) j from hq1358_0) (show ((n1437 : Int32).toInt ≠ 0 ∨ ∀ j : Nat, 12 * ((iv 12 23) : Int32).toInt ≤ (j : Int) → (j : Int) < 12 * ((iv 12 23) : Int32).toInt + (x1357_2 : Int32).toInt → gd3 (w1357_a_12_26 j) (w1357_a_12_27 j) (w1357_a_12_28 j)) from Or.inl (by omega)) (by omega) _ _ ls hP hD hS (lv_sub hl [1, 2, 3] rfl)
                            · exact absurd rfl c1439
                          · have fc1435 := z_nle (by decide : (12 : Int32).toInt = 12) (rfl : (x1357_2).toInt = _) c1435
                            refine lv_iconst (v := 1) hx hb dX12_rule_177 (by decide) ?_
                            refine lv_goto (tgt := 182) hx hb dX12_rule_178 (by decide) ?_
                            refine lv_iconst (v := 5) hx hb dX12_rule_182 (by decide) ?_
                            refine lv_aload_n hx hb dX12_rule_183 rfl (lv_at hl 2 rfl) ?_
                            refine gM_12_37 hx hb ht hown hK hP m_1176 (v := n1372) rfl dX12_rule_184 ?_
                            refine vp_callSi (W.runV (As := [.int 1, .int 5, .int n1372]) (rest := []) ⟨hx, hb, hml, hown, ht⟩ (c_X12_want_1 l dC dI h g ca (u2 (u2 (u2 (u2 (u2 iv 12 34 n1371) 12 35 w1357_i_12_35) 12 36 w1357_i_12_36) 12 37 n1372) 12 38 n1373) lv (u2 (u2 (u2 (u2 (u2 (u2 fa 12 26 w1357_a_12_26) 12 28 w1357_a_12_28) 12 30 w1357_a_12_30) 12 29 w1357_a_12_29) 12 31 w1357_a_12_31) 12 27 w1357_a_12_27) la (IX_a (c := 12) (k := 27) (IX_a (c := 12) (k := 31) (IX_a (c := 12) (k := 29) (IX_a (c := 12) (k := 30) (IX_a (c := 12) (k := 28) (IX_a (c := 12) (k := 26) (IX_i (c := 12) (k := 38) (IX_i (c := 12) (k := 37) (IX_i (c := 12) (k := 36) (IX_i (c := 12) (k := 35) (IX_i (c := 12) (k := 34) hI (show inb (0, 200) n1371 from ⟨by omega, by omega⟩)) (show inb (0, 5) w1357_i_12_35 from ⟨by omega, by omega⟩)) (full_i _)) (show inb (0, 200) n1372 from ⟨by omega, by omega⟩)) (show inb (0, 200) n1373 from ⟨by omega, by omega⟩)) hw1357_a_12_26) hw1357_a_12_28) hw1357_a_12_30) hw1357_a_12_29) hw1357_a_12_31) hw1357_a_12_27) 5 n1372) (kV 3 ht m_1472 m_1474 m_50 m_89 m_1475 rfl rfl hd_X12_want_v ⟨Nat.le_of_ble_eq_true rfl, Nat.le_of_ble_eq_true rfl⟩) (vR hP hK (rM_12 hK hP)) rfl rfl hl.1 rfl (lv_room (Nat.le_of_ble_eq_true rfl)) dX12_rule_187 ⟨Nat.le_of_ble_eq_true rfl, Nat.le_of_ble_eq_true rfl⟩) (fun r1440 hr1440 => ?_)
                            rcases hr1440 with ⟨rfl, fr1440⟩ | ⟨rfl, fr1440⟩
                            · skip
                              have fr1440 : ((w1357_i_12_35 : Int32).toInt = 0) := fr1440
                              refine lv_if_eq (tgt := 210) hx hb dX12_rule_190 (by decide) (fun c1441 => ?_) (fun c1441 => ?_)
                              · exact absurd c1441 (by decide)
                              · skip
                                refine lv_aload_n hx hb dX12_rule_193 rfl (lv_at hl 2 rfl) ?_
                                refine lv_iload_n hx hb dX12_rule_194 rfl (lv_at hl 0 rfl) ?_
                                refine lv_bipush (v := 12) hx hb dX12_rule_195 (by decide) ?_
                                refine lv_aload_n hx hb dX12_rule_197 rfl (lv_at hl 2 rfl) ?_
                                refine gM_12_23 hx hb ht hown hK hP m_1162 (v := (iv 12 23)) rfl dX12_rule_198 ?_
                                refine lv_imul hx hb dX12_rule_201 ?_
                                refine lv_topi (fun v1442 ev1442 => ?_)
                                have tv1442 := z_mul ev1442 (by decide : (12 : Int32).toInt = 12) (rfl : ((iv 12 23)).toInt = _) (by omega) (by omega)
                                refine lv_iload_n hx hb dX12_rule_202 rfl (lv_at hl 1 rfl) ?_
                                refine lv_iadd hx hb dX12_rule_203 ?_
                                refine lv_topi (fun v1443 ev1443 => ?_)
                                have tv1443 := z_add ev1443 (rfl : (v1442).toInt = _) (rfl : (x1357_2).toInt = _) (by omega) (by omega)
                                have hFc := free_all hD hS hA
                                refine va_callv (va_runV (As := [.int 1, .int v1443]) (rest := []) ⟨hx, hb, hml, hown, ht⟩ (c_X12_readClause_1 l dC dI H.size h g ca (u2 (u2 (u2 (u2 (u2 iv 12 34 n1371) 12 35 w1357_i_12_35) 12 36 w1357_i_12_36) 12 37 n1372) 12 38 n1373) lv (u2 (u2 (u2 (u2 (u2 (u2 fa 12 26 w1357_a_12_26) 12 28 w1357_a_12_28) 12 30 w1357_a_12_30) 12 29 w1357_a_12_29) 12 31 w1357_a_12_31) 12 27 w1357_a_12_27) la (IX_a (c := 12) (k := 27) (IX_a (c := 12) (k := 31) (IX_a (c := 12) (k := 29) (IX_a (c := 12) (k := 30) (IX_a (c := 12) (k := 28) (IX_a (c := 12) (k := 26) (IX_i (c := 12) (k := 38) (IX_i (c := 12) (k := 37) (IX_i (c := 12) (k := 36) (IX_i (c := 12) (k := 35) (IX_i (c := 12) (k := 34) hI (show inb (0, 200) n1371 from ⟨by omega, by omega⟩)) (show inb (0, 5) w1357_i_12_35 from ⟨by omega, by omega⟩)) (full_i _)) (show inb (0, 200) n1372 from ⟨by omega, by omega⟩)) (show inb (0, 200) n1373 from ⟨by omega, by omega⟩)) hw1357_a_12_26) hw1357_a_12_28) hw1357_a_12_30) hw1357_a_12_29) hw1357_a_12_31) hw1357_a_12_27) v1443 ⟨by omega, by omega⟩) (kV 2 ht m_1476 m_1478 m_51 m_89 m_1479 rfl rfl hd_X12_readClause_v ⟨Nat.le_of_ble_eq_true rfl, Nat.le_of_ble_eq_true rfl⟩) (vW hP hK hD (rM_12 hK hP)) rfl rfl hl.1 rfl (lv_room (Nat.le_of_ble_eq_true rfl)) dX12_rule_204 ⟨Nat.le_of_ble_eq_true rfl, Nat.le_of_ble_eq_true rfl⟩) hS (fun q _ h => hFc q h) hFc (fun u t H1 locs ht9 hvm hr1444 hB hz1 hk1 hS => ?_)
                                obtain ⟨n1445, n1446, n1447, n1448, n1449, n1450, n1451, n1452, hn1447, hn1448, hn1449, hn1451, hn1452, xr1444_0, xr1444_1, xr1444_2, rfl⟩ := hr1444
                                have hn1445 : ∀ j, inb (bA 12 26 j) (n1445 j) := fun j => full_i _
                                have hn1446 : ∀ j, inb (bA 12 28 j) (n1446 j) := fun j => full_i _
                                have hn1448 : 0 ≤ n1448.toInt ∧ n1448.toInt ≤ 200 := hn1448
                                have hn1449 : 0 ≤ n1449.toInt ∧ n1449.toInt ≤ 5 := hn1449
                                have hn1451 : 0 ≤ n1451.toInt ∧ n1451.toInt ≤ 200 := hn1451
                                have hn1452 : 0 ≤ n1452.toInt ∧ n1452.toInt ≤ 200 := hn1452
                                obtain ⟨hP, hD⟩ := hB
                                rw [ht9] at hP
                                generalize H1 = H at hP hS ⊢
                                have hP : va_P (dC, dI) classes (WM h g ca (u2 (u2 (u2 (u2 (u2 iv 12 34 n1448) 12 35 n1449) 12 36 n1450) 12 37 n1451) 12 38 n1452) lv (u2 (u2 (u2 (u2 (u2 (u2 fa 12 26 n1445) 12 28 n1446) 12 30 n1447) 12 29 w1357_a_12_29) 12 31 w1357_a_12_31) 12 27 w1357_a_12_27) la) H := hP
                                have hD : va_D A (WM h g ca (u2 (u2 (u2 (u2 (u2 iv 12 34 n1448) 12 35 n1449) 12 36 n1450) 12 37 n1451) 12 38 n1452) lv (u2 (u2 (u2 (u2 (u2 (u2 fa 12 26 n1445) 12 28 n1446) 12 30 n1447) 12 29 w1357_a_12_29) 12 31 w1357_a_12_31) 12 27 w1357_a_12_27) la) := (show va_D _ (WM h g ca (u2 (u2 (u2 (u2 (u2 iv 12 34 n1448) 12 35 n1449) 12 36 n1450) 12 37 n1451) 12 38 n1452) lv (u2 (u2 (u2 (u2 (u2 (u2 fa 12 26 n1445) 12 28 n1446) 12 30 n1447) 12 29 w1357_a_12_29) 12 31 w1357_a_12_31) 12 27 w1357_a_12_27) la) from hD).weaken (fun _ _ _ h => hFc _ h)
                                have xr1444_0 : (n1371 : Int32).toInt ≤ (n1448 : Int32).toInt := xr1444_0
                                have xr1444_1 : ∀ j : Nat, j ≠ (v1443 : Int32).toNatClampNeg → n1445 j = w1357_a_12_26 j ∧ w1357_a_12_27 j = w1357_a_12_27 j ∧ n1446 j = w1357_a_12_28 j := xr1444_1
                                have xr1444_2 : ((n1449 : Int32).toInt ≠ 0 ∨ gd3 (n1445 (v1443 : Int32).toNatClampNeg) (w1357_a_12_27 (v1443 : Int32).toNatClampNeg) (n1446 (v1443 : Int32).toNatClampNeg)) := xr1444_2
                                obtain ⟨v1453, ev1453⟩ : ∃ y : Int32, y = x1357_2 + 1 := ⟨_, rfl⟩
                                have tv1453 := z_add ev1453 rfl (by decide : (1 : Int32).toInt = 1) (by omega) (by omega)
                                refine lv_iinc (v := v1453) (lv' := [(2, .int v1453), (3, .int 1), (0, .ref h), (1, .int a)]) hx hb dX12_rule_207 hl (k := 1) rfl (by rw [ev1453]; rfl) (by decide) rfl (fun ls hl => ?_)
                                refine lv_goto (tgt := 39) hx hb dX12_rule_210 (by decide) ?_
                                exact ih1358 v1453 n1448 n1449 n1450 n1451 n1452 n1445 n1446 n1447 w1357_a_12_29 w1357_a_12_31 w1357_a_12_27 ⟨by omega, by omega⟩ ⟨by omega, by omega⟩ ⟨by omega, by omega⟩ ⟨by omega, by omega⟩ ⟨by omega, by omega⟩ hn1445 hn1446 hn1447 hw1357_a_12_29 hw1357_a_12_31 hw1357_a_12_27 (show ∀ j : Nat, (j : Int) < 12 * ((iv 12 23) : Int32).toInt → n1445 j = (fa 12 26) j ∧ w1357_a_12_27 j = (fa 12 27) j ∧ n1446 j = (fa 12 28) j from (fun j h => have hj : j ≠ (v1443 : Int32).toNatClampNeg := (show j ≠ (v1443 : Int32).toInt.toNat from by omega); ⟨(xr1444_1 j hj).1.trans (hq1358_0 j h).1, (xr1444_1 j hj).2.1.trans (hq1358_0 j h).2.1, (xr1444_1 j hj).2.2.trans (hq1358_0 j h).2.2⟩)) (show ((n1449 : Int32).toInt ≠ 0 ∨ ∀ j : Nat, 12 * ((iv 12 23) : Int32).toInt ≤ (j : Int) → (j : Int) < 12 * ((iv 12 23) : Int32).toInt + (v1453 : Int32).toInt → gd3 (n1445 j) (w1357_a_12_27 j) (n1446 j)) from (by
                                      by_cases h0 : (n1449 : Int32).toInt = 0
                                      · refine Or.inr (fun j h1 h2 => ?_)
                                        by_cases hj : j = (v1443 : Int32).toNatClampNeg
                                        · rw [hj]; exact xr1444_2.resolve_left (by omega)
                                        · have q := xr1444_1 j hj
                                          rw [q.1, q.2.1, q.2.2]
                                          refine (hq1358_1.resolve_left (by omega)) j h1 ?_
                                          have hj2 : j ≠ (v1443 : Int32).toInt.toNat := hj
                                          omega
                                      · exact Or.inl h0)) (by omega) _ _ ls hP hD hS (lv_sub hl [0, 2, 3] rfl)
                            · skip
                              have fr1440 : ¬ ((w1357_i_12_35 : Int32).toInt = 0) := fr1440
                              exfalso; omega
                      · skip
                        have fr1433 : ¬ ((w1357_i_12_35 : Int32).toInt = 0) := fr1433
                        exfalso; omega
                · have fc1375 := z_ne (rfl : (r1374).toInt = _) (by decide : (0 : Int32).toInt = 0) c1375
                  refine lv_iconst (v := 0) hx hb dX12_rule_74 (by decide) ?_
                  refine lv_goto (tgt := 148) hx hb dX12_rule_75 (by decide) ?_
                  refine lv_istore_n (lv' := [(3, .int 0), (2, .int x1357_2), (0, .ref h), (1, .int a)]) hx hb dX12_rule_148 rfl hl (by decide) rfl (fun ls hl => ?_)
                  refine lv_aload_n hx hb dX12_rule_149 rfl (lv_at hl 2 rfl) ?_
                  refine lv_iload_n hx hb dX12_rule_150 rfl (lv_at hl 0 rfl) ?_
                  refine lv_if_lt (tgt := 158) hx hb dX12_rule_151 (by decide) (fun c1454 => ?_) (fun c1454 => ?_)
                  · exact absurd c1454 (by decide)
                  · skip
                    refine lv_iconst (v := 1) hx hb dX12_rule_154 (by decide) ?_
                    refine lv_goto (tgt := 159) hx hb dX12_rule_155 (by decide) ?_
                    refine lv_iconst (v := 1) hx hb dX12_rule_159 (by decide) ?_
                    refine lv_aload_n hx hb dX12_rule_160 rfl (lv_at hl 2 rfl) ?_
                    refine gM_12_37 hx hb ht hown hK hP m_1176 (v := n1372) rfl dX12_rule_161 ?_
                    refine vp_callSi (W.runV (As := [.int 1, .int 1, .int n1372]) (rest := []) ⟨hx, hb, hml, hown, ht⟩ (c_X12_want_1 l dC dI h g ca (u2 (u2 (u2 (u2 (u2 iv 12 34 n1371) 12 35 w1357_i_12_35) 12 36 w1357_i_12_36) 12 37 n1372) 12 38 n1373) lv (u2 (u2 (u2 (u2 (u2 (u2 fa 12 26 w1357_a_12_26) 12 28 w1357_a_12_28) 12 30 w1357_a_12_30) 12 29 w1357_a_12_29) 12 31 w1357_a_12_31) 12 27 w1357_a_12_27) la (IX_a (c := 12) (k := 27) (IX_a (c := 12) (k := 31) (IX_a (c := 12) (k := 29) (IX_a (c := 12) (k := 30) (IX_a (c := 12) (k := 28) (IX_a (c := 12) (k := 26) (IX_i (c := 12) (k := 38) (IX_i (c := 12) (k := 37) (IX_i (c := 12) (k := 36) (IX_i (c := 12) (k := 35) (IX_i (c := 12) (k := 34) hI (show inb (0, 200) n1371 from ⟨by omega, by omega⟩)) (show inb (0, 5) w1357_i_12_35 from ⟨by omega, by omega⟩)) (full_i _)) (show inb (0, 200) n1372 from ⟨by omega, by omega⟩)) (show inb (0, 200) n1373 from ⟨by omega, by omega⟩)) hw1357_a_12_26) hw1357_a_12_28) hw1357_a_12_30) hw1357_a_12_29) hw1357_a_12_31) hw1357_a_12_27) 1 n1372) (kV 3 ht m_1472 m_1474 m_50 m_89 m_1475 rfl rfl hd_X12_want_v ⟨Nat.le_of_ble_eq_true rfl, Nat.le_of_ble_eq_true rfl⟩) (vR hP hK (rM_12 hK hP)) rfl rfl hl.1 rfl (lv_room (Nat.le_of_ble_eq_true rfl)) dX12_rule_164 ⟨Nat.le_of_ble_eq_true rfl, Nat.le_of_ble_eq_true rfl⟩) (fun r1455 hr1455 => ?_)
                    rcases hr1455 with ⟨rfl, fr1455⟩ | ⟨rfl, fr1455⟩
                    · skip
                      have fr1455 : ((w1357_i_12_35 : Int32).toInt = 0) := fr1455
                      refine lv_if_eq (tgt := 210) hx hb dX12_rule_167 (by decide) (fun c1456 => ?_) (fun c1456 => ?_)
                      · exact absurd c1456 (by decide)
                      · skip
                        refine lv_aload_n hx hb dX12_rule_170 rfl (lv_at hl 2 rfl) ?_
                        refine lv_iload_n hx hb dX12_rule_171 rfl (lv_at hl 1 rfl) ?_
                        refine lv_bipush (v := 12) hx hb dX12_rule_172 (by decide) ?_
                        refine lv_icmp_ge (tgt := 181) hx hb dX12_rule_174 (by decide) (fun c1457 => ?_) (fun c1457 => ?_)
                        · have fc1457 := z_le (by decide : (12 : Int32).toInt = 12) (rfl : (x1357_2).toInt = _) c1457
                          refine lv_iconst (v := 0) hx hb dX12_rule_181 (by decide) ?_
                          refine lv_iconst (v := 5) hx hb dX12_rule_182 (by decide) ?_
                          refine lv_aload_n hx hb dX12_rule_183 rfl (lv_at hl 2 rfl) ?_
                          refine gM_12_37 hx hb ht hown hK hP m_1176 (v := n1372) rfl dX12_rule_184 ?_
                          have hFc := free_all hD hS hA
                          refine va_calli (va_runV (As := [.int 0, .int 5, .int n1372]) (rest := []) ⟨hx, hb, hml, hown, ht⟩ (c_X12_want_0 l dC dI H.size h g ca (u2 (u2 (u2 (u2 (u2 iv 12 34 n1371) 12 35 w1357_i_12_35) 12 36 w1357_i_12_36) 12 37 n1372) 12 38 n1373) lv (u2 (u2 (u2 (u2 (u2 (u2 fa 12 26 w1357_a_12_26) 12 28 w1357_a_12_28) 12 30 w1357_a_12_30) 12 29 w1357_a_12_29) 12 31 w1357_a_12_31) 12 27 w1357_a_12_27) la (IX_a (c := 12) (k := 27) (IX_a (c := 12) (k := 31) (IX_a (c := 12) (k := 29) (IX_a (c := 12) (k := 30) (IX_a (c := 12) (k := 28) (IX_a (c := 12) (k := 26) (IX_i (c := 12) (k := 38) (IX_i (c := 12) (k := 37) (IX_i (c := 12) (k := 36) (IX_i (c := 12) (k := 35) (IX_i (c := 12) (k := 34) hI (show inb (0, 200) n1371 from ⟨by omega, by omega⟩)) (show inb (0, 5) w1357_i_12_35 from ⟨by omega, by omega⟩)) (full_i _)) (show inb (0, 200) n1372 from ⟨by omega, by omega⟩)) (show inb (0, 200) n1373 from ⟨by omega, by omega⟩)) hw1357_a_12_26) hw1357_a_12_28) hw1357_a_12_30) hw1357_a_12_29) hw1357_a_12_31) hw1357_a_12_27) 5 n1372 ⟨by decide, by decide⟩) (kV 3 ht m_1472 m_1474 m_50 m_89 m_1475 rfl rfl hd_X12_want_v ⟨Nat.le_of_ble_eq_true rfl, Nat.le_of_ble_eq_true rfl⟩) (vW hP hK hD (rM_12 hK hP)) rfl rfl hl.1 rfl (lv_room (Nat.le_of_ble_eq_true rfl)) dX12_rule_187 ⟨Nat.le_of_ble_eq_true rfl, Nat.le_of_ble_eq_true rfl⟩) hS (fun q _ h => hFc q h) hFc (fun r1458 u t H1 locs ht9 hvm hr1458 hB hz1 hk1 hS => ?_)
                          obtain ⟨n1459, n1460, hn1459, xr1458_0, hr1458, rfl⟩ := hr1458
                          have hn1459 : 0 ≤ n1459.toInt ∧ n1459.toInt ≤ 5 := hn1459
                          obtain ⟨hP, hD⟩ := hB
                          rw [ht9] at hP
                          generalize H1 = H at hP hS ⊢
                          have hP : va_P (dC, dI) classes (WM h g ca (u2 (u2 (u2 (u2 (u2 iv 12 34 n1371) 12 35 n1459) 12 36 n1460) 12 37 n1372) 12 38 n1373) lv (u2 (u2 (u2 (u2 (u2 (u2 fa 12 26 w1357_a_12_26) 12 28 w1357_a_12_28) 12 30 w1357_a_12_30) 12 29 w1357_a_12_29) 12 31 w1357_a_12_31) 12 27 w1357_a_12_27) la) H := hP
                          have hD : va_D A (WM h g ca (u2 (u2 (u2 (u2 (u2 iv 12 34 n1371) 12 35 n1459) 12 36 n1460) 12 37 n1372) 12 38 n1373) lv (u2 (u2 (u2 (u2 (u2 (u2 fa 12 26 w1357_a_12_26) 12 28 w1357_a_12_28) 12 30 w1357_a_12_30) 12 29 w1357_a_12_29) 12 31 w1357_a_12_31) 12 27 w1357_a_12_27) la) := (show va_D _ (WM h g ca (u2 (u2 (u2 (u2 (u2 iv 12 34 n1371) 12 35 n1459) 12 36 n1460) 12 37 n1372) 12 38 n1373) lv (u2 (u2 (u2 (u2 (u2 (u2 fa 12 26 w1357_a_12_26) 12 28 w1357_a_12_28) 12 30 w1357_a_12_30) 12 29 w1357_a_12_29) 12 31 w1357_a_12_31) 12 27 w1357_a_12_27) la) from hD).weaken (fun _ _ _ h => hFc _ h)
                          have xr1458_0 : 1 ≤ (n1459 : Int32).toInt := xr1458_0
                          obtain rfl : 0 = r1458 := hr1458.symm
                          refine lv_if_eq (tgt := 210) hx hb dX12_rule_190 (by decide) (fun c1461 => ?_) (fun c1461 => ?_)
                          · skip
                            refine lv_goto (tgt := 39) hx hb dX12_rule_210 (by decide) ?_
                            exact ih1358 x1357_2 n1371 n1459 n1460 n1372 n1373 w1357_a_12_26 w1357_a_12_28 w1357_a_12_30 w1357_a_12_29 w1357_a_12_31 w1357_a_12_27 ⟨by omega, by omega⟩ ⟨by omega, by omega⟩ ⟨by omega, by omega⟩ ⟨by omega, by omega⟩ ⟨by omega, by omega⟩ hw1357_a_12_26 hw1357_a_12_28 hw1357_a_12_30 hw1357_a_12_29 hw1357_a_12_31 hw1357_a_12_27 (show ∀ j : Nat, (j : Int) < 12 * ((iv 12 23) : Int32).toInt → w1357_a_12_26 j = (fa 12 26) j ∧ w1357_a_12_27 j = (fa 12 27) j ∧ w1357_a_12_28 j = (fa 12 28) j from hq1358_0) (show ((n1459 : Int32).toInt ≠ 0 ∨ ∀ j : Nat, 12 * ((iv 12 23) : Int32).toInt ≤ (j : Int) → (j : Int) < 12 * ((iv 12 23) : Int32).toInt + (x1357_2 : Int32).toInt → gd3 (w1357_a_12_26 j) (w1357_a_12_27 j) (w1357_a_12_28 j)) from Or.inl (by omega)) (by omega) _ _ ls hP hD hS (lv_sub hl [1, 2, 3] rfl)
                          · exact absurd rfl c1461
                        · have fc1457 := z_nle (by decide : (12 : Int32).toInt = 12) (rfl : (x1357_2).toInt = _) c1457
                          refine lv_iconst (v := 1) hx hb dX12_rule_177 (by decide) ?_
                          refine lv_goto (tgt := 182) hx hb dX12_rule_178 (by decide) ?_
                          refine lv_iconst (v := 5) hx hb dX12_rule_182 (by decide) ?_
                          refine lv_aload_n hx hb dX12_rule_183 rfl (lv_at hl 2 rfl) ?_
                          refine gM_12_37 hx hb ht hown hK hP m_1176 (v := n1372) rfl dX12_rule_184 ?_
                          refine vp_callSi (W.runV (As := [.int 1, .int 5, .int n1372]) (rest := []) ⟨hx, hb, hml, hown, ht⟩ (c_X12_want_1 l dC dI h g ca (u2 (u2 (u2 (u2 (u2 iv 12 34 n1371) 12 35 w1357_i_12_35) 12 36 w1357_i_12_36) 12 37 n1372) 12 38 n1373) lv (u2 (u2 (u2 (u2 (u2 (u2 fa 12 26 w1357_a_12_26) 12 28 w1357_a_12_28) 12 30 w1357_a_12_30) 12 29 w1357_a_12_29) 12 31 w1357_a_12_31) 12 27 w1357_a_12_27) la (IX_a (c := 12) (k := 27) (IX_a (c := 12) (k := 31) (IX_a (c := 12) (k := 29) (IX_a (c := 12) (k := 30) (IX_a (c := 12) (k := 28) (IX_a (c := 12) (k := 26) (IX_i (c := 12) (k := 38) (IX_i (c := 12) (k := 37) (IX_i (c := 12) (k := 36) (IX_i (c := 12) (k := 35) (IX_i (c := 12) (k := 34) hI (show inb (0, 200) n1371 from ⟨by omega, by omega⟩)) (show inb (0, 5) w1357_i_12_35 from ⟨by omega, by omega⟩)) (full_i _)) (show inb (0, 200) n1372 from ⟨by omega, by omega⟩)) (show inb (0, 200) n1373 from ⟨by omega, by omega⟩)) hw1357_a_12_26) hw1357_a_12_28) hw1357_a_12_30) hw1357_a_12_29) hw1357_a_12_31) hw1357_a_12_27) 5 n1372) (kV 3 ht m_1472 m_1474 m_50 m_89 m_1475 rfl rfl hd_X12_want_v ⟨Nat.le_of_ble_eq_true rfl, Nat.le_of_ble_eq_true rfl⟩) (vR hP hK (rM_12 hK hP)) rfl rfl hl.1 rfl (lv_room (Nat.le_of_ble_eq_true rfl)) dX12_rule_187 ⟨Nat.le_of_ble_eq_true rfl, Nat.le_of_ble_eq_true rfl⟩) (fun r1462 hr1462 => ?_)
                          rcases hr1462 with ⟨rfl, fr1462⟩ | ⟨rfl, fr1462⟩
                          · skip
                            have fr1462 : ((w1357_i_12_35 : Int32).toInt = 0) := fr1462
                            refine lv_if_eq (tgt := 210) hx hb dX12_rule_190 (by decide) (fun c1463 => ?_) (fun c1463 => ?_)
                            · exact absurd c1463 (by decide)
                            · skip
                              refine lv_aload_n hx hb dX12_rule_193 rfl (lv_at hl 2 rfl) ?_
                              refine lv_iload_n hx hb dX12_rule_194 rfl (lv_at hl 0 rfl) ?_
                              refine lv_bipush (v := 12) hx hb dX12_rule_195 (by decide) ?_
                              refine lv_aload_n hx hb dX12_rule_197 rfl (lv_at hl 2 rfl) ?_
                              refine gM_12_23 hx hb ht hown hK hP m_1162 (v := (iv 12 23)) rfl dX12_rule_198 ?_
                              refine lv_imul hx hb dX12_rule_201 ?_
                              refine lv_topi (fun v1464 ev1464 => ?_)
                              have tv1464 := z_mul ev1464 (by decide : (12 : Int32).toInt = 12) (rfl : ((iv 12 23)).toInt = _) (by omega) (by omega)
                              refine lv_iload_n hx hb dX12_rule_202 rfl (lv_at hl 1 rfl) ?_
                              refine lv_iadd hx hb dX12_rule_203 ?_
                              refine lv_topi (fun v1465 ev1465 => ?_)
                              have tv1465 := z_add ev1465 (rfl : (v1464).toInt = _) (rfl : (x1357_2).toInt = _) (by omega) (by omega)
                              have hFc := free_all hD hS hA
                              refine va_callv (va_runV (As := [.int 0, .int v1465]) (rest := []) ⟨hx, hb, hml, hown, ht⟩ (c_X12_readClause_0 l dC dI H.size h g ca (u2 (u2 (u2 (u2 (u2 iv 12 34 n1371) 12 35 w1357_i_12_35) 12 36 w1357_i_12_36) 12 37 n1372) 12 38 n1373) lv (u2 (u2 (u2 (u2 (u2 (u2 fa 12 26 w1357_a_12_26) 12 28 w1357_a_12_28) 12 30 w1357_a_12_30) 12 29 w1357_a_12_29) 12 31 w1357_a_12_31) 12 27 w1357_a_12_27) la (IX_a (c := 12) (k := 27) (IX_a (c := 12) (k := 31) (IX_a (c := 12) (k := 29) (IX_a (c := 12) (k := 30) (IX_a (c := 12) (k := 28) (IX_a (c := 12) (k := 26) (IX_i (c := 12) (k := 38) (IX_i (c := 12) (k := 37) (IX_i (c := 12) (k := 36) (IX_i (c := 12) (k := 35) (IX_i (c := 12) (k := 34) hI (show inb (0, 200) n1371 from ⟨by omega, by omega⟩)) (show inb (0, 5) w1357_i_12_35 from ⟨by omega, by omega⟩)) (full_i _)) (show inb (0, 200) n1372 from ⟨by omega, by omega⟩)) (show inb (0, 200) n1373 from ⟨by omega, by omega⟩)) hw1357_a_12_26) hw1357_a_12_28) hw1357_a_12_30) hw1357_a_12_29) hw1357_a_12_31) hw1357_a_12_27) v1465 ⟨by omega, by omega⟩) (kV 2 ht m_1476 m_1478 m_51 m_89 m_1479 rfl rfl hd_X12_readClause_v ⟨Nat.le_of_ble_eq_true rfl, Nat.le_of_ble_eq_true rfl⟩) (vW hP hK hD (rM_12 hK hP)) rfl rfl hl.1 rfl (lv_room (Nat.le_of_ble_eq_true rfl)) dX12_rule_204 ⟨Nat.le_of_ble_eq_true rfl, Nat.le_of_ble_eq_true rfl⟩) hS (fun q _ h => hFc q h) hFc (fun u t H1 locs ht9 hvm hr1466 hB hz1 hk1 hS => ?_)
                              obtain ⟨n1467, n1468, n1469, n1470, n1471, n1472, n1473, n1474, n1475, hn1470, hn1471, hn1472, hn1474, hn1475, xr1466_0, xr1466_1, xr1466_2, rfl⟩ := hr1466
                              have hn1467 : ∀ j, inb (bA 12 26 j) (n1467 j) := fun j => full_i _
                              have hn1468 : ∀ j, inb (bA 12 27 j) (n1468 j) := fun j => full_i _
                              have hn1469 : ∀ j, inb (bA 12 28 j) (n1469 j) := fun j => full_i _
                              have hn1471 : 0 ≤ n1471.toInt ∧ n1471.toInt ≤ 200 := hn1471
                              have hn1472 : 0 ≤ n1472.toInt ∧ n1472.toInt ≤ 5 := hn1472
                              have hn1474 : 0 ≤ n1474.toInt ∧ n1474.toInt ≤ 200 := hn1474
                              have hn1475 : 0 ≤ n1475.toInt ∧ n1475.toInt ≤ 200 := hn1475
                              obtain ⟨hP, hD⟩ := hB
                              rw [ht9] at hP
                              generalize H1 = H at hP hS ⊢
                              have hP : va_P (dC, dI) classes (WM h g ca (u2 (u2 (u2 (u2 (u2 iv 12 34 n1471) 12 35 n1472) 12 36 n1473) 12 37 n1474) 12 38 n1475) lv (u2 (u2 (u2 (u2 (u2 (u2 fa 12 26 n1467) 12 28 n1469) 12 30 n1470) 12 29 w1357_a_12_29) 12 31 w1357_a_12_31) 12 27 n1468) la) H := hP
                              have hD : va_D A (WM h g ca (u2 (u2 (u2 (u2 (u2 iv 12 34 n1471) 12 35 n1472) 12 36 n1473) 12 37 n1474) 12 38 n1475) lv (u2 (u2 (u2 (u2 (u2 (u2 fa 12 26 n1467) 12 28 n1469) 12 30 n1470) 12 29 w1357_a_12_29) 12 31 w1357_a_12_31) 12 27 n1468) la) := (show va_D _ (WM h g ca (u2 (u2 (u2 (u2 (u2 iv 12 34 n1471) 12 35 n1472) 12 36 n1473) 12 37 n1474) 12 38 n1475) lv (u2 (u2 (u2 (u2 (u2 (u2 fa 12 26 n1467) 12 28 n1469) 12 30 n1470) 12 29 w1357_a_12_29) 12 31 w1357_a_12_31) 12 27 n1468) la) from hD).weaken (fun _ _ _ h => hFc _ h)
                              have xr1466_0 : (n1371 : Int32).toInt ≤ (n1471 : Int32).toInt := xr1466_0
                              have xr1466_1 : ∀ j : Nat, j ≠ (v1465 : Int32).toNatClampNeg → n1467 j = w1357_a_12_26 j ∧ n1468 j = w1357_a_12_27 j ∧ n1469 j = w1357_a_12_28 j := xr1466_1
                              have xr1466_2 : ((n1472 : Int32).toInt ≠ 0 ∨ gd3 (n1467 (v1465 : Int32).toNatClampNeg) (n1468 (v1465 : Int32).toNatClampNeg) (n1469 (v1465 : Int32).toNatClampNeg)) := xr1466_2
                              obtain ⟨v1476, ev1476⟩ : ∃ y : Int32, y = x1357_2 + 1 := ⟨_, rfl⟩
                              have tv1476 := z_add ev1476 rfl (by decide : (1 : Int32).toInt = 1) (by omega) (by omega)
                              refine lv_iinc (v := v1476) (lv' := [(2, .int v1476), (3, .int 0), (0, .ref h), (1, .int a)]) hx hb dX12_rule_207 hl (k := 1) rfl (by rw [ev1476]; rfl) (by decide) rfl (fun ls hl => ?_)
                              refine lv_goto (tgt := 39) hx hb dX12_rule_210 (by decide) ?_
                              exact ih1358 v1476 n1471 n1472 n1473 n1474 n1475 n1467 n1469 n1470 w1357_a_12_29 w1357_a_12_31 n1468 ⟨by omega, by omega⟩ ⟨by omega, by omega⟩ ⟨by omega, by omega⟩ ⟨by omega, by omega⟩ ⟨by omega, by omega⟩ hn1467 hn1469 hn1470 hw1357_a_12_29 hw1357_a_12_31 hn1468 (show ∀ j : Nat, (j : Int) < 12 * ((iv 12 23) : Int32).toInt → n1467 j = (fa 12 26) j ∧ n1468 j = (fa 12 27) j ∧ n1469 j = (fa 12 28) j from (fun j h => have hj : j ≠ (v1465 : Int32).toNatClampNeg := (show j ≠ (v1465 : Int32).toInt.toNat from by omega); ⟨(xr1466_1 j hj).1.trans (hq1358_0 j h).1, (xr1466_1 j hj).2.1.trans (hq1358_0 j h).2.1, (xr1466_1 j hj).2.2.trans (hq1358_0 j h).2.2⟩)) (show ((n1472 : Int32).toInt ≠ 0 ∨ ∀ j : Nat, 12 * ((iv 12 23) : Int32).toInt ≤ (j : Int) → (j : Int) < 12 * ((iv 12 23) : Int32).toInt + (v1476 : Int32).toInt → gd3 (n1467 j) (n1468 j) (n1469 j)) from (by
                                    by_cases h0 : (n1472 : Int32).toInt = 0
                                    · refine Or.inr (fun j h1 h2 => ?_)
                                      by_cases hj : j = (v1465 : Int32).toNatClampNeg
                                      · rw [hj]; exact xr1466_2.resolve_left (by omega)
                                      · have q := xr1466_1 j hj
                                        rw [q.1, q.2.1, q.2.2]
                                        refine (hq1358_1.resolve_left (by omega)) j h1 ?_
                                        have hj2 : j ≠ (v1465 : Int32).toInt.toNat := hj
                                        omega
                                    · exact Or.inl h0)) (by omega) _ _ ls hP hD hS (lv_sub hl [0, 2, 3] rfl)
                          · skip
                            have fr1462 : ¬ ((w1357_i_12_35 : Int32).toInt = 0) := fr1462
                            exfalso; omega
                    · skip
                      have fr1455 : ¬ ((w1357_i_12_35 : Int32).toInt = 0) := fr1455
                      exfalso; omega
        have : (0 : Int32).toInt = 0 := (by decide)
        have : ((-1) : Int32).toInt = (-1) := (by decide)
        have i_12_37 : 0 ≤ (iv 12 37).toInt ∧ (iv 12 37).toInt ≤ 200 := hI.1 12 37
        have i_12_38 : 0 ≤ (iv 12 38).toInt ∧ (iv 12 38).toInt ≤ 200 := hI.1 12 38
        exact lp1358 403 0 0 0 (-1) (iv 12 37) (iv 12 38) (fa 12 26) (fa 12 28) (fa 12 30) (fa 12 29) (fa 12 31) (fa 12 27) ⟨by decide, by decide⟩ ⟨by decide, by decide⟩ ⟨by decide, by decide⟩ ⟨by omega, by omega⟩ ⟨by omega, by omega⟩ (hI.2 12 26) (hI.2 12 28) (hI.2 12 30) (hI.2 12 29) (hI.2 12 31) (hI.2 12 27) (show ∀ j : Nat, (j : Int) < 12 * ((iv 12 23) : Int32).toInt → (fa 12 26) j = (fa 12 26) j ∧ (fa 12 27) j = (fa 12 27) j ∧ (fa 12 28) j = (fa 12 28) j from fun j h => ⟨rfl, rfl, rfl⟩) (show ((0 : Int32).toInt ≠ 0 ∨ ∀ j : Nat, 12 * ((iv 12 23) : Int32).toInt ≤ (j : Int) → (j : Int) < 12 * ((iv 12 23) : Int32).toInt + (0 : Int32).toInt → gd3 ((fa 12 26) j) ((fa 12 27) j) ((fa 12 28) j)) from Or.inr (fun j h1 h2 => by omega)) (show 402 - (0 : Int32).toInt - 201 * min 1 (0 : Int32).toInt < _ from by omega) _ _ ls hP hD hS (lv_sub hl [0, 1, 2] rfl)
      · have fc3 := z_eq (rfl : ((iv 12 23)).toInt = _) (by decide : (8 : Int32).toInt = 8) c3
        refine lv_ldc hx hb hown (ht _ m_1380) dX12_rule_19 ?_
        have hP9 : va_P (dC, dI) classes (WM h g ca (u2 (u2 (u2 (u2 (u2 (u2 (u2 iv 12 23 (iv 12 23)) 12 33 (iv 12 33)) 12 34 (iv 12 34)) 12 35 (iv 12 35)) 12 36 (iv 12 36)) 12 37 (iv 12 37)) 12 38 (iv 12 38)) lv (u2 (u2 (u2 (u2 (u2 (u2 (u2 (u2 fa 12 24 (fa 12 24)) 12 25 (fa 12 25)) 12 26 (fa 12 26)) 12 27 (fa 12 27)) 12 28 (fa 12 28)) 12 29 (fa 12 29)) 12 30 (fa 12 30)) 12 31 (fa 12 31)) la) s.heap := hP
        have hD9 : va_D A (WM h g ca (u2 (u2 (u2 (u2 (u2 (u2 (u2 iv 12 23 (iv 12 23)) 12 33 (iv 12 33)) 12 34 (iv 12 34)) 12 35 (iv 12 35)) 12 36 (iv 12 36)) 12 37 (iv 12 37)) 12 38 (iv 12 38)) lv (u2 (u2 (u2 (u2 (u2 (u2 (u2 (u2 fa 12 24 (fa 12 24)) 12 25 (fa 12 25)) 12 26 (fa 12 26)) 12 27 (fa 12 27)) 12 28 (fa 12 28)) 12 29 (fa 12 29)) 12 30 (fa 12 30)) 12 31 (fa 12 31)) la) := hD
        exact W.iret (v := (-100004)) hx hb hr (fun t ht9 hW => ⟨⟨(-100004), ((u2 (u2 (u2 (u2 (u2 (u2 (u2 iv 12 23 (iv 12 23)) 12 33 (iv 12 33)) 12 34 (iv 12 34)) 12 35 (iv 12 35)) 12 36 (iv 12 36)) 12 37 (iv 12 37)) 12 38 (iv 12 38)), lv, (u2 (u2 (u2 (u2 (u2 (u2 (u2 (u2 fa 12 24 (fa 12 24)) 12 25 (fa 12 25)) 12 26 (fa 12 26)) 12 27 (fa 12 27)) 12 28 (fa 12 28)) 12 29 (fa 12 29)) 12 30 (fa 12 30)) 12 31 (fa 12 31)), la), rfl, ⟨(fa 12 24), (fa 12 25), (fa 12 26), (fa 12 27), (fa 12 28), (fa 12 29), (fa 12 30), (fa 12 31), (iv 12 23), (iv 12 33), (iv 12 34), (iv 12 35), (iv 12 36), (iv 12 37), (iv 12 38), (hI.2 12 25), (hI.2 12 30), (hI.1 12 23), (hI.1 12 33), (hI.1 12 34), (hI.1 12 35), (hI.1 12 37), (hI.1 12 38), (show JCf ((iv 12 23) : Int32).toInt (fa 12 25) (fa 12 26) (fa 12 27) (fa 12 28) from hJC), ⟨by decide, by decide⟩, rfl⟩, by rw [ht9]; exact hP9, hD9⟩, hS.F ht9⟩) hS.2.2 dX12_rule_21
    · exact absurd c2 (by decide)
  · skip
    refine lv_if_ne (tgt := 10) hx hb dX12_rule_4 (by decide) (fun c1477 => ?_) (fun c1477 => ?_)
    · exact absurd rfl c1477
    · skip
      refine lv_ldc hx hb hown (ht _ m_1373) dX12_rule_7 ?_
      have i_12_23 : 0 ≤ (iv 12 23).toInt ∧ (iv 12 23).toInt ≤ 8 := hI.1 12 23
      have hP9 : va_P (dC, dI) classes (WM h g ca (u2 (u2 (u2 (u2 (u2 (u2 (u2 iv 12 23 (iv 12 23)) 12 33 (iv 12 33)) 12 34 (iv 12 34)) 12 35 (iv 12 35)) 12 36 (iv 12 36)) 12 37 (iv 12 37)) 12 38 (iv 12 38)) lv (u2 (u2 (u2 (u2 (u2 (u2 (u2 (u2 fa 12 24 (fa 12 24)) 12 25 (fa 12 25)) 12 26 (fa 12 26)) 12 27 (fa 12 27)) 12 28 (fa 12 28)) 12 29 (fa 12 29)) 12 30 (fa 12 30)) 12 31 (fa 12 31)) la) s.heap := hP
      have hD9 : va_D A (WM h g ca (u2 (u2 (u2 (u2 (u2 (u2 (u2 iv 12 23 (iv 12 23)) 12 33 (iv 12 33)) 12 34 (iv 12 34)) 12 35 (iv 12 35)) 12 36 (iv 12 36)) 12 37 (iv 12 37)) 12 38 (iv 12 38)) lv (u2 (u2 (u2 (u2 (u2 (u2 (u2 (u2 fa 12 24 (fa 12 24)) 12 25 (fa 12 25)) 12 26 (fa 12 26)) 12 27 (fa 12 27)) 12 28 (fa 12 28)) 12 29 (fa 12 29)) 12 30 (fa 12 30)) 12 31 (fa 12 31)) la) := hD
      exact W.iret (v := (-100002)) hx hb hr (fun t ht9 hW => ⟨⟨(-100002), ((u2 (u2 (u2 (u2 (u2 (u2 (u2 iv 12 23 (iv 12 23)) 12 33 (iv 12 33)) 12 34 (iv 12 34)) 12 35 (iv 12 35)) 12 36 (iv 12 36)) 12 37 (iv 12 37)) 12 38 (iv 12 38)), lv, (u2 (u2 (u2 (u2 (u2 (u2 (u2 (u2 fa 12 24 (fa 12 24)) 12 25 (fa 12 25)) 12 26 (fa 12 26)) 12 27 (fa 12 27)) 12 28 (fa 12 28)) 12 29 (fa 12 29)) 12 30 (fa 12 30)) 12 31 (fa 12 31)), la), rfl, ⟨(fa 12 24), (fa 12 25), (fa 12 26), (fa 12 27), (fa 12 28), (fa 12 29), (fa 12 30), (fa 12 31), (iv 12 23), (iv 12 33), (iv 12 34), (iv 12 35), (iv 12 36), (iv 12 37), (iv 12 38), (hI.2 12 25), (hI.2 12 30), (hI.1 12 23), (hI.1 12 33), (hI.1 12 34), (hI.1 12 35), (hI.1 12 37), (hI.1 12 38), (show JCf ((iv 12 23) : Int32).toInt (fa 12 25) (fa 12 26) (fa 12 27) (fa 12 28) from hJC), ⟨by decide, by decide⟩, rfl⟩, by rw [ht9]; exact hP9, hD9⟩, hS.F ht9⟩) hS.2.2 dX12_rule_9
