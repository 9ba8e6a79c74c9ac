/-! ===== n6 ===== -/
theorem m_1442 : Cond.methodLink RX12 241 yX12_gcd ∈ tb := mb_6_3 _ (List.mem_of_getElem? (i := 0) rfl)
theorem m_1443 : Cond.static yX12_gcd ∈ tb := mb_6_3 _ (List.mem_of_getElem? (i := 1) rfl)
theorem m_1444 : Cond.code yX12_gcd cX12_gcd 10 (some .long) ∈ tb := mb_6_3 _ (List.mem_of_getElem? (i := 2) rfl)
theorem hd_X12_gcd_v : yX12_gcd.cls = RX12 ∧ yX12_gcd.cls ≠ "java/lang/invoke/MethodHandle" ∧ yX12_gcd.cls ≠ "java/lang/invoke/VarHandle" ∧ (parseMethodDescriptor yX12_gcd.desc).map (fun d => d.parameters.length) = some 2 := by decide +kernel
set_option maxRecDepth 100000 in
theorem dvX12_cheat_0 : ([(0, .aload_n 0, 1), (1, .iload_n 1, 1), (2, .invokevirtual 183, 3), (5, .ifCond .eq 6, 3), (8, .ldc 187, 2), (10, .ireturn, 1), (11, .iload_n 2, 1), (12, .i2l, 1), (13, .lconst 0, 1), (14, .ldc2_w 176, 3), (17, .invokestatic 167, 3), (20, .ifCond .eq 28, 3), (23, .iload_n 3, 1), (24, .i2l, 1), (25, .lconst 0, 1), (26, .ldc2_w 176, 3), (29, .invokestatic 167, 3), (32, .ifCond .eq 16, 3), (35, .iload 4, 2), (37, .i2l, 1), (38, .lconst 0, 1), (39, .ldc2_w 176, 3), (42, .invokestatic 167, 3), (45, .ifCond .ne 6, 3)] : List (Nat × Instr × Nat)).all (fun q => decide (decode cX12_cheat q.1 = .ok (q.2.1, q.2.2))) = true := by decide +kernel
theorem dX12_cheat_0 : decode cX12_cheat 0 = .ok (.aload_n 0, 1) := all_at dvX12_cheat_0 0 rfl
theorem dX12_cheat_1 : decode cX12_cheat 1 = .ok (.iload_n 1, 1) := all_at dvX12_cheat_0 1 rfl
theorem dX12_cheat_2 : decode cX12_cheat 2 = .ok (.invokevirtual 183, 3) := all_at dvX12_cheat_0 2 rfl
theorem dX12_cheat_5 : decode cX12_cheat 5 = .ok (.ifCond .eq 6, 3) := all_at dvX12_cheat_0 3 rfl
theorem dX12_cheat_8 : decode cX12_cheat 8 = .ok (.ldc 187, 2) := all_at dvX12_cheat_0 4 rfl
theorem dX12_cheat_10 : decode cX12_cheat 10 = .ok (.ireturn, 1) := all_at dvX12_cheat_0 5 rfl
theorem dX12_cheat_11 : decode cX12_cheat 11 = .ok (.iload_n 2, 1) := all_at dvX12_cheat_0 6 rfl
theorem dX12_cheat_12 : decode cX12_cheat 12 = .ok (.i2l, 1) := all_at dvX12_cheat_0 7 rfl
theorem dX12_cheat_13 : decode cX12_cheat 13 = .ok (.lconst 0, 1) := all_at dvX12_cheat_0 8 rfl
theorem dX12_cheat_14 : decode cX12_cheat 14 = .ok (.ldc2_w 176, 3) := all_at dvX12_cheat_0 9 rfl
theorem dX12_cheat_17 : decode cX12_cheat 17 = .ok (.invokestatic 167, 3) := all_at dvX12_cheat_0 10 rfl
theorem dX12_cheat_20 : decode cX12_cheat 20 = .ok (.ifCond .eq 28, 3) := all_at dvX12_cheat_0 11 rfl
theorem dX12_cheat_23 : decode cX12_cheat 23 = .ok (.iload_n 3, 1) := all_at dvX12_cheat_0 12 rfl
theorem dX12_cheat_24 : decode cX12_cheat 24 = .ok (.i2l, 1) := all_at dvX12_cheat_0 13 rfl
theorem dX12_cheat_25 : decode cX12_cheat 25 = .ok (.lconst 0, 1) := all_at dvX12_cheat_0 14 rfl
theorem dX12_cheat_26 : decode cX12_cheat 26 = .ok (.ldc2_w 176, 3) := all_at dvX12_cheat_0 15 rfl
theorem dX12_cheat_29 : decode cX12_cheat 29 = .ok (.invokestatic 167, 3) := all_at dvX12_cheat_0 16 rfl
theorem dX12_cheat_32 : decode cX12_cheat 32 = .ok (.ifCond .eq 16, 3) := all_at dvX12_cheat_0 17 rfl
theorem dX12_cheat_35 : decode cX12_cheat 35 = .ok (.iload 4, 2) := all_at dvX12_cheat_0 18 rfl
theorem dX12_cheat_37 : decode cX12_cheat 37 = .ok (.i2l, 1) := all_at dvX12_cheat_0 19 rfl
theorem dX12_cheat_38 : decode cX12_cheat 38 = .ok (.lconst 0, 1) := all_at dvX12_cheat_0 20 rfl
theorem dX12_cheat_39 : decode cX12_cheat 39 = .ok (.ldc2_w 176, 3) := all_at dvX12_cheat_0 21 rfl
theorem dX12_cheat_42 : decode cX12_cheat 42 = .ok (.invokestatic 167, 3) := all_at dvX12_cheat_0 22 rfl
theorem dX12_cheat_45 : decode cX12_cheat 45 = .ok (.ifCond .ne 6, 3) := all_at dvX12_cheat_0 23 rfl
set_option maxRecDepth 100000 in
theorem dvX12_cheat_48 : ([(48, .ldc 178, 2), (50, .ireturn, 1), (51, .aload_n 0, 1), (52, .iload_n 1, 1), (53, .iconst 0, 1), (54, .aload_n 0, 1), (55, .getfield 171, 3), (58, .invokevirtual 237, 3), (61, .istore 5, 2), (63, .iload 5, 2), (65, .ifCond .ne 7, 3), (68, .iconst 0, 1), (69, .goto 22, 3), (72, .ldc2_w 245, 3), (75, .aload_n 0, 1), (76, .getfield 227, 3), (79, .aload_n 0, 1), (80, .getfield 223, 3), (83, .lsub, 1), (84, .lmul, 1), (85, .aload_n 0, 1), (86, .getfield 227, 3), (89, .ldiv, 1), (90, .l2i, 1)] : List (Nat × Instr × Nat)).all (fun q => decide (decode cX12_cheat q.1 = .ok (q.2.1, q.2.2))) = true := by decide +kernel
theorem dX12_cheat_48 : decode cX12_cheat 48 = .ok (.ldc 178, 2) := all_at dvX12_cheat_48 0 rfl
theorem dX12_cheat_50 : decode cX12_cheat 50 = .ok (.ireturn, 1) := all_at dvX12_cheat_48 1 rfl
theorem dX12_cheat_51 : decode cX12_cheat 51 = .ok (.aload_n 0, 1) := all_at dvX12_cheat_48 2 rfl
theorem dX12_cheat_52 : decode cX12_cheat 52 = .ok (.iload_n 1, 1) := all_at dvX12_cheat_48 3 rfl
theorem dX12_cheat_53 : decode cX12_cheat 53 = .ok (.iconst 0, 1) := all_at dvX12_cheat_48 4 rfl
theorem dX12_cheat_54 : decode cX12_cheat 54 = .ok (.aload_n 0, 1) := all_at dvX12_cheat_48 5 rfl
theorem dX12_cheat_55 : decode cX12_cheat 55 = .ok (.getfield 171, 3) := all_at dvX12_cheat_48 6 rfl
theorem dX12_cheat_58 : decode cX12_cheat 58 = .ok (.invokevirtual 237, 3) := all_at dvX12_cheat_48 7 rfl
theorem dX12_cheat_61 : decode cX12_cheat 61 = .ok (.istore 5, 2) := all_at dvX12_cheat_48 8 rfl
theorem dX12_cheat_63 : decode cX12_cheat 63 = .ok (.iload 5, 2) := all_at dvX12_cheat_48 9 rfl
theorem dX12_cheat_65 : decode cX12_cheat 65 = .ok (.ifCond .ne 7, 3) := all_at dvX12_cheat_48 10 rfl
theorem dX12_cheat_68 : decode cX12_cheat 68 = .ok (.iconst 0, 1) := all_at dvX12_cheat_48 11 rfl
theorem dX12_cheat_69 : decode cX12_cheat 69 = .ok (.goto 22, 3) := all_at dvX12_cheat_48 12 rfl
theorem dX12_cheat_72 : decode cX12_cheat 72 = .ok (.ldc2_w 245, 3) := all_at dvX12_cheat_48 13 rfl
theorem dX12_cheat_75 : decode cX12_cheat 75 = .ok (.aload_n 0, 1) := all_at dvX12_cheat_48 14 rfl
theorem dX12_cheat_76 : decode cX12_cheat 76 = .ok (.getfield 227, 3) := all_at dvX12_cheat_48 15 rfl
theorem dX12_cheat_79 : decode cX12_cheat 79 = .ok (.aload_n 0, 1) := all_at dvX12_cheat_48 16 rfl
theorem dX12_cheat_80 : decode cX12_cheat 80 = .ok (.getfield 223, 3) := all_at dvX12_cheat_48 17 rfl
theorem dX12_cheat_83 : decode cX12_cheat 83 = .ok (.lsub, 1) := all_at dvX12_cheat_48 18 rfl
theorem dX12_cheat_84 : decode cX12_cheat 84 = .ok (.lmul, 1) := all_at dvX12_cheat_48 19 rfl
theorem dX12_cheat_85 : decode cX12_cheat 85 = .ok (.aload_n 0, 1) := all_at dvX12_cheat_48 20 rfl
theorem dX12_cheat_86 : decode cX12_cheat 86 = .ok (.getfield 227, 3) := all_at dvX12_cheat_48 21 rfl
theorem dX12_cheat_89 : decode cX12_cheat 89 = .ok (.ldiv, 1) := all_at dvX12_cheat_48 22 rfl
theorem dX12_cheat_90 : decode cX12_cheat 90 = .ok (.l2i, 1) := all_at dvX12_cheat_48 23 rfl
set_option maxRecDepth 100000 in
theorem dvX12_cheat_91 : ([(91, .istore 6, 2), (93, .aload_n 0, 1), (94, .getfield 121, 3), (97, .iload_n 1, 1), (98, .iaload, 1), (99, .iload_n 2, 1), (100, .if_icmp .le 7, 3), (103, .iconst 1, 1), (104, .goto 4, 3), (107, .iconst 0, 1), (108, .invokestatic 203, 3), (111, .iconst 2, 1), (112, .aload_n 0, 1), (113, .getfield 124, 3), (116, .iload_n 1, 1), (117, .iaload, 1), (118, .iload_n 3, 1), (119, .if_icmp .le 7, 3), (122, .iconst 1, 1), (123, .goto 4, 3), (126, .iconst 0, 1), (127, .invokestatic 203, 3), (130, .imul, 1), (131, .iadd, 1)] : List (Nat × Instr × Nat)).all (fun q => decide (decode cX12_cheat q.1 = .ok (q.2.1, q.2.2))) = true := by decide +kernel
theorem dX12_cheat_91 : decode cX12_cheat 91 = .ok (.istore 6, 2) := all_at dvX12_cheat_91 0 rfl
theorem dX12_cheat_93 : decode cX12_cheat 93 = .ok (.aload_n 0, 1) := all_at dvX12_cheat_91 1 rfl
theorem dX12_cheat_94 : decode cX12_cheat 94 = .ok (.getfield 121, 3) := all_at dvX12_cheat_91 2 rfl
theorem dX12_cheat_97 : decode cX12_cheat 97 = .ok (.iload_n 1, 1) := all_at dvX12_cheat_91 3 rfl
theorem dX12_cheat_98 : decode cX12_cheat 98 = .ok (.iaload, 1) := all_at dvX12_cheat_91 4 rfl
theorem dX12_cheat_99 : decode cX12_cheat 99 = .ok (.iload_n 2, 1) := all_at dvX12_cheat_91 5 rfl
theorem dX12_cheat_100 : decode cX12_cheat 100 = .ok (.if_icmp .le 7, 3) := all_at dvX12_cheat_91 6 rfl
theorem dX12_cheat_103 : decode cX12_cheat 103 = .ok (.iconst 1, 1) := all_at dvX12_cheat_91 7 rfl
theorem dX12_cheat_104 : decode cX12_cheat 104 = .ok (.goto 4, 3) := all_at dvX12_cheat_91 8 rfl
theorem dX12_cheat_107 : decode cX12_cheat 107 = .ok (.iconst 0, 1) := all_at dvX12_cheat_91 9 rfl
theorem dX12_cheat_108 : decode cX12_cheat 108 = .ok (.invokestatic 203, 3) := all_at dvX12_cheat_91 10 rfl
theorem dX12_cheat_111 : decode cX12_cheat 111 = .ok (.iconst 2, 1) := all_at dvX12_cheat_91 11 rfl
theorem dX12_cheat_112 : decode cX12_cheat 112 = .ok (.aload_n 0, 1) := all_at dvX12_cheat_91 12 rfl
theorem dX12_cheat_113 : decode cX12_cheat 113 = .ok (.getfield 124, 3) := all_at dvX12_cheat_91 13 rfl
theorem dX12_cheat_116 : decode cX12_cheat 116 = .ok (.iload_n 1, 1) := all_at dvX12_cheat_91 14 rfl
theorem dX12_cheat_117 : decode cX12_cheat 117 = .ok (.iaload, 1) := all_at dvX12_cheat_91 15 rfl
theorem dX12_cheat_118 : decode cX12_cheat 118 = .ok (.iload_n 3, 1) := all_at dvX12_cheat_91 16 rfl
theorem dX12_cheat_119 : decode cX12_cheat 119 = .ok (.if_icmp .le 7, 3) := all_at dvX12_cheat_91 17 rfl
theorem dX12_cheat_122 : decode cX12_cheat 122 = .ok (.iconst 1, 1) := all_at dvX12_cheat_91 18 rfl
theorem dX12_cheat_123 : decode cX12_cheat 123 = .ok (.goto 4, 3) := all_at dvX12_cheat_91 19 rfl
theorem dX12_cheat_126 : decode cX12_cheat 126 = .ok (.iconst 0, 1) := all_at dvX12_cheat_91 20 rfl
theorem dX12_cheat_127 : decode cX12_cheat 127 = .ok (.invokestatic 203, 3) := all_at dvX12_cheat_91 21 rfl
theorem dX12_cheat_130 : decode cX12_cheat 130 = .ok (.imul, 1) := all_at dvX12_cheat_91 22 rfl
theorem dX12_cheat_131 : decode cX12_cheat 131 = .ok (.iadd, 1) := all_at dvX12_cheat_91 23 rfl
set_option maxRecDepth 100000 in
theorem dvX12_cheat_132 : ([(132, .iconst 4, 1), (133, .aload_n 0, 1), (134, .getfield 121, 3), (137, .iload_n 1, 1), (138, .iaload, 1), (139, .aload_n 0, 1), (140, .getfield 124, 3), (143, .iload_n 1, 1), (144, .iaload, 1), (145, .iadd, 1), (146, .iload 6, 2), (148, .iadd, 1), (149, .iload 4, 2), (151, .if_icmp .le 7, 3), (154, .iconst 1, 1), (155, .goto 4, 3), (158, .iconst 0, 1), (159, .invokestatic 203, 3), (162, .imul, 1), (163, .iadd, 1), (164, .ireturn, 1)] : List (Nat × Instr × Nat)).all (fun q => decide (decode cX12_cheat q.1 = .ok (q.2.1, q.2.2))) = true := by decide +kernel
theorem dX12_cheat_132 : decode cX12_cheat 132 = .ok (.iconst 4, 1) := all_at dvX12_cheat_132 0 rfl
theorem dX12_cheat_133 : decode cX12_cheat 133 = .ok (.aload_n 0, 1) := all_at dvX12_cheat_132 1 rfl
theorem dX12_cheat_134 : decode cX12_cheat 134 = .ok (.getfield 121, 3) := all_at dvX12_cheat_132 2 rfl
theorem dX12_cheat_137 : decode cX12_cheat 137 = .ok (.iload_n 1, 1) := all_at dvX12_cheat_132 3 rfl
theorem dX12_cheat_138 : decode cX12_cheat 138 = .ok (.iaload, 1) := all_at dvX12_cheat_132 4 rfl
theorem dX12_cheat_139 : decode cX12_cheat 139 = .ok (.aload_n 0, 1) := all_at dvX12_cheat_132 5 rfl
theorem dX12_cheat_140 : decode cX12_cheat 140 = .ok (.getfield 124, 3) := all_at dvX12_cheat_132 6 rfl
theorem dX12_cheat_143 : decode cX12_cheat 143 = .ok (.iload_n 1, 1) := all_at dvX12_cheat_132 7 rfl
theorem dX12_cheat_144 : decode cX12_cheat 144 = .ok (.iaload, 1) := all_at dvX12_cheat_132 8 rfl
theorem dX12_cheat_145 : decode cX12_cheat 145 = .ok (.iadd, 1) := all_at dvX12_cheat_132 9 rfl
theorem dX12_cheat_146 : decode cX12_cheat 146 = .ok (.iload 6, 2) := all_at dvX12_cheat_132 10 rfl
theorem dX12_cheat_148 : decode cX12_cheat 148 = .ok (.iadd, 1) := all_at dvX12_cheat_132 11 rfl
theorem dX12_cheat_149 : decode cX12_cheat 149 = .ok (.iload 4, 2) := all_at dvX12_cheat_132 12 rfl
theorem dX12_cheat_151 : decode cX12_cheat 151 = .ok (.if_icmp .le 7, 3) := all_at dvX12_cheat_132 13 rfl
theorem dX12_cheat_154 : decode cX12_cheat 154 = .ok (.iconst 1, 1) := all_at dvX12_cheat_132 14 rfl
theorem dX12_cheat_155 : decode cX12_cheat 155 = .ok (.goto 4, 3) := all_at dvX12_cheat_132 15 rfl
theorem dX12_cheat_158 : decode cX12_cheat 158 = .ok (.iconst 0, 1) := all_at dvX12_cheat_132 16 rfl
theorem dX12_cheat_159 : decode cX12_cheat 159 = .ok (.invokestatic 203, 3) := all_at dvX12_cheat_132 17 rfl
theorem dX12_cheat_162 : decode cX12_cheat 162 = .ok (.imul, 1) := all_at dvX12_cheat_132 18 rfl
theorem dX12_cheat_163 : decode cX12_cheat 163 = .ok (.iadd, 1) := all_at dvX12_cheat_132 19 rfl
theorem dX12_cheat_164 : decode cX12_cheat 164 = .ok (.ireturn, 1) := all_at dvX12_cheat_132 20 rfl
set_option maxRecDepth 100000 in
theorem dvX12_ratio_0 : ([(0, .aload_n 0, 1), (1, .iload_n 1, 1), (2, .invokevirtual 183, 3), (5, .ifCond .eq 6, 3), (8, .ldc 187, 2), (10, .ireturn, 1), (11, .iload_n 2, 1), (12, .i2l, 1), (13, .lconst 0, 1), (14, .ldc2_w 188, 3), (17, .invokestatic 167, 3), (20, .ifCond .eq 15, 3), (23, .iload_n 3, 1), (24, .i2l, 1), (25, .lconst 0, 1), (26, .ldc2_w 188, 3), (29, .invokestatic 167, 3), (32, .ifCond .ne 6, 3), (35, .ldc 178, 2), (37, .ireturn, 1), (38, .aload_n 0, 1), (39, .iload_n 1, 1), (40, .iload_n 2, 1), (41, .aload_n 0, 1)] : List (Nat × Instr × Nat)).all (fun q => decide (decode cX12_ratio q.1 = .ok (q.2.1, q.2.2))) = true := by decide +kernel
theorem dX12_ratio_0 : decode cX12_ratio 0 = .ok (.aload_n 0, 1) := all_at dvX12_ratio_0 0 rfl
theorem dX12_ratio_1 : decode cX12_ratio 1 = .ok (.iload_n 1, 1) := all_at dvX12_ratio_0 1 rfl
theorem dX12_ratio_2 : decode cX12_ratio 2 = .ok (.invokevirtual 183, 3) := all_at dvX12_ratio_0 2 rfl
theorem dX12_ratio_5 : decode cX12_ratio 5 = .ok (.ifCond .eq 6, 3) := all_at dvX12_ratio_0 3 rfl
theorem dX12_ratio_8 : decode cX12_ratio 8 = .ok (.ldc 187, 2) := all_at dvX12_ratio_0 4 rfl
theorem dX12_ratio_10 : decode cX12_ratio 10 = .ok (.ireturn, 1) := all_at dvX12_ratio_0 5 rfl
theorem dX12_ratio_11 : decode cX12_ratio 11 = .ok (.iload_n 2, 1) := all_at dvX12_ratio_0 6 rfl
theorem dX12_ratio_12 : decode cX12_ratio 12 = .ok (.i2l, 1) := all_at dvX12_ratio_0 7 rfl
theorem dX12_ratio_13 : decode cX12_ratio 13 = .ok (.lconst 0, 1) := all_at dvX12_ratio_0 8 rfl
theorem dX12_ratio_14 : decode cX12_ratio 14 = .ok (.ldc2_w 188, 3) := all_at dvX12_ratio_0 9 rfl
theorem dX12_ratio_17 : decode cX12_ratio 17 = .ok (.invokestatic 167, 3) := all_at dvX12_ratio_0 10 rfl
theorem dX12_ratio_20 : decode cX12_ratio 20 = .ok (.ifCond .eq 15, 3) := all_at dvX12_ratio_0 11 rfl
theorem dX12_ratio_23 : decode cX12_ratio 23 = .ok (.iload_n 3, 1) := all_at dvX12_ratio_0 12 rfl
theorem dX12_ratio_24 : decode cX12_ratio 24 = .ok (.i2l, 1) := all_at dvX12_ratio_0 13 rfl
theorem dX12_ratio_25 : decode cX12_ratio 25 = .ok (.lconst 0, 1) := all_at dvX12_ratio_0 14 rfl
theorem dX12_ratio_26 : decode cX12_ratio 26 = .ok (.ldc2_w 188, 3) := all_at dvX12_ratio_0 15 rfl
theorem dX12_ratio_29 : decode cX12_ratio 29 = .ok (.invokestatic 167, 3) := all_at dvX12_ratio_0 16 rfl
theorem dX12_ratio_32 : decode cX12_ratio 32 = .ok (.ifCond .ne 6, 3) := all_at dvX12_ratio_0 17 rfl
theorem dX12_ratio_35 : decode cX12_ratio 35 = .ok (.ldc 178, 2) := all_at dvX12_ratio_0 18 rfl
theorem dX12_ratio_37 : decode cX12_ratio 37 = .ok (.ireturn, 1) := all_at dvX12_ratio_0 19 rfl
theorem dX12_ratio_38 : decode cX12_ratio 38 = .ok (.aload_n 0, 1) := all_at dvX12_ratio_0 20 rfl
theorem dX12_ratio_39 : decode cX12_ratio 39 = .ok (.iload_n 1, 1) := all_at dvX12_ratio_0 21 rfl
theorem dX12_ratio_40 : decode cX12_ratio 40 = .ok (.iload_n 2, 1) := all_at dvX12_ratio_0 22 rfl
theorem dX12_ratio_41 : decode cX12_ratio 41 = .ok (.aload_n 0, 1) := all_at dvX12_ratio_0 23 rfl
set_option maxRecDepth 100000 in
theorem dvX12_ratio_42 : ([(42, .getfield 171, 3), (45, .invokevirtual 237, 3), (48, .istore 4, 2), (50, .iload_n 3, 1), (51, .iconst 2, 1), (52, .if_icmp .ne 6, 3), (55, .iload 4, 2), (57, .ireturn, 1), (58, .iload 4, 2), (60, .ifCond .ne 6, 3), (63, .ldc 179, 2), (65, .ireturn, 1), (66, .aload_n 0, 1), (67, .getfield 223, 3), (70, .aload_n 0, 1), (71, .getfield 227, 3), (74, .invokestatic 241, 3), (77, .lstore 5, 2), (79, .iload_n 3, 1), (80, .ifCond .ne 13, 3), (83, .aload_n 0, 1), (84, .getfield 223, 3), (87, .lload 5, 2), (89, .ldiv, 1)] : List (Nat × Instr × Nat)).all (fun q => decide (decode cX12_ratio q.1 = .ok (q.2.1, q.2.2))) = true := by decide +kernel
theorem dX12_ratio_42 : decode cX12_ratio 42 = .ok (.getfield 171, 3) := all_at dvX12_ratio_42 0 rfl
theorem dX12_ratio_45 : decode cX12_ratio 45 = .ok (.invokevirtual 237, 3) := all_at dvX12_ratio_42 1 rfl
theorem dX12_ratio_48 : decode cX12_ratio 48 = .ok (.istore 4, 2) := all_at dvX12_ratio_42 2 rfl
theorem dX12_ratio_50 : decode cX12_ratio 50 = .ok (.iload_n 3, 1) := all_at dvX12_ratio_42 3 rfl
theorem dX12_ratio_51 : decode cX12_ratio 51 = .ok (.iconst 2, 1) := all_at dvX12_ratio_42 4 rfl
theorem dX12_ratio_52 : decode cX12_ratio 52 = .ok (.if_icmp .ne 6, 3) := all_at dvX12_ratio_42 5 rfl
theorem dX12_ratio_55 : decode cX12_ratio 55 = .ok (.iload 4, 2) := all_at dvX12_ratio_42 6 rfl
theorem dX12_ratio_57 : decode cX12_ratio 57 = .ok (.ireturn, 1) := all_at dvX12_ratio_42 7 rfl
theorem dX12_ratio_58 : decode cX12_ratio 58 = .ok (.iload 4, 2) := all_at dvX12_ratio_42 8 rfl
theorem dX12_ratio_60 : decode cX12_ratio 60 = .ok (.ifCond .ne 6, 3) := all_at dvX12_ratio_42 9 rfl
theorem dX12_ratio_63 : decode cX12_ratio 63 = .ok (.ldc 179, 2) := all_at dvX12_ratio_42 10 rfl
theorem dX12_ratio_65 : decode cX12_ratio 65 = .ok (.ireturn, 1) := all_at dvX12_ratio_42 11 rfl
theorem dX12_ratio_66 : decode cX12_ratio 66 = .ok (.aload_n 0, 1) := all_at dvX12_ratio_42 12 rfl
theorem dX12_ratio_67 : decode cX12_ratio 67 = .ok (.getfield 223, 3) := all_at dvX12_ratio_42 13 rfl
theorem dX12_ratio_70 : decode cX12_ratio 70 = .ok (.aload_n 0, 1) := all_at dvX12_ratio_42 14 rfl
theorem dX12_ratio_71 : decode cX12_ratio 71 = .ok (.getfield 227, 3) := all_at dvX12_ratio_42 15 rfl
theorem dX12_ratio_74 : decode cX12_ratio 74 = .ok (.invokestatic 241, 3) := all_at dvX12_ratio_42 16 rfl
theorem dX12_ratio_77 : decode cX12_ratio 77 = .ok (.lstore 5, 2) := all_at dvX12_ratio_42 17 rfl
theorem dX12_ratio_79 : decode cX12_ratio 79 = .ok (.iload_n 3, 1) := all_at dvX12_ratio_42 18 rfl
theorem dX12_ratio_80 : decode cX12_ratio 80 = .ok (.ifCond .ne 13, 3) := all_at dvX12_ratio_42 19 rfl
theorem dX12_ratio_83 : decode cX12_ratio 83 = .ok (.aload_n 0, 1) := all_at dvX12_ratio_42 20 rfl
theorem dX12_ratio_84 : decode cX12_ratio 84 = .ok (.getfield 223, 3) := all_at dvX12_ratio_42 21 rfl
theorem dX12_ratio_87 : decode cX12_ratio 87 = .ok (.lload 5, 2) := all_at dvX12_ratio_42 22 rfl
theorem dX12_ratio_89 : decode cX12_ratio 89 = .ok (.ldiv, 1) := all_at dvX12_ratio_42 23 rfl
set_option maxRecDepth 100000 in
theorem dvX12_ratio_90 : ([(90, .goto 10, 3), (93, .aload_n 0, 1), (94, .getfield 227, 3), (97, .lload 5, 2), (99, .ldiv, 1), (100, .l2i, 1), (101, .ireturn, 1)] : List (Nat × Instr × Nat)).all (fun q => decide (decode cX12_ratio q.1 = .ok (q.2.1, q.2.2))) = true := by decide +kernel
theorem dX12_ratio_90 : decode cX12_ratio 90 = .ok (.goto 10, 3) := all_at dvX12_ratio_90 0 rfl
theorem dX12_ratio_93 : decode cX12_ratio 93 = .ok (.aload_n 0, 1) := all_at dvX12_ratio_90 1 rfl
theorem dX12_ratio_94 : decode cX12_ratio 94 = .ok (.getfield 227, 3) := all_at dvX12_ratio_90 2 rfl
theorem dX12_ratio_97 : decode cX12_ratio 97 = .ok (.lload 5, 2) := all_at dvX12_ratio_90 3 rfl
theorem dX12_ratio_99 : decode cX12_ratio 99 = .ok (.ldiv, 1) := all_at dvX12_ratio_90 4 rfl
theorem dX12_ratio_100 : decode cX12_ratio 100 = .ok (.l2i, 1) := all_at dvX12_ratio_90 5 rfl
theorem dX12_ratio_101 : decode cX12_ratio 101 = .ok (.ireturn, 1) := all_at dvX12_ratio_90 6 rfl
set_option maxHeartbeats 4000000 in
set_option maxRecDepth 100000 in
/-- X12_sumUp -/
theorem c_X12_sumUp_x (l : Launch) (dC : Nat → ClassId) (dI : Nat → Nat → Nat) (sz : Nat) (h : Nat) (g : Nat → Nat → Nat) (ca : Nat → Nat → ClassId) (iv : Nat → Nat → Int32) (lv : Nat → Nat → Int64) (fa : Nat → Nat → Nat → Int32) (la : Nat → Nat → Nat → Int64) (hI : IX iv fa) (a : Int32) (b : Int32) (d : Int32) (hJR : JRf (iv 12 3).toInt (fa 12 7)) : Met l yX12_sumUp (wc yX12_sumUp cX12_sumUp 6 (some .int)) ({ frames := 1, cells := 0, slots := 0, locals := 22 } : Room) (pW (dC, dI) classes (WM h g ca iv lv fa la) (TM ca) sz [.ref h, .int a, .int b, .int d]) (va_Qi (fun r (u : SS) => ∃ (ni_12_19 : Int32) (nl_12_17 : Int64) (nl_12_18 : Int64), (0 ≤ r.toInt) ∧ (r.toInt ≤ 60) ∧ (0 ≤ (nl_12_18).toInt) ∧ ((nl_12_18).toInt ≤ 599940) ∧ (100 * r.toInt ≤ (nl_12_18).toInt) ∧ (True) ∧ u = ((u2 iv 12 19 ni_12_19), (u2 (u2 lv 12 17 nl_12_17) 12 18 nl_12_18), fa, la)) (bM (dC, dI) h g ca (va_A (WM h g ca iv lv fa la) sz)) (va_A (WM h g ca iv lv fa la) sz)) 0 0 (va_A (WM h g ca iv lv fa la) sz) := by
  refine Met.ofW (cc := cX12_sumUp) (maxL := 6) (ret := (some .int)) (by decide) rfl ?_
  intro p e s m args below meth c s₁ B hml hv
  obtain ⟨rfl, hsz, hP, hK, hD0⟩ := hv
  have hx := B.exec
  have hb := B.bytes
  have hr := B.returns
  have ht := tb_tl (atoms_spec (ws := wc yX12_sumUp cX12_sumUp 6 (some .int)) B.pre)
  have hown : s.vm.findClass RX12 = some m.cls := findClass_of_methodNamed B.named
  have hlocks := B.notSynchronized
  subst hsz
  have hD := hD0.self (sz := s.heap.size)
  generalize hAe : va_A (WM h g ca iv lv fa la) s.heap.size = A at hD ⊢
  have hA : ∀ q : Nat, s.heap.size ≤ q → A q := fun q h => by rw [← hAe]; exact Or.inr h
  have hS : va_S A s.heap s.heap [] := va_S.rf
  have hl := lv_entry [.ref h, .int a, .int b, .int d] (n := 6) (Nat.le_of_ble_eq_true rfl)
  rw [lg_entry_eq]
  generalize (lg_sl [.ref h, .int a, .int b, .int d] ++ List.replicate (6 - (lg_sl [.ref h, .int a, .int b, .int d]).length) Slot.unset).toArray = ls at hl ⊢
  have hl : lv_has ls 6 [(0, .ref h), (1, .int a), (2, .int b), (3, .int d)] := hl
  refine lv_aload_n hx hb dX12_sumUp_0 rfl (lv_at hl 0 rfl) ?_
  refine lv_lconst (v := 0) hx hb dX12_sumUp_1 (by decide) ?_
  refine pM_12_17 (v := 0) hx hb ht hown hK hP hD hS m_1156 dX12_sumUp_2 (fun H locs hP hD hS => ?_)
  refine lv_aload_n hx hb dX12_sumUp_5 rfl (lv_at hl 0 rfl) ?_
  refine lv_lconst (v := 0) hx hb dX12_sumUp_6 (by decide) ?_
  refine pM_12_18 (v := 0) hx hb ht hown hK hP hD hS m_1157 dX12_sumUp_7 (fun H locs hP hD hS => ?_)
  refine lv_aload_n hx hb dX12_sumUp_10 rfl (lv_at hl 0 rfl) ?_
  refine lv_iconst (v := 0) hx hb dX12_sumUp_11 (by decide) ?_
  refine pM_12_19 (v := 0) hx hb ht hown hK hP hD hS m_1158 dX12_sumUp_12 (fun H locs hP hD hS => ?_)
  refine lv_iconst (v := 0) hx hb dX12_sumUp_15 (by decide) ?_
  refine lv_istore (lv' := [(4, .int 0), (0, .ref h), (1, .int a), (2, .int b), (3, .int d)]) hx hb dX12_sumUp_16 hl (by decide) rfl (fun ls hl => ?_)
  have lp1234 : ∀ (nn1234 : Nat) (x1233_4 : Int32) (w1233_i_12_19 : Int32) (w1233_l_12_17 : Int64) (w1233_l_12_18 : Int64), 0 ≤ x1233_4.toInt ∧ x1233_4.toInt ≤ 60 → 0 ≤ (w1233_l_12_18 : Int64).toInt → (w1233_l_12_18 : Int64).toInt ≤ 9999 * (x1233_4 : Int32).toInt → 100 * (w1233_i_12_19 : Int32).toInt ≤ (w1233_l_12_18 : Int64).toInt → 0 ≤ (w1233_i_12_19 : Int32).toInt → (w1233_i_12_19 : Int32).toInt ≤ (x1233_4 : Int32).toInt → 60 - x1233_4.toInt < (nn1234 : Int) → ∀ (H : Heap) (locs : List Loc), ∀ (ls : Array Slot), va_P (dC, dI) classes (WM h g ca (u2 iv 12 19 w1233_i_12_19) (u2 (u2 lv 12 17 w1233_l_12_17) 12 18 w1233_l_12_18) fa la) H → va_D A (WM h g ca (u2 iv 12 19 w1233_i_12_19) (u2 (u2 lv 12 17 w1233_l_12_17) 12 18 w1233_l_12_18) fa la) → va_S A s.heap H locs → lv_has ls 6 [(4, .int x1233_4), (0, .ref h), (1, .int a), (2, .int b), (3, .int d)] → W p l e ({ frames := 1, cells := 0, slots := 0, locals := 22 } : Room) s m ([.ref h, .int a, .int b, .int d] : List Value).toArray below meth c H locs 0 0 (MQ below (va_Qi (fun r (u : SS) => ∃ (ni_12_19 : Int32) (nl_12_17 : Int64) (nl_12_18 : Int64), (0 ≤ r.toInt) ∧ (r.toInt ≤ 60) ∧ (0 ≤ (nl_12_18).toInt) ∧ ((nl_12_18).toInt ≤ 599940) ∧ (100 * r.toInt ≤ (nl_12_18).toInt) ∧ (True) ∧ u = ((u2 iv 12 19 ni_12_19), (u2 (u2 lv 12 17 nl_12_17) 12 18 nl_12_18), fa, la)) (bM (dC, dI) h g ca A) A) ([.ref h, .int a, .int b, .int d] : List Value).toArray s 0 0 A) (F0 m 18 ls []) := by
    intro nn1234
    induction nn1234 with
    | zero => intro x1233_4 w1233_i_12_19 w1233_l_12_17 w1233_l_12_18 hx1233_4 hq1234_0 hq1234_1 hq1234_2 hq1234_3 hq1234_4 hm1234; exfalso; omega
    | succ nn1234 ih1234 =>
      intro x1233_4 w1233_i_12_19 w1233_l_12_17 w1233_l_12_18 hx1233_4 hq1234_0 hq1234_1 hq1234_2 hq1234_3 hq1234_4 hm1234 H locs ls hP hD hS hl
      refine lv_iload hx hb dX12_sumUp_18 (lv_at hl 0 rfl) ?_
      refine lv_aload_n hx hb dX12_sumUp_20 rfl (lv_at hl 1 rfl) ?_
      have i_12_3 : 0 ≤ (iv 12 3).toInt ∧ (iv 12 3).toInt ≤ 60 := hI.1 12 3
      refine gM_12_3 hx hb ht hown hK hP m_1142 (v := (iv 12 3)) rfl dX12_sumUp_21 ?_
      refine lv_icmp_ge (tgt := 158) hx hb dX12_sumUp_24 (by decide) (fun c1235 => ?_) (fun c1235 => ?_)
      · have fc1235 := z_le (rfl : ((iv 12 3)).toInt = _) (rfl : (x1233_4).toInt = _) c1235
        refine lv_aload_n hx hb dX12_sumUp_158 rfl (lv_at hl 1 rfl) ?_
        refine gM_12_19 hx hb ht hown hK hP m_1158 (v := w1233_i_12_19) rfl dX12_sumUp_159 ?_
        have hP9 : va_P (dC, dI) classes (WM h g ca (u2 iv 12 19 w1233_i_12_19) (u2 (u2 lv 12 17 w1233_l_12_17) 12 18 w1233_l_12_18) fa la) H := hP
        have hD9 : va_D A (WM h g ca (u2 iv 12 19 w1233_i_12_19) (u2 (u2 lv 12 17 w1233_l_12_17) 12 18 w1233_l_12_18) fa la) := hD
        exact W.iret (v := w1233_i_12_19) hx hb hr (fun t ht9 hW => ⟨⟨w1233_i_12_19, ((u2 iv 12 19 w1233_i_12_19), (u2 (u2 lv 12 17 w1233_l_12_17) 12 18 w1233_l_12_18), fa, la), rfl, ⟨w1233_i_12_19, w1233_l_12_17, w1233_l_12_18, (show 0 ≤ (w1233_i_12_19 : Int32).toInt from by omega), (show (w1233_i_12_19 : Int32).toInt ≤ 60 from by omega), (show 0 ≤ (w1233_l_12_18 : Int64).toInt from by omega), (show (w1233_l_12_18 : Int64).toInt ≤ 599940 from by omega), (show 100 * (w1233_i_12_19 : Int32).toInt ≤ (w1233_l_12_18 : Int64).toInt from by omega), trivial, rfl⟩, by rw [ht9]; exact hP9, hD9⟩, hS.F ht9⟩) hS.2.2 dX12_sumUp_162
      · have fc1235 := z_nle (rfl : ((iv 12 3)).toInt = _) (rfl : (x1233_4).toInt = _) c1235
        refine lv_aload_n hx hb dX12_sumUp_27 rfl (lv_at hl 1 rfl) ?_
        refine gM_12_9 hx hb ht hown hK hP m_1148 dX12_sumUp_28 ?_
        refine lv_iload hx hb dX12_sumUp_31 (lv_at hl 0 rfl) ?_
        refine lM_12_9 hx hb hK hP (f := (fa 12 9)) rfl (vp_in_iff.mpr ⟨by omega, by omega⟩) dX12_sumUp_33 ?_
        refine lv_topi (fun v1236 ev1236 => ?_)
        have tv1236 : 0 ≤ v1236.toInt ∧ v1236.toInt ≤ 3 := by rw [ev1236]; exact hI.2 12 9 _
        refine lv_aload_n hx hb dX12_sumUp_34 rfl (lv_at hl 1 rfl) ?_
        refine gM_12_20 hx hb ht hown hK hP m_1159 (v := (iv 12 20)) rfl dX12_sumUp_35 ?_
        refine lv_icmp_eq (tgt := 64) hx hb dX12_sumUp_38 (by decide) (fun c1237 => ?_) (fun c1237 => ?_)
        · have fc1237 := z_eq (rfl : (v1236).toInt = _) (rfl : ((iv 12 20)).toInt = _) c1237
          refine lv_iconst (v := 1) hx hb dX12_sumUp_64 (by decide) ?_
          refine lv_goto (tgt := 69) hx hb dX12_sumUp_65 (by decide) ?_
          refine lv_istore (lv' := [(5, .int 1), (4, .int x1233_4), (0, .ref h), (1, .int a), (2, .int b), (3, .int d)]) hx hb dX12_sumUp_69 hl (by decide) rfl (fun ls hl => ?_)
          refine lv_aload_n hx hb dX12_sumUp_71 rfl (lv_at hl 2 rfl) ?_
          refine gM_12_4 hx hb ht hown hK hP m_1143 dX12_sumUp_72 ?_
          refine lv_iload hx hb dX12_sumUp_75 (lv_at hl 1 rfl) ?_
          refine lM_12_4 hx hb hK hP (f := (fa 12 4)) rfl (vp_in_iff.mpr ⟨by omega, by omega⟩) dX12_sumUp_77 ?_
          refine lv_topi (fun v1238 ev1238 => ?_)
          refine lv_iload_n hx hb dX12_sumUp_78 rfl (lv_at hl 3 rfl) ?_
          refine lv_icmp_ne (tgt := 152) hx hb dX12_sumUp_79 (by decide) (fun c1239 => ?_) (fun c1239 => ?_)
          · have fc1239 := z_ne (rfl : (v1238).toInt = _) (rfl : (a).toInt = _) c1239
            obtain ⟨v1240, ev1240⟩ : ∃ y : Int32, y = x1233_4 + 1 := ⟨_, rfl⟩
            have tv1240 := z_add ev1240 rfl (by decide : (1 : Int32).toInt = 1) (by omega) (by omega)
            refine lv_iinc (v := v1240) (lv' := [(4, .int v1240), (5, .int 1), (0, .ref h), (1, .int a), (2, .int b), (3, .int d)]) hx hb dX12_sumUp_152 hl (k := 1) rfl (by rw [ev1240]; rfl) (by decide) rfl (fun ls hl => ?_)
            refine lv_goto (tgt := 18) hx hb dX12_sumUp_155 (by decide) ?_
            exact ih1234 v1240 w1233_i_12_19 w1233_l_12_17 w1233_l_12_18 ⟨by omega, by omega⟩ (show 0 ≤ (w1233_l_12_18 : Int64).toInt from by omega) (show (w1233_l_12_18 : Int64).toInt ≤ 9999 * (v1240 : Int32).toInt from by omega) (show 100 * (w1233_i_12_19 : Int32).toInt ≤ (w1233_l_12_18 : Int64).toInt from by omega) (show 0 ≤ (w1233_i_12_19 : Int32).toInt from by omega) (show (w1233_i_12_19 : Int32).toInt ≤ (v1240 : Int32).toInt from by omega) (by omega) _ _ ls hP hD hS (lv_sub hl [0, 2, 3, 4, 5] rfl)
          · have fc1239 := z_eq (rfl : (v1238).toInt = _) (rfl : (a).toInt = _) c1239
            refine lv_aload_n hx hb dX12_sumUp_82 rfl (lv_at hl 2 rfl) ?_
            refine gM_12_5 hx hb ht hown hK hP m_1144 dX12_sumUp_83 ?_
            refine lv_iload hx hb dX12_sumUp_86 (lv_at hl 1 rfl) ?_
            refine lM_12_5 hx hb hK hP (f := (fa 12 5)) rfl (vp_in_iff.mpr ⟨by omega, by omega⟩) dX12_sumUp_88 ?_
            refine lv_topi (fun v1241 ev1241 => ?_)
            refine lv_iload_n hx hb dX12_sumUp_89 rfl (lv_at hl 4 rfl) ?_
            refine lv_icmp_ne (tgt := 152) hx hb dX12_sumUp_90 (by decide) (fun c1242 => ?_) (fun c1242 => ?_)
            · have fc1242 := z_ne (rfl : (v1241).toInt = _) (rfl : (b).toInt = _) c1242
              obtain ⟨v1243, ev1243⟩ : ∃ y : Int32, y = x1233_4 + 1 := ⟨_, rfl⟩
              have tv1243 := z_add ev1243 rfl (by decide : (1 : Int32).toInt = 1) (by omega) (by omega)
              refine lv_iinc (v := v1243) (lv' := [(4, .int v1243), (5, .int 1), (0, .ref h), (1, .int a), (2, .int b), (3, .int d)]) hx hb dX12_sumUp_152 hl (k := 1) rfl (by rw [ev1243]; rfl) (by decide) rfl (fun ls hl => ?_)
              refine lv_goto (tgt := 18) hx hb dX12_sumUp_155 (by decide) ?_
              exact ih1234 v1243 w1233_i_12_19 w1233_l_12_17 w1233_l_12_18 ⟨by omega, by omega⟩ (show 0 ≤ (w1233_l_12_18 : Int64).toInt from by omega) (show (w1233_l_12_18 : Int64).toInt ≤ 9999 * (v1243 : Int32).toInt from by omega) (show 100 * (w1233_i_12_19 : Int32).toInt ≤ (w1233_l_12_18 : Int64).toInt from by omega) (show 0 ≤ (w1233_i_12_19 : Int32).toInt from by omega) (show (w1233_i_12_19 : Int32).toInt ≤ (v1243 : Int32).toInt from by omega) (by omega) _ _ ls hP hD hS (lv_sub hl [0, 2, 3, 4, 5] rfl)
            · have fc1242 := z_eq (rfl : (v1241).toInt = _) (rfl : (b).toInt = _) c1242
              refine lv_aload_n hx hb dX12_sumUp_93 rfl (lv_at hl 2 rfl) ?_
              refine lv_iload hx hb dX12_sumUp_94 (lv_at hl 1 rfl) ?_
              refine lv_iload_n hx hb dX12_sumUp_96 rfl (lv_at hl 5 rfl) ?_
              refine vp_callSi (W.runV (As := [.int x1233_4, .int d]) (rest := []) ⟨hx, hb, hml, hown, ht⟩ (c_X12_isThere_x l dC dI h g ca (u2 iv 12 19 w1233_i_12_19) (u2 (u2 lv 12 17 w1233_l_12_17) 12 18 w1233_l_12_18) fa la (IX_i (c := 12) (k := 19) hI (full_i _)) x1233_4 d ⟨by omega, by omega⟩) (kV 2 ht m_1438 m_1440 m_46 m_89 m_1441 rfl rfl hd_X12_isThere_v ⟨Nat.le_of_ble_eq_true rfl, Nat.le_of_ble_eq_true rfl⟩) (vR hP hK (rM_12 hK hP)) rfl rfl hl.1 rfl (lv_room (Nat.le_of_ble_eq_true rfl)) dX12_sumUp_97 ⟨Nat.le_of_ble_eq_true rfl, Nat.le_of_ble_eq_true rfl⟩) (fun r1244 hr1244 => ?_)
              obtain ⟨hr1244, xr1244_0⟩ := hr1244
              have xr1244_0 : (((r1244 : Int32).toInt = 1 ∧ ((fa 12 11) (x1233_4 : Int32).toNatClampNeg).toInt ≤ (d : Int32).toInt ∧ (((fa 12 12) (x1233_4 : Int32).toNatClampNeg).toInt < 0 ∨ (d : Int32).toInt < ((fa 12 12) (x1233_4 : Int32).toNatClampNeg).toInt)) ∨ ((r1244 : Int32).toInt = 0 ∧ ¬ (((fa 12 11) (x1233_4 : Int32).toNatClampNeg).toInt ≤ (d : Int32).toInt ∧ (((fa 12 12) (x1233_4 : Int32).toNatClampNeg).toInt < 0 ∨ (d : Int32).toInt < ((fa 12 12) (x1233_4 : Int32).toNatClampNeg).toInt)))) := xr1244_0
              refine lv_if_eq (tgt := 152) hx hb dX12_sumUp_100 (by decide) (fun c1245 => ?_) (fun c1245 => ?_)
              · have fc1245 := z_eq (rfl : (r1244).toInt = _) (by decide : (0 : Int32).toInt = 0) c1245
                obtain ⟨v1246, ev1246⟩ : ∃ y : Int32, y = x1233_4 + 1 := ⟨_, rfl⟩
                have tv1246 := z_add ev1246 rfl (by decide : (1 : Int32).toInt = 1) (by omega) (by omega)
                refine lv_iinc (v := v1246) (lv' := [(4, .int v1246), (5, .int 1), (0, .ref h), (1, .int a), (2, .int b), (3, .int d)]) hx hb dX12_sumUp_152 hl (k := 1) rfl (by rw [ev1246]; rfl) (by decide) rfl (fun ls hl => ?_)
                refine lv_goto (tgt := 18) hx hb dX12_sumUp_155 (by decide) ?_
                exact ih1234 v1246 w1233_i_12_19 w1233_l_12_17 w1233_l_12_18 ⟨by omega, by omega⟩ (show 0 ≤ (w1233_l_12_18 : Int64).toInt from by omega) (show (w1233_l_12_18 : Int64).toInt ≤ 9999 * (v1246 : Int32).toInt from by omega) (show 100 * (w1233_i_12_19 : Int32).toInt ≤ (w1233_l_12_18 : Int64).toInt from by omega) (show 0 ≤ (w1233_i_12_19 : Int32).toInt from by omega) (show (w1233_i_12_19 : Int32).toInt ≤ (v1246 : Int32).toInt from by omega) (by omega) _ _ ls hP hD hS (lv_sub hl [0, 2, 3, 4, 5] rfl)
              · have fc1245 := z_ne (rfl : (r1244).toInt = _) (by decide : (0 : Int32).toInt = 0) c1245
                refine lv_iload hx hb dX12_sumUp_103 (lv_at hl 0 rfl) ?_
                refine lv_if_ne (tgt := 152) hx hb dX12_sumUp_105 (by decide) (fun c1247 => ?_) (fun c1247 => ?_)
                · skip
                  obtain ⟨v1248, ev1248⟩ : ∃ y : Int32, y = x1233_4 + 1 := ⟨_, rfl⟩
                  have tv1248 := z_add ev1248 rfl (by decide : (1 : Int32).toInt = 1) (by omega) (by omega)
                  refine lv_iinc (v := v1248) (lv' := [(4, .int v1248), (5, .int 1), (0, .ref h), (1, .int a), (2, .int b), (3, .int d)]) hx hb dX12_sumUp_152 hl (k := 1) rfl (by rw [ev1248]; rfl) (by decide) rfl (fun ls hl => ?_)
                  refine lv_goto (tgt := 18) hx hb dX12_sumUp_155 (by decide) ?_
                  exact ih1234 v1248 w1233_i_12_19 w1233_l_12_17 w1233_l_12_18 ⟨by omega, by omega⟩ (show 0 ≤ (w1233_l_12_18 : Int64).toInt from by omega) (show (w1233_l_12_18 : Int64).toInt ≤ 9999 * (v1248 : Int32).toInt from by omega) (show 100 * (w1233_i_12_19 : Int32).toInt ≤ (w1233_l_12_18 : Int64).toInt from by omega) (show 0 ≤ (w1233_i_12_19 : Int32).toInt from by omega) (show (w1233_i_12_19 : Int32).toInt ≤ (v1248 : Int32).toInt from by omega) (by omega) _ _ ls hP hD hS (lv_sub hl [0, 2, 3, 4, 5] rfl)
                · exact absurd c1247 (by decide)
        · have fc1237 := z_ne (rfl : (v1236).toInt = _) (rfl : ((iv 12 20)).toInt = _) c1237
          refine lv_aload_n hx hb dX12_sumUp_41 rfl (lv_at hl 1 rfl) ?_
          refine gM_12_10 hx hb ht hown hK hP m_1149 dX12_sumUp_42 ?_
          refine lv_iload hx hb dX12_sumUp_45 (lv_at hl 0 rfl) ?_
          refine lM_12_10 hx hb hK hP (f := (fa 12 10)) rfl (vp_in_iff.mpr ⟨by omega, by omega⟩) dX12_sumUp_47 ?_
          refine lv_topi (fun v1249 ev1249 => ?_)
          have tv1249 : 0 ≤ v1249.toInt ∧ v1249.toInt ≤ 7 := by rw [ev1249]; exact hI.2 12 10 _
          refine lv_aload_n hx hb dX12_sumUp_48 rfl (lv_at hl 1 rfl) ?_
          refine gM_12_21 hx hb ht hown hK hP m_1160 (v := (iv 12 21)) rfl dX12_sumUp_49 ?_
          refine lv_icmp_eq (tgt := 64) hx hb dX12_sumUp_52 (by decide) (fun c1250 => ?_) (fun c1250 => ?_)
          · have fc1250 := z_eq (rfl : (v1249).toInt = _) (rfl : ((iv 12 21)).toInt = _) c1250
            refine lv_iconst (v := 1) hx hb dX12_sumUp_64 (by decide) ?_
            refine lv_goto (tgt := 69) hx hb dX12_sumUp_65 (by decide) ?_
            refine lv_istore (lv' := [(5, .int 1), (4, .int x1233_4), (0, .ref h), (1, .int a), (2, .int b), (3, .int d)]) hx hb dX12_sumUp_69 hl (by decide) rfl (fun ls hl => ?_)
            refine lv_aload_n hx hb dX12_sumUp_71 rfl (lv_at hl 2 rfl) ?_
            refine gM_12_4 hx hb ht hown hK hP m_1143 dX12_sumUp_72 ?_
            refine lv_iload hx hb dX12_sumUp_75 (lv_at hl 1 rfl) ?_
            refine lM_12_4 hx hb hK hP (f := (fa 12 4)) rfl (vp_in_iff.mpr ⟨by omega, by omega⟩) dX12_sumUp_77 ?_
            refine lv_topi (fun v1251 ev1251 => ?_)
            refine lv_iload_n hx hb dX12_sumUp_78 rfl (lv_at hl 3 rfl) ?_
            refine lv_icmp_ne (tgt := 152) hx hb dX12_sumUp_79 (by decide) (fun c1252 => ?_) (fun c1252 => ?_)
            · have fc1252 := z_ne (rfl : (v1251).toInt = _) (rfl : (a).toInt = _) c1252
              obtain ⟨v1253, ev1253⟩ : ∃ y : Int32, y = x1233_4 + 1 := ⟨_, rfl⟩
              have tv1253 := z_add ev1253 rfl (by decide : (1 : Int32).toInt = 1) (by omega) (by omega)
              refine lv_iinc (v := v1253) (lv' := [(4, .int v1253), (5, .int 1), (0, .ref h), (1, .int a), (2, .int b), (3, .int d)]) hx hb dX12_sumUp_152 hl (k := 1) rfl (by rw [ev1253]; rfl) (by decide) rfl (fun ls hl => ?_)
              refine lv_goto (tgt := 18) hx hb dX12_sumUp_155 (by decide) ?_
              exact ih1234 v1253 w1233_i_12_19 w1233_l_12_17 w1233_l_12_18 ⟨by omega, by omega⟩ (show 0 ≤ (w1233_l_12_18 : Int64).toInt from by omega) (show (w1233_l_12_18 : Int64).toInt ≤ 9999 * (v1253 : Int32).toInt from by omega) (show 100 * (w1233_i_12_19 : Int32).toInt ≤ (w1233_l_12_18 : Int64).toInt from by omega) (show 0 ≤ (w1233_i_12_19 : Int32).toInt from by omega) (show (w1233_i_12_19 : Int32).toInt ≤ (v1253 : Int32).toInt from by omega) (by omega) _ _ ls hP hD hS (lv_sub hl [0, 2, 3, 4, 5] rfl)
            · have fc1252 := z_eq (rfl : (v1251).toInt = _) (rfl : (a).toInt = _) c1252
              refine lv_aload_n hx hb dX12_sumUp_82 rfl (lv_at hl 2 rfl) ?_
              refine gM_12_5 hx hb ht hown hK hP m_1144 dX12_sumUp_83 ?_
              refine lv_iload hx hb dX12_sumUp_86 (lv_at hl 1 rfl) ?_
              refine lM_12_5 hx hb hK hP (f := (fa 12 5)) rfl (vp_in_iff.mpr ⟨by omega, by omega⟩) dX12_sumUp_88 ?_
              refine lv_topi (fun v1254 ev1254 => ?_)
              refine lv_iload_n hx hb dX12_sumUp_89 rfl (lv_at hl 4 rfl) ?_
              refine lv_icmp_ne (tgt := 152) hx hb dX12_sumUp_90 (by decide) (fun c1255 => ?_) (fun c1255 => ?_)
              · have fc1255 := z_ne (rfl : (v1254).toInt = _) (rfl : (b).toInt = _) c1255
                obtain ⟨v1256, ev1256⟩ : ∃ y : Int32, y = x1233_4 + 1 := ⟨_, rfl⟩
                have tv1256 := z_add ev1256 rfl (by decide : (1 : Int32).toInt = 1) (by omega) (by omega)
                refine lv_iinc (v := v1256) (lv' := [(4, .int v1256), (5, .int 1), (0, .ref h), (1, .int a), (2, .int b), (3, .int d)]) hx hb dX12_sumUp_152 hl (k := 1) rfl (by rw [ev1256]; rfl) (by decide) rfl (fun ls hl => ?_)
                refine lv_goto (tgt := 18) hx hb dX12_sumUp_155 (by decide) ?_
                exact ih1234 v1256 w1233_i_12_19 w1233_l_12_17 w1233_l_12_18 ⟨by omega, by omega⟩ (show 0 ≤ (w1233_l_12_18 : Int64).toInt from by omega) (show (w1233_l_12_18 : Int64).toInt ≤ 9999 * (v1256 : Int32).toInt from by omega) (show 100 * (w1233_i_12_19 : Int32).toInt ≤ (w1233_l_12_18 : Int64).toInt from by omega) (show 0 ≤ (w1233_i_12_19 : Int32).toInt from by omega) (show (w1233_i_12_19 : Int32).toInt ≤ (v1256 : Int32).toInt from by omega) (by omega) _ _ ls hP hD hS (lv_sub hl [0, 2, 3, 4, 5] rfl)
              · have fc1255 := z_eq (rfl : (v1254).toInt = _) (rfl : (b).toInt = _) c1255
                refine lv_aload_n hx hb dX12_sumUp_93 rfl (lv_at hl 2 rfl) ?_
                refine lv_iload hx hb dX12_sumUp_94 (lv_at hl 1 rfl) ?_
                refine lv_iload_n hx hb dX12_sumUp_96 rfl (lv_at hl 5 rfl) ?_
                refine vp_callSi (W.runV (As := [.int x1233_4, .int d]) (rest := []) ⟨hx, hb, hml, hown, ht⟩ (c_X12_isThere_x l dC dI h g ca (u2 iv 12 19 w1233_i_12_19) (u2 (u2 lv 12 17 w1233_l_12_17) 12 18 w1233_l_12_18) fa la (IX_i (c := 12) (k := 19) hI (full_i _)) x1233_4 d ⟨by omega, by omega⟩) (kV 2 ht m_1438 m_1440 m_46 m_89 m_1441 rfl rfl hd_X12_isThere_v ⟨Nat.le_of_ble_eq_true rfl, Nat.le_of_ble_eq_true rfl⟩) (vR hP hK (rM_12 hK hP)) rfl rfl hl.1 rfl (lv_room (Nat.le_of_ble_eq_true rfl)) dX12_sumUp_97 ⟨Nat.le_of_ble_eq_true rfl, Nat.le_of_ble_eq_true rfl⟩) (fun r1257 hr1257 => ?_)
                obtain ⟨hr1257, xr1257_0⟩ := hr1257
                have xr1257_0 : (((r1257 : Int32).toInt = 1 ∧ ((fa 12 11) (x1233_4 : Int32).toNatClampNeg).toInt ≤ (d : Int32).toInt ∧ (((fa 12 12) (x1233_4 : Int32).toNatClampNeg).toInt < 0 ∨ (d : Int32).toInt < ((fa 12 12) (x1233_4 : Int32).toNatClampNeg).toInt)) ∨ ((r1257 : Int32).toInt = 0 ∧ ¬ (((fa 12 11) (x1233_4 : Int32).toNatClampNeg).toInt ≤ (d : Int32).toInt ∧ (((fa 12 12) (x1233_4 : Int32).toNatClampNeg).toInt < 0 ∨ (d : Int32).toInt < ((fa 12 12) (x1233_4 : Int32).toNatClampNeg).toInt)))) := xr1257_0
                refine lv_if_eq (tgt := 152) hx hb dX12_sumUp_100 (by decide) (fun c1258 => ?_) (fun c1258 => ?_)
                · have fc1258 := z_eq (rfl : (r1257).toInt = _) (by decide : (0 : Int32).toInt = 0) c1258
                  obtain ⟨v1259, ev1259⟩ : ∃ y : Int32, y = x1233_4 + 1 := ⟨_, rfl⟩
                  have tv1259 := z_add ev1259 rfl (by decide : (1 : Int32).toInt = 1) (by omega) (by omega)
                  refine lv_iinc (v := v1259) (lv' := [(4, .int v1259), (5, .int 1), (0, .ref h), (1, .int a), (2, .int b), (3, .int d)]) hx hb dX12_sumUp_152 hl (k := 1) rfl (by rw [ev1259]; rfl) (by decide) rfl (fun ls hl => ?_)
                  refine lv_goto (tgt := 18) hx hb dX12_sumUp_155 (by decide) ?_
                  exact ih1234 v1259 w1233_i_12_19 w1233_l_12_17 w1233_l_12_18 ⟨by omega, by omega⟩ (show 0 ≤ (w1233_l_12_18 : Int64).toInt from by omega) (show (w1233_l_12_18 : Int64).toInt ≤ 9999 * (v1259 : Int32).toInt from by omega) (show 100 * (w1233_i_12_19 : Int32).toInt ≤ (w1233_l_12_18 : Int64).toInt from by omega) (show 0 ≤ (w1233_i_12_19 : Int32).toInt from by omega) (show (w1233_i_12_19 : Int32).toInt ≤ (v1259 : Int32).toInt from by omega) (by omega) _ _ ls hP hD hS (lv_sub hl [0, 2, 3, 4, 5] rfl)
                · have fc1258 := z_ne (rfl : (r1257).toInt = _) (by decide : (0 : Int32).toInt = 0) c1258
                  refine lv_iload hx hb dX12_sumUp_103 (lv_at hl 0 rfl) ?_
                  refine lv_if_ne (tgt := 152) hx hb dX12_sumUp_105 (by decide) (fun c1260 => ?_) (fun c1260 => ?_)
                  · skip
                    obtain ⟨v1261, ev1261⟩ : ∃ y : Int32, y = x1233_4 + 1 := ⟨_, rfl⟩
                    have tv1261 := z_add ev1261 rfl (by decide : (1 : Int32).toInt = 1) (by omega) (by omega)
                    refine lv_iinc (v := v1261) (lv' := [(4, .int v1261), (5, .int 1), (0, .ref h), (1, .int a), (2, .int b), (3, .int d)]) hx hb dX12_sumUp_152 hl (k := 1) rfl (by rw [ev1261]; rfl) (by decide) rfl (fun ls hl => ?_)
                    refine lv_goto (tgt := 18) hx hb dX12_sumUp_155 (by decide) ?_
                    exact ih1234 v1261 w1233_i_12_19 w1233_l_12_17 w1233_l_12_18 ⟨by omega, by omega⟩ (show 0 ≤ (w1233_l_12_18 : Int64).toInt from by omega) (show (w1233_l_12_18 : Int64).toInt ≤ 9999 * (v1261 : Int32).toInt from by omega) (show 100 * (w1233_i_12_19 : Int32).toInt ≤ (w1233_l_12_18 : Int64).toInt from by omega) (show 0 ≤ (w1233_i_12_19 : Int32).toInt from by omega) (show (w1233_i_12_19 : Int32).toInt ≤ (v1261 : Int32).toInt from by omega) (by omega) _ _ ls hP hD hS (lv_sub hl [0, 2, 3, 4, 5] rfl)
                  · exact absurd c1260 (by decide)
          · have fc1250 := z_ne (rfl : (v1249).toInt = _) (rfl : ((iv 12 21)).toInt = _) c1250
            refine lv_iload hx hb dX12_sumUp_55 (lv_at hl 0 rfl) ?_
            refine lv_aload_n hx hb dX12_sumUp_57 rfl (lv_at hl 1 rfl) ?_
            refine gM_12_22 hx hb ht hown hK hP m_1161 (v := (iv 12 22)) rfl dX12_sumUp_58 ?_
            refine lv_icmp_ne (tgt := 68) hx hb dX12_sumUp_61 (by decide) (fun c1262 => ?_) (fun c1262 => ?_)
            · have fc1262 := z_ne (rfl : (x1233_4).toInt = _) (rfl : ((iv 12 22)).toInt = _) c1262
              refine lv_iconst (v := 0) hx hb dX12_sumUp_68 (by decide) ?_
              refine lv_istore (lv' := [(5, .int 0), (4, .int x1233_4), (0, .ref h), (1, .int a), (2, .int b), (3, .int d)]) hx hb dX12_sumUp_69 hl (by decide) rfl (fun ls hl => ?_)
              refine lv_aload_n hx hb dX12_sumUp_71 rfl (lv_at hl 2 rfl) ?_
              refine gM_12_4 hx hb ht hown hK hP m_1143 dX12_sumUp_72 ?_
              refine lv_iload hx hb dX12_sumUp_75 (lv_at hl 1 rfl) ?_
              refine lM_12_4 hx hb hK hP (f := (fa 12 4)) rfl (vp_in_iff.mpr ⟨by omega, by omega⟩) dX12_sumUp_77 ?_
              refine lv_topi (fun v1263 ev1263 => ?_)
              refine lv_iload_n hx hb dX12_sumUp_78 rfl (lv_at hl 3 rfl) ?_
              refine lv_icmp_ne (tgt := 152) hx hb dX12_sumUp_79 (by decide) (fun c1264 => ?_) (fun c1264 => ?_)
              · have fc1264 := z_ne (rfl : (v1263).toInt = _) (rfl : (a).toInt = _) c1264
                obtain ⟨v1265, ev1265⟩ : ∃ y : Int32, y = x1233_4 + 1 := ⟨_, rfl⟩
                have tv1265 := z_add ev1265 rfl (by decide : (1 : Int32).toInt = 1) (by omega) (by omega)
                refine lv_iinc (v := v1265) (lv' := [(4, .int v1265), (5, .int 0), (0, .ref h), (1, .int a), (2, .int b), (3, .int d)]) hx hb dX12_sumUp_152 hl (k := 1) rfl (by rw [ev1265]; rfl) (by decide) rfl (fun ls hl => ?_)
                refine lv_goto (tgt := 18) hx hb dX12_sumUp_155 (by decide) ?_
                exact ih1234 v1265 w1233_i_12_19 w1233_l_12_17 w1233_l_12_18 ⟨by omega, by omega⟩ (show 0 ≤ (w1233_l_12_18 : Int64).toInt from by omega) (show (w1233_l_12_18 : Int64).toInt ≤ 9999 * (v1265 : Int32).toInt from by omega) (show 100 * (w1233_i_12_19 : Int32).toInt ≤ (w1233_l_12_18 : Int64).toInt from by omega) (show 0 ≤ (w1233_i_12_19 : Int32).toInt from by omega) (show (w1233_i_12_19 : Int32).toInt ≤ (v1265 : Int32).toInt from by omega) (by omega) _ _ ls hP hD hS (lv_sub hl [0, 2, 3, 4, 5] rfl)
              · have fc1264 := z_eq (rfl : (v1263).toInt = _) (rfl : (a).toInt = _) c1264
                refine lv_aload_n hx hb dX12_sumUp_82 rfl (lv_at hl 2 rfl) ?_
                refine gM_12_5 hx hb ht hown hK hP m_1144 dX12_sumUp_83 ?_
                refine lv_iload hx hb dX12_sumUp_86 (lv_at hl 1 rfl) ?_
                refine lM_12_5 hx hb hK hP (f := (fa 12 5)) rfl (vp_in_iff.mpr ⟨by omega, by omega⟩) dX12_sumUp_88 ?_
                refine lv_topi (fun v1266 ev1266 => ?_)
                refine lv_iload_n hx hb dX12_sumUp_89 rfl (lv_at hl 4 rfl) ?_
                refine lv_icmp_ne (tgt := 152) hx hb dX12_sumUp_90 (by decide) (fun c1267 => ?_) (fun c1267 => ?_)
                · have fc1267 := z_ne (rfl : (v1266).toInt = _) (rfl : (b).toInt = _) c1267
                  obtain ⟨v1268, ev1268⟩ : ∃ y : Int32, y = x1233_4 + 1 := ⟨_, rfl⟩
                  have tv1268 := z_add ev1268 rfl (by decide : (1 : Int32).toInt = 1) (by omega) (by omega)
                  refine lv_iinc (v := v1268) (lv' := [(4, .int v1268), (5, .int 0), (0, .ref h), (1, .int a), (2, .int b), (3, .int d)]) hx hb dX12_sumUp_152 hl (k := 1) rfl (by rw [ev1268]; rfl) (by decide) rfl (fun ls hl => ?_)
                  refine lv_goto (tgt := 18) hx hb dX12_sumUp_155 (by decide) ?_
                  exact ih1234 v1268 w1233_i_12_19 w1233_l_12_17 w1233_l_12_18 ⟨by omega, by omega⟩ (show 0 ≤ (w1233_l_12_18 : Int64).toInt from by omega) (show (w1233_l_12_18 : Int64).toInt ≤ 9999 * (v1268 : Int32).toInt from by omega) (show 100 * (w1233_i_12_19 : Int32).toInt ≤ (w1233_l_12_18 : Int64).toInt from by omega) (show 0 ≤ (w1233_i_12_19 : Int32).toInt from by omega) (show (w1233_i_12_19 : Int32).toInt ≤ (v1268 : Int32).toInt from by omega) (by omega) _ _ ls hP hD hS (lv_sub hl [0, 2, 3, 4, 5] rfl)
                · have fc1267 := z_eq (rfl : (v1266).toInt = _) (rfl : (b).toInt = _) c1267
                  refine lv_aload_n hx hb dX12_sumUp_93 rfl (lv_at hl 2 rfl) ?_
                  refine lv_iload hx hb dX12_sumUp_94 (lv_at hl 1 rfl) ?_
                  refine lv_iload_n hx hb dX12_sumUp_96 rfl (lv_at hl 5 rfl) ?_
                  refine vp_callSi (W.runV (As := [.int x1233_4, .int d]) (rest := []) ⟨hx, hb, hml, hown, ht⟩ (c_X12_isThere_x l dC dI h g ca (u2 iv 12 19 w1233_i_12_19) (u2 (u2 lv 12 17 w1233_l_12_17) 12 18 w1233_l_12_18) fa la (IX_i (c := 12) (k := 19) hI (full_i _)) x1233_4 d ⟨by omega, by omega⟩) (kV 2 ht m_1438 m_1440 m_46 m_89 m_1441 rfl rfl hd_X12_isThere_v ⟨Nat.le_of_ble_eq_true rfl, Nat.le_of_ble_eq_true rfl⟩) (vR hP hK (rM_12 hK hP)) rfl rfl hl.1 rfl (lv_room (Nat.le_of_ble_eq_true rfl)) dX12_sumUp_97 ⟨Nat.le_of_ble_eq_true rfl, Nat.le_of_ble_eq_true rfl⟩) (fun r1269 hr1269 => ?_)
                  obtain ⟨hr1269, xr1269_0⟩ := hr1269
                  have xr1269_0 : (((r1269 : Int32).toInt = 1 ∧ ((fa 12 11) (x1233_4 : Int32).toNatClampNeg).toInt ≤ (d : Int32).toInt ∧ (((fa 12 12) (x1233_4 : Int32).toNatClampNeg).toInt < 0 ∨ (d : Int32).toInt < ((fa 12 12) (x1233_4 : Int32).toNatClampNeg).toInt)) ∨ ((r1269 : Int32).toInt = 0 ∧ ¬ (((fa 12 11) (x1233_4 : Int32).toNatClampNeg).toInt ≤ (d : Int32).toInt ∧ (((fa 12 12) (x1233_4 : Int32).toNatClampNeg).toInt < 0 ∨ (d : Int32).toInt < ((fa 12 12) (x1233_4 : Int32).toNatClampNeg).toInt)))) := xr1269_0
                  refine lv_if_eq (tgt := 152) hx hb dX12_sumUp_100 (by decide) (fun c1270 => ?_) (fun c1270 => ?_)
                  · have fc1270 := z_eq (rfl : (r1269).toInt = _) (by decide : (0 : Int32).toInt = 0) c1270
                    obtain ⟨v1271, ev1271⟩ : ∃ y : Int32, y = x1233_4 + 1 := ⟨_, rfl⟩
                    have tv1271 := z_add ev1271 rfl (by decide : (1 : Int32).toInt = 1) (by omega) (by omega)
                    refine lv_iinc (v := v1271) (lv' := [(4, .int v1271), (5, .int 0), (0, .ref h), (1, .int a), (2, .int b), (3, .int d)]) hx hb dX12_sumUp_152 hl (k := 1) rfl (by rw [ev1271]; rfl) (by decide) rfl (fun ls hl => ?_)
                    refine lv_goto (tgt := 18) hx hb dX12_sumUp_155 (by decide) ?_
                    exact ih1234 v1271 w1233_i_12_19 w1233_l_12_17 w1233_l_12_18 ⟨by omega, by omega⟩ (show 0 ≤ (w1233_l_12_18 : Int64).toInt from by omega) (show (w1233_l_12_18 : Int64).toInt ≤ 9999 * (v1271 : Int32).toInt from by omega) (show 100 * (w1233_i_12_19 : Int32).toInt ≤ (w1233_l_12_18 : Int64).toInt from by omega) (show 0 ≤ (w1233_i_12_19 : Int32).toInt from by omega) (show (w1233_i_12_19 : Int32).toInt ≤ (v1271 : Int32).toInt from by omega) (by omega) _ _ ls hP hD hS (lv_sub hl [0, 2, 3, 4, 5] rfl)
                  · have fc1270 := z_ne (rfl : (r1269).toInt = _) (by decide : (0 : Int32).toInt = 0) c1270
                    refine lv_iload hx hb dX12_sumUp_103 (lv_at hl 0 rfl) ?_
                    refine lv_if_ne (tgt := 152) hx hb dX12_sumUp_105 (by decide) (fun c1272 => ?_) (fun c1272 => ?_)
                    · exact absurd rfl c1272
                    · skip
                      refine lv_aload_n hx hb dX12_sumUp_108 rfl (lv_at hl 2 rfl) ?_
                      refine lv_dup hx hb dX12_sumUp_109 rfl ?_
                      refine gM_12_17 hx hb ht hown hK hP m_1156 (v := w1233_l_12_17) rfl dX12_sumUp_110 ?_
                      refine lv_aload_n hx hb dX12_sumUp_113 rfl (lv_at hl 2 rfl) ?_
                      refine gM_12_8 hx hb ht hown hK hP m_1147 dX12_sumUp_114 ?_
                      refine lv_iload hx hb dX12_sumUp_117 (lv_at hl 1 rfl) ?_
                      refine lM_12_8 hx hb hK hP (f := (fa 12 8)) rfl (vp_in_iff.mpr ⟨by omega, by omega⟩) dX12_sumUp_119 ?_
                      refine lv_topi (fun v1273 ev1273 => ?_)
                      refine lv_i2l (v := (v1273.toInt64)) hx hb dX12_sumUp_120 rfl ?_
                      refine lv_ladd hx hb dX12_sumUp_121 ?_
                      refine lv_topl (fun w1274 ew1274 => ?_)
                      refine pM_12_17 (v := w1274) hx hb ht hown hK hP hD hS m_1156 dX12_sumUp_122 (fun H locs hP hD hS => ?_)
                      have hP : va_P (dC, dI) classes (WM h g ca (u2 iv 12 19 w1233_i_12_19) (u2 (u2 lv 12 17 w1274) 12 18 w1233_l_12_18) fa la) H := hP
                      have hD : va_D A (WM h g ca (u2 iv 12 19 w1233_i_12_19) (u2 (u2 lv 12 17 w1274) 12 18 w1233_l_12_18) fa la) := hD
                      refine lv_aload_n hx hb dX12_sumUp_125 rfl (lv_at hl 2 rfl) ?_
                      refine lv_dup hx hb dX12_sumUp_126 rfl ?_
                      refine gM_12_18 hx hb ht hown hK hP m_1157 (v := w1233_l_12_18) rfl dX12_sumUp_127 ?_
                      refine lv_aload_n hx hb dX12_sumUp_130 rfl (lv_at hl 2 rfl) ?_
                      refine gM_12_7 hx hb ht hown hK hP m_1146 dX12_sumUp_131 ?_
                      refine lv_iload hx hb dX12_sumUp_134 (lv_at hl 1 rfl) ?_
                      refine lM_12_7 hx hb hK hP (f := (fa 12 7)) rfl (vp_in_iff.mpr ⟨by omega, by omega⟩) dX12_sumUp_136 ?_
                      refine lv_topi (fun v1275 ev1275 => ?_)
                      have tv1275 : 0 ≤ v1275.toInt ∧ v1275.toInt ≤ 9999 := by rw [ev1275]; exact hI.2 12 7 _
                      have hr9 := hJR (x1233_4 : Int32).toNatClampNeg (by show (((x1233_4 : Int32).toInt.toNat : Nat) : Int) < _; omega)
                      rw [← ev1275] at hr9
                      refine lv_i2l (v := (v1275.toInt64)) hx hb dX12_sumUp_137 rfl ?_
                      have : 0 ≤ (w1233_l_12_18 : Int64).toInt ∧ (w1233_l_12_18 : Int64).toInt ≤ 599940 := ⟨by omega, by omega⟩
                      refine lv_ladd hx hb dX12_sumUp_138 ?_
                      refine lv_topl (fun w1276 ew1276 => ?_)
                      have tw1276 := l_add ew1276 (rfl : (w1233_l_12_18).toInt = _) ((Int32.toInt_toInt64 v1275).trans rfl) (by omega) (by omega)
                      refine pM_12_18 (v := w1276) hx hb ht hown hK hP hD hS m_1157 dX12_sumUp_139 (fun H locs hP hD hS => ?_)
                      have hP : va_P (dC, dI) classes (WM h g ca (u2 iv 12 19 w1233_i_12_19) (u2 (u2 lv 12 17 w1274) 12 18 w1276) fa la) H := hP
                      have hD : va_D A (WM h g ca (u2 iv 12 19 w1233_i_12_19) (u2 (u2 lv 12 17 w1274) 12 18 w1276) fa la) := hD
                      refine lv_aload_n hx hb dX12_sumUp_142 rfl (lv_at hl 2 rfl) ?_
                      refine lv_dup hx hb dX12_sumUp_143 rfl ?_
                      refine gM_12_19 hx hb ht hown hK hP m_1158 (v := w1233_i_12_19) rfl dX12_sumUp_144 ?_
                      refine lv_iconst (v := 1) hx hb dX12_sumUp_147 (by decide) ?_
                      have : 0 ≤ (w1233_i_12_19 : Int32).toInt ∧ (w1233_i_12_19 : Int32).toInt ≤ 59 := ⟨by omega, by omega⟩
                      refine lv_iadd hx hb dX12_sumUp_148 ?_
                      refine lv_topi (fun v1277 ev1277 => ?_)
                      have tv1277 := z_add ev1277 (rfl : (w1233_i_12_19).toInt = _) (by decide : (1 : Int32).toInt = 1) (by omega) (by omega)
                      refine pM_12_19 (v := v1277) hx hb ht hown hK hP hD hS m_1158 dX12_sumUp_149 (fun H locs hP hD hS => ?_)
                      have hP : va_P (dC, dI) classes (WM h g ca (u2 iv 12 19 v1277) (u2 (u2 lv 12 17 w1274) 12 18 w1276) fa la) H := hP
                      have hD : va_D A (WM h g ca (u2 iv 12 19 v1277) (u2 (u2 lv 12 17 w1274) 12 18 w1276) fa la) := hD
                      obtain ⟨v1278, ev1278⟩ : ∃ y : Int32, y = x1233_4 + 1 := ⟨_, rfl⟩
                      have tv1278 := z_add ev1278 rfl (by decide : (1 : Int32).toInt = 1) (by omega) (by omega)
                      refine lv_iinc (v := v1278) (lv' := [(4, .int v1278), (5, .int 0), (0, .ref h), (1, .int a), (2, .int b), (3, .int d)]) hx hb dX12_sumUp_152 hl (k := 1) rfl (by rw [ev1278]; rfl) (by decide) rfl (fun ls hl => ?_)
                      refine lv_goto (tgt := 18) hx hb dX12_sumUp_155 (by decide) ?_
                      exact ih1234 v1278 v1277 w1274 w1276 ⟨by omega, by omega⟩ (show 0 ≤ (w1276 : Int64).toInt from by omega) (show (w1276 : Int64).toInt ≤ 9999 * (v1278 : Int32).toInt from by omega) (show 100 * (v1277 : Int32).toInt ≤ (w1276 : Int64).toInt from by omega) (show 0 ≤ (v1277 : Int32).toInt from by omega) (show (v1277 : Int32).toInt ≤ (v1278 : Int32).toInt from by omega) (by omega) _ _ ls hP hD hS (lv_sub hl [0, 2, 3, 4, 5] rfl)
            · have fc1262 := z_eq (rfl : (x1233_4).toInt = _) (rfl : ((iv 12 22)).toInt = _) c1262
              refine lv_iconst (v := 1) hx hb dX12_sumUp_64 (by decide) ?_
              refine lv_goto (tgt := 69) hx hb dX12_sumUp_65 (by decide) ?_
              refine lv_istore (lv' := [(5, .int 1), (4, .int x1233_4), (0, .ref h), (1, .int a), (2, .int b), (3, .int d)]) hx hb dX12_sumUp_69 hl (by decide) rfl (fun ls hl => ?_)
              refine lv_aload_n hx hb dX12_sumUp_71 rfl (lv_at hl 2 rfl) ?_
              refine gM_12_4 hx hb ht hown hK hP m_1143 dX12_sumUp_72 ?_
              refine lv_iload hx hb dX12_sumUp_75 (lv_at hl 1 rfl) ?_
              refine lM_12_4 hx hb hK hP (f := (fa 12 4)) rfl (vp_in_iff.mpr ⟨by omega, by omega⟩) dX12_sumUp_77 ?_
              refine lv_topi (fun v1279 ev1279 => ?_)
              refine lv_iload_n hx hb dX12_sumUp_78 rfl (lv_at hl 3 rfl) ?_
              refine lv_icmp_ne (tgt := 152) hx hb dX12_sumUp_79 (by decide) (fun c1280 => ?_) (fun c1280 => ?_)
              · have fc1280 := z_ne (rfl : (v1279).toInt = _) (rfl : (a).toInt = _) c1280
                obtain ⟨v1281, ev1281⟩ : ∃ y : Int32, y = x1233_4 + 1 := ⟨_, rfl⟩
                have tv1281 := z_add ev1281 rfl (by decide : (1 : Int32).toInt = 1) (by omega) (by omega)
                refine lv_iinc (v := v1281) (lv' := [(4, .int v1281), (5, .int 1), (0, .ref h), (1, .int a), (2, .int b), (3, .int d)]) hx hb dX12_sumUp_152 hl (k := 1) rfl (by rw [ev1281]; rfl) (by decide) rfl (fun ls hl => ?_)
                refine lv_goto (tgt := 18) hx hb dX12_sumUp_155 (by decide) ?_
                exact ih1234 v1281 w1233_i_12_19 w1233_l_12_17 w1233_l_12_18 ⟨by omega, by omega⟩ (show 0 ≤ (w1233_l_12_18 : Int64).toInt from by omega) (show (w1233_l_12_18 : Int64).toInt ≤ 9999 * (v1281 : Int32).toInt from by omega) (show 100 * (w1233_i_12_19 : Int32).toInt ≤ (w1233_l_12_18 : Int64).toInt from by omega) (show 0 ≤ (w1233_i_12_19 : Int32).toInt from by omega) (show (w1233_i_12_19 : Int32).toInt ≤ (v1281 : Int32).toInt from by omega) (by omega) _ _ ls hP hD hS (lv_sub hl [0, 2, 3, 4, 5] rfl)
              · have fc1280 := z_eq (rfl : (v1279).toInt = _) (rfl : (a).toInt = _) c1280
                refine lv_aload_n hx hb dX12_sumUp_82 rfl (lv_at hl 2 rfl) ?_
                refine gM_12_5 hx hb ht hown hK hP m_1144 dX12_sumUp_83 ?_
                refine lv_iload hx hb dX12_sumUp_86 (lv_at hl 1 rfl) ?_
                refine lM_12_5 hx hb hK hP (f := (fa 12 5)) rfl (vp_in_iff.mpr ⟨by omega, by omega⟩) dX12_sumUp_88 ?_
                refine lv_topi (fun v1282 ev1282 => ?_)
                refine lv_iload_n hx hb dX12_sumUp_89 rfl (lv_at hl 4 rfl) ?_
                refine lv_icmp_ne (tgt := 152) hx hb dX12_sumUp_90 (by decide) (fun c1283 => ?_) (fun c1283 => ?_)
                · have fc1283 := z_ne (rfl : (v1282).toInt = _) (rfl : (b).toInt = _) c1283
                  obtain ⟨v1284, ev1284⟩ : ∃ y : Int32, y = x1233_4 + 1 := ⟨_, rfl⟩
                  have tv1284 := z_add ev1284 rfl (by decide : (1 : Int32).toInt = 1) (by omega) (by omega)
                  refine lv_iinc (v := v1284) (lv' := [(4, .int v1284), (5, .int 1), (0, .ref h), (1, .int a), (2, .int b), (3, .int d)]) hx hb dX12_sumUp_152 hl (k := 1) rfl (by rw [ev1284]; rfl) (by decide) rfl (fun ls hl => ?_)
                  refine lv_goto (tgt := 18) hx hb dX12_sumUp_155 (by decide) ?_
                  exact ih1234 v1284 w1233_i_12_19 w1233_l_12_17 w1233_l_12_18 ⟨by omega, by omega⟩ (show 0 ≤ (w1233_l_12_18 : Int64).toInt from by omega) (show (w1233_l_12_18 : Int64).toInt ≤ 9999 * (v1284 : Int32).toInt from by omega) (show 100 * (w1233_i_12_19 : Int32).toInt ≤ (w1233_l_12_18 : Int64).toInt from by omega) (show 0 ≤ (w1233_i_12_19 : Int32).toInt from by omega) (show (w1233_i_12_19 : Int32).toInt ≤ (v1284 : Int32).toInt from by omega) (by omega) _ _ ls hP hD hS (lv_sub hl [0, 2, 3, 4, 5] rfl)
                · have fc1283 := z_eq (rfl : (v1282).toInt = _) (rfl : (b).toInt = _) c1283
                  refine lv_aload_n hx hb dX12_sumUp_93 rfl (lv_at hl 2 rfl) ?_
                  refine lv_iload hx hb dX12_sumUp_94 (lv_at hl 1 rfl) ?_
                  refine lv_iload_n hx hb dX12_sumUp_96 rfl (lv_at hl 5 rfl) ?_
                  refine vp_callSi (W.runV (As := [.int x1233_4, .int d]) (rest := []) ⟨hx, hb, hml, hown, ht⟩ (c_X12_isThere_x l dC dI h g ca (u2 iv 12 19 w1233_i_12_19) (u2 (u2 lv 12 17 w1233_l_12_17) 12 18 w1233_l_12_18) fa la (IX_i (c := 12) (k := 19) hI (full_i _)) x1233_4 d ⟨by omega, by omega⟩) (kV 2 ht m_1438 m_1440 m_46 m_89 m_1441 rfl rfl hd_X12_isThere_v ⟨Nat.le_of_ble_eq_true rfl, Nat.le_of_ble_eq_true rfl⟩) (vR hP hK (rM_12 hK hP)) rfl rfl hl.1 rfl (lv_room (Nat.le_of_ble_eq_true rfl)) dX12_sumUp_97 ⟨Nat.le_of_ble_eq_true rfl, Nat.le_of_ble_eq_true rfl⟩) (fun r1285 hr1285 => ?_)
                  obtain ⟨hr1285, xr1285_0⟩ := hr1285
                  have xr1285_0 : (((r1285 : Int32).toInt = 1 ∧ ((fa 12 11) (x1233_4 : Int32).toNatClampNeg).toInt ≤ (d : Int32).toInt ∧ (((fa 12 12) (x1233_4 : Int32).toNatClampNeg).toInt < 0 ∨ (d : Int32).toInt < ((fa 12 12) (x1233_4 : Int32).toNatClampNeg).toInt)) ∨ ((r1285 : Int32).toInt = 0 ∧ ¬ (((fa 12 11) (x1233_4 : Int32).toNatClampNeg).toInt ≤ (d : Int32).toInt ∧ (((fa 12 12) (x1233_4 : Int32).toNatClampNeg).toInt < 0 ∨ (d : Int32).toInt < ((fa 12 12) (x1233_4 : Int32).toNatClampNeg).toInt)))) := xr1285_0
                  refine lv_if_eq (tgt := 152) hx hb dX12_sumUp_100 (by decide) (fun c1286 => ?_) (fun c1286 => ?_)
                  · have fc1286 := z_eq (rfl : (r1285).toInt = _) (by decide : (0 : Int32).toInt = 0) c1286
                    obtain ⟨v1287, ev1287⟩ : ∃ y : Int32, y = x1233_4 + 1 := ⟨_, rfl⟩
                    have tv1287 := z_add ev1287 rfl (by decide : (1 : Int32).toInt = 1) (by omega) (by omega)
                    refine lv_iinc (v := v1287) (lv' := [(4, .int v1287), (5, .int 1), (0, .ref h), (1, .int a), (2, .int b), (3, .int d)]) hx hb dX12_sumUp_152 hl (k := 1) rfl (by rw [ev1287]; rfl) (by decide) rfl (fun ls hl => ?_)
                    refine lv_goto (tgt := 18) hx hb dX12_sumUp_155 (by decide) ?_
                    exact ih1234 v1287 w1233_i_12_19 w1233_l_12_17 w1233_l_12_18 ⟨by omega, by omega⟩ (show 0 ≤ (w1233_l_12_18 : Int64).toInt from by omega) (show (w1233_l_12_18 : Int64).toInt ≤ 9999 * (v1287 : Int32).toInt from by omega) (show 100 * (w1233_i_12_19 : Int32).toInt ≤ (w1233_l_12_18 : Int64).toInt from by omega) (show 0 ≤ (w1233_i_12_19 : Int32).toInt from by omega) (show (w1233_i_12_19 : Int32).toInt ≤ (v1287 : Int32).toInt from by omega) (by omega) _ _ ls hP hD hS (lv_sub hl [0, 2, 3, 4, 5] rfl)
                  · have fc1286 := z_ne (rfl : (r1285).toInt = _) (by decide : (0 : Int32).toInt = 0) c1286
                    refine lv_iload hx hb dX12_sumUp_103 (lv_at hl 0 rfl) ?_
                    refine lv_if_ne (tgt := 152) hx hb dX12_sumUp_105 (by decide) (fun c1288 => ?_) (fun c1288 => ?_)
                    · skip
                      obtain ⟨v1289, ev1289⟩ : ∃ y : Int32, y = x1233_4 + 1 := ⟨_, rfl⟩
                      have tv1289 := z_add ev1289 rfl (by decide : (1 : Int32).toInt = 1) (by omega) (by omega)
                      refine lv_iinc (v := v1289) (lv' := [(4, .int v1289), (5, .int 1), (0, .ref h), (1, .int a), (2, .int b), (3, .int d)]) hx hb dX12_sumUp_152 hl (k := 1) rfl (by rw [ev1289]; rfl) (by decide) rfl (fun ls hl => ?_)
                      refine lv_goto (tgt := 18) hx hb dX12_sumUp_155 (by decide) ?_
                      exact ih1234 v1289 w1233_i_12_19 w1233_l_12_17 w1233_l_12_18 ⟨by omega, by omega⟩ (show 0 ≤ (w1233_l_12_18 : Int64).toInt from by omega) (show (w1233_l_12_18 : Int64).toInt ≤ 9999 * (v1289 : Int32).toInt from by omega) (show 100 * (w1233_i_12_19 : Int32).toInt ≤ (w1233_l_12_18 : Int64).toInt from by omega) (show 0 ≤ (w1233_i_12_19 : Int32).toInt from by omega) (show (w1233_i_12_19 : Int32).toInt ≤ (v1289 : Int32).toInt from by omega) (by omega) _ _ ls hP hD hS (lv_sub hl [0, 2, 3, 4, 5] rfl)
                    · exact absurd c1288 (by decide)
  have : (0 : Int32).toInt = 0 := (by decide)
  have : (0 : Int64).toInt = 0 := (by decide)
  exact lp1234 61 0 0 0 0 ⟨by decide, by decide⟩ (show 0 ≤ (0 : Int64).toInt from by omega) (show (0 : Int64).toInt ≤ 9999 * (0 : Int32).toInt from by omega) (show 100 * (0 : Int32).toInt ≤ (0 : Int64).toInt from by omega) (show 0 ≤ (0 : Int32).toInt from by omega) (show (0 : Int32).toInt ≤ (0 : Int32).toInt from by omega) (by first | decide | omega) _ _ ls hP hD hS (lv_sub hl [0, 1, 2, 3, 4] rfl)
set_option maxHeartbeats 4000000 in
set_option maxRecDepth 100000 in
/-- X12_sumUp -/
theorem c_X12_sumUp_c (l : Launch) (dC : Nat → ClassId) (dI : Nat → Nat → Nat) (sz : Nat) (h : Nat) (g : Nat → Nat → Nat) (ca : Nat → Nat → ClassId) (iv : Nat → Nat → Int32) (lv : Nat → Nat → Int64) (fa : Nat → Nat → Nat → Int32) (la : Nat → Nat → Nat → Int64) (hI : IX iv fa) (a : Int32) (b : Int32) (d : Int32) (q_12_20 : (-1) ≤ (iv 12 20).toInt ∧ (iv 12 20).toInt ≤ (-1)) (q_12_21 : (-1) ≤ (iv 12 21).toInt ∧ (iv 12 21).toInt ≤ (-1)) (q_12_22 : (-1) ≤ (iv 12 22).toInt ∧ (iv 12 22).toInt ≤ (-1)) (hJR : JRf (iv 12 3).toInt (fa 12 7)) : Met l yX12_sumUp (wc yX12_sumUp cX12_sumUp 6 (some .int)) ({ frames := 1, cells := 0, slots := 0, locals := 22 } : Room) (pW (dC, dI) classes (WM h g ca iv lv fa la) (TM ca) sz [.ref h, .int a, .int b, .int d]) (va_Qi (fun r (u : SS) => ∃ (ni_12_19 : Int32) (nl_12_17 : Int64) (nl_12_18 : Int64), (0 ≤ r.toInt) ∧ (r.toInt ≤ 60) ∧ (0 ≤ (nl_12_18).toInt) ∧ ((nl_12_18).toInt ≤ 599940) ∧ (100 * r.toInt ≤ (nl_12_18).toInt) ∧ (100 * ((cn1 (fa 12 4) (fa 12 5) (fa 12 11) (fa 12 12) a b d ((iv 12 3).toInt).toNat : Nat) : Int) ≤ (nl_12_18).toInt) ∧ (True) ∧ u = ((u2 iv 12 19 ni_12_19), (u2 (u2 lv 12 17 nl_12_17) 12 18 nl_12_18), fa, la)) (bM (dC, dI) h g ca (va_A (WM h g ca iv lv fa la) sz)) (va_A (WM h g ca iv lv fa la) sz)) 0 0 (va_A (WM h g ca iv lv fa la) sz) := by
  refine Met.ofW (cc := cX12_sumUp) (maxL := 6) (ret := (some .int)) (by decide) rfl ?_
  intro p e s m args below meth c s₁ B hml hv
  obtain ⟨rfl, hsz, hP, hK, hD0⟩ := hv
  have hx := B.exec
  have hb := B.bytes
  have hr := B.returns
  have ht := tb_tl (atoms_spec (ws := wc yX12_sumUp cX12_sumUp 6 (some .int)) B.pre)
  have hown : s.vm.findClass RX12 = some m.cls := findClass_of_methodNamed B.named
  have hlocks := B.notSynchronized
  subst hsz
  have hD := hD0.self (sz := s.heap.size)
  generalize hAe : va_A (WM h g ca iv lv fa la) s.heap.size = A at hD ⊢
  have hA : ∀ q : Nat, s.heap.size ≤ q → A q := fun q h => by rw [← hAe]; exact Or.inr h
  have hS : va_S A s.heap s.heap [] := va_S.rf
  have hl := lv_entry [.ref h, .int a, .int b, .int d] (n := 6) (Nat.le_of_ble_eq_true rfl)
  rw [lg_entry_eq]
  generalize (lg_sl [.ref h, .int a, .int b, .int d] ++ List.replicate (6 - (lg_sl [.ref h, .int a, .int b, .int d]).length) Slot.unset).toArray = ls at hl ⊢
  have hl : lv_has ls 6 [(0, .ref h), (1, .int a), (2, .int b), (3, .int d)] := hl
  refine lv_aload_n hx hb dX12_sumUp_0 rfl (lv_at hl 0 rfl) ?_
  refine lv_lconst (v := 0) hx hb dX12_sumUp_1 (by decide) ?_
  refine pM_12_17 (v := 0) hx hb ht hown hK hP hD hS m_1156 dX12_sumUp_2 (fun H locs hP hD hS => ?_)
  refine lv_aload_n hx hb dX12_sumUp_5 rfl (lv_at hl 0 rfl) ?_
  refine lv_lconst (v := 0) hx hb dX12_sumUp_6 (by decide) ?_
  refine pM_12_18 (v := 0) hx hb ht hown hK hP hD hS m_1157 dX12_sumUp_7 (fun H locs hP hD hS => ?_)
  refine lv_aload_n hx hb dX12_sumUp_10 rfl (lv_at hl 0 rfl) ?_
  refine lv_iconst (v := 0) hx hb dX12_sumUp_11 (by decide) ?_
  refine pM_12_19 (v := 0) hx hb ht hown hK hP hD hS m_1158 dX12_sumUp_12 (fun H locs hP hD hS => ?_)
  refine lv_iconst (v := 0) hx hb dX12_sumUp_15 (by decide) ?_
  refine lv_istore (lv' := [(4, .int 0), (0, .ref h), (1, .int a), (2, .int b), (3, .int d)]) hx hb dX12_sumUp_16 hl (by decide) rfl (fun ls hl => ?_)
  have i_12_3 : 0 ≤ (iv 12 3).toInt ∧ (iv 12 3).toInt ≤ 60 := hI.1 12 3
  have lp508 : ∀ (nn508 : Nat) (x507_4 : Int32) (w507_i_12_19 : Int32) (w507_l_12_17 : Int64) (w507_l_12_18 : Int64), 0 ≤ x507_4.toInt ∧ x507_4.toInt ≤ 60 → 0 ≤ (w507_l_12_18 : Int64).toInt → (w507_l_12_18 : Int64).toInt ≤ 9999 * (x507_4 : Int32).toInt → 100 * (w507_i_12_19 : Int32).toInt ≤ (w507_l_12_18 : Int64).toInt → 0 ≤ (w507_i_12_19 : Int32).toInt → (w507_i_12_19 : Int32).toInt ≤ (x507_4 : Int32).toInt → (100 * ((cn1 (fa 12 4) (fa 12 5) (fa 12 11) (fa 12 12) a b d ((x507_4 : Int32).toInt).toNat : Nat) : Int) ≤ (w507_l_12_18 : Int64).toInt) → (x507_4 : Int32).toInt ≤ ((iv 12 3) : Int32).toInt → 60 - x507_4.toInt < (nn508 : Int) → ∀ (H : Heap) (locs : List Loc), ∀ (ls : Array Slot), va_P (dC, dI) classes (WM h g ca (u2 iv 12 19 w507_i_12_19) (u2 (u2 lv 12 17 w507_l_12_17) 12 18 w507_l_12_18) fa la) H → va_D A (WM h g ca (u2 iv 12 19 w507_i_12_19) (u2 (u2 lv 12 17 w507_l_12_17) 12 18 w507_l_12_18) fa la) → va_S A s.heap H locs → lv_has ls 6 [(4, .int x507_4), (0, .ref h), (1, .int a), (2, .int b), (3, .int d)] → W p l e ({ frames := 1, cells := 0, slots := 0, locals := 22 } : Room) s m ([.ref h, .int a, .int b, .int d] : List Value).toArray below meth c H locs 0 0 (MQ below (va_Qi (fun r (u : SS) => ∃ (ni_12_19 : Int32) (nl_12_17 : Int64) (nl_12_18 : Int64), (0 ≤ r.toInt) ∧ (r.toInt ≤ 60) ∧ (0 ≤ (nl_12_18).toInt) ∧ ((nl_12_18).toInt ≤ 599940) ∧ (100 * r.toInt ≤ (nl_12_18).toInt) ∧ (100 * ((cn1 (fa 12 4) (fa 12 5) (fa 12 11) (fa 12 12) a b d ((iv 12 3).toInt).toNat : Nat) : Int) ≤ (nl_12_18).toInt) ∧ (True) ∧ u = ((u2 iv 12 19 ni_12_19), (u2 (u2 lv 12 17 nl_12_17) 12 18 nl_12_18), fa, la)) (bM (dC, dI) h g ca A) A) ([.ref h, .int a, .int b, .int d] : List Value).toArray s 0 0 A) (F0 m 18 ls []) := by
    intro nn508
    induction nn508 with
    | zero => intro x507_4 w507_i_12_19 w507_l_12_17 w507_l_12_18 hx507_4 hq508_0 hq508_1 hq508_2 hq508_3 hq508_4 hq508_5 hq508_6 hm508; exfalso; omega
    | succ nn508 ih508 =>
      intro x507_4 w507_i_12_19 w507_l_12_17 w507_l_12_18 hx507_4 hq508_0 hq508_1 hq508_2 hq508_3 hq508_4 hq508_5 hq508_6 hm508 H locs ls hP hD hS hl
      refine lv_iload hx hb dX12_sumUp_18 (lv_at hl 0 rfl) ?_
      refine lv_aload_n hx hb dX12_sumUp_20 rfl (lv_at hl 1 rfl) ?_
      refine gM_12_3 hx hb ht hown hK hP m_1142 (v := (iv 12 3)) rfl dX12_sumUp_21 ?_
      refine lv_icmp_ge (tgt := 158) hx hb dX12_sumUp_24 (by decide) (fun c509 => ?_) (fun c509 => ?_)
      · have fc509 := z_le (rfl : ((iv 12 3)).toInt = _) (rfl : (x507_4).toInt = _) c509
        refine lv_aload_n hx hb dX12_sumUp_158 rfl (lv_at hl 1 rfl) ?_
        refine gM_12_19 hx hb ht hown hK hP m_1158 (v := w507_i_12_19) rfl dX12_sumUp_159 ?_
        have hP9 : va_P (dC, dI) classes (WM h g ca (u2 iv 12 19 w507_i_12_19) (u2 (u2 lv 12 17 w507_l_12_17) 12 18 w507_l_12_18) fa la) H := hP
        have hD9 : va_D A (WM h g ca (u2 iv 12 19 w507_i_12_19) (u2 (u2 lv 12 17 w507_l_12_17) 12 18 w507_l_12_18) fa la) := hD
        exact W.iret (v := w507_i_12_19) hx hb hr (fun t ht9 hW => ⟨⟨w507_i_12_19, ((u2 iv 12 19 w507_i_12_19), (u2 (u2 lv 12 17 w507_l_12_17) 12 18 w507_l_12_18), fa, la), rfl, ⟨w507_i_12_19, w507_l_12_17, w507_l_12_18, (show 0 ≤ (w507_i_12_19 : Int32).toInt from by omega), (show (w507_i_12_19 : Int32).toInt ≤ 60 from by omega), (show 0 ≤ (w507_l_12_18 : Int64).toInt from by omega), (show (w507_l_12_18 : Int64).toInt ≤ 599940 from by omega), (show 100 * (w507_i_12_19 : Int32).toInt ≤ (w507_l_12_18 : Int64).toInt from by omega), (show 100 * ((cn1 (fa 12 4) (fa 12 5) (fa 12 11) (fa 12 12) a b d (((iv 12 3) : Int32).toInt).toNat : Nat) : Int) ≤ (w507_l_12_18 : Int64).toInt from (by have hq9 := hq508_5; have he9 : (x507_4 : Int32).toInt = (iv 12 3).toInt := (by omega); rw [he9] at hq9; exact hq9)), trivial, rfl⟩, by rw [ht9]; exact hP9, hD9⟩, hS.F ht9⟩) hS.2.2 dX12_sumUp_162
      · have fc509 := z_nle (rfl : ((iv 12 3)).toInt = _) (rfl : (x507_4).toInt = _) c509
        refine lv_aload_n hx hb dX12_sumUp_27 rfl (lv_at hl 1 rfl) ?_
        refine gM_12_9 hx hb ht hown hK hP m_1148 dX12_sumUp_28 ?_
        refine lv_iload hx hb dX12_sumUp_31 (lv_at hl 0 rfl) ?_
        refine lM_12_9 hx hb hK hP (f := (fa 12 9)) rfl (vp_in_iff.mpr ⟨by omega, by omega⟩) dX12_sumUp_33 ?_
        refine lv_topi (fun v510 ev510 => ?_)
        have tv510 : 0 ≤ v510.toInt ∧ v510.toInt ≤ 3 := by rw [ev510]; exact hI.2 12 9 _
        refine lv_aload_n hx hb dX12_sumUp_34 rfl (lv_at hl 1 rfl) ?_
        refine gM_12_20 hx hb ht hown hK hP m_1159 (v := (iv 12 20)) rfl dX12_sumUp_35 ?_
        refine lv_icmp_eq (tgt := 64) hx hb dX12_sumUp_38 (by decide) (fun c511 => ?_) (fun c511 => ?_)
        · have fc511 := z_eq (rfl : (v510).toInt = _) (rfl : ((iv 12 20)).toInt = _) c511; exfalso; omega
        · skip
          refine lv_aload_n hx hb dX12_sumUp_41 rfl (lv_at hl 1 rfl) ?_
          refine gM_12_10 hx hb ht hown hK hP m_1149 dX12_sumUp_42 ?_
          refine lv_iload hx hb dX12_sumUp_45 (lv_at hl 0 rfl) ?_
          refine lM_12_10 hx hb hK hP (f := (fa 12 10)) rfl (vp_in_iff.mpr ⟨by omega, by omega⟩) dX12_sumUp_47 ?_
          refine lv_topi (fun v512 ev512 => ?_)
          have tv512 : 0 ≤ v512.toInt ∧ v512.toInt ≤ 7 := by rw [ev512]; exact hI.2 12 10 _
          refine lv_aload_n hx hb dX12_sumUp_48 rfl (lv_at hl 1 rfl) ?_
          refine gM_12_21 hx hb ht hown hK hP m_1160 (v := (iv 12 21)) rfl dX12_sumUp_49 ?_
          refine lv_icmp_eq (tgt := 64) hx hb dX12_sumUp_52 (by decide) (fun c513 => ?_) (fun c513 => ?_)
          · have fc513 := z_eq (rfl : (v512).toInt = _) (rfl : ((iv 12 21)).toInt = _) c513; exfalso; omega
          · skip
            refine lv_iload hx hb dX12_sumUp_55 (lv_at hl 0 rfl) ?_
            refine lv_aload_n hx hb dX12_sumUp_57 rfl (lv_at hl 1 rfl) ?_
            refine gM_12_22 hx hb ht hown hK hP m_1161 (v := (iv 12 22)) rfl dX12_sumUp_58 ?_
            refine lv_icmp_ne (tgt := 68) hx hb dX12_sumUp_61 (by decide) (fun c514 => ?_) (fun c514 => ?_)
            · skip
              refine lv_iconst (v := 0) hx hb dX12_sumUp_68 (by decide) ?_
              refine lv_istore (lv' := [(5, .int 0), (4, .int x507_4), (0, .ref h), (1, .int a), (2, .int b), (3, .int d)]) hx hb dX12_sumUp_69 hl (by decide) rfl (fun ls hl => ?_)
              refine lv_aload_n hx hb dX12_sumUp_71 rfl (lv_at hl 2 rfl) ?_
              refine gM_12_4 hx hb ht hown hK hP m_1143 dX12_sumUp_72 ?_
              refine lv_iload hx hb dX12_sumUp_75 (lv_at hl 1 rfl) ?_
              refine lM_12_4 hx hb hK hP (f := (fa 12 4)) rfl (vp_in_iff.mpr ⟨by omega, by omega⟩) dX12_sumUp_77 ?_
              refine lv_topi (fun v515 ev515 => ?_)
              refine lv_iload_n hx hb dX12_sumUp_78 rfl (lv_at hl 3 rfl) ?_
              refine lv_icmp_ne (tgt := 152) hx hb dX12_sumUp_79 (by decide) (fun c516 => ?_) (fun c516 => ?_)
              · have fc516 := z_ne (rfl : (v515).toInt = _) (rfl : (a).toInt = _) c516
                obtain ⟨v517, ev517⟩ : ∃ y : Int32, y = x507_4 + 1 := ⟨_, rfl⟩
                have tv517 := z_add ev517 rfl (by decide : (1 : Int32).toInt = 1) (by omega) (by omega)
                refine lv_iinc (v := v517) (lv' := [(4, .int v517), (5, .int 0), (0, .ref h), (1, .int a), (2, .int b), (3, .int d)]) hx hb dX12_sumUp_152 hl (k := 1) rfl (by rw [ev517]; rfl) (by decide) rfl (fun ls hl => ?_)
                refine lv_goto (tgt := 18) hx hb dX12_sumUp_155 (by decide) ?_
                exact ih508 v517 w507_i_12_19 w507_l_12_17 w507_l_12_18 ⟨by omega, by omega⟩ (show 0 ≤ (w507_l_12_18 : Int64).toInt from by omega) (show (w507_l_12_18 : Int64).toInt ≤ 9999 * (v517 : Int32).toInt from by omega) (show 100 * (w507_i_12_19 : Int32).toInt ≤ (w507_l_12_18 : Int64).toInt from by omega) (show 0 ≤ (w507_i_12_19 : Int32).toInt from by omega) (show (w507_i_12_19 : Int32).toInt ≤ (v517 : Int32).toInt from by omega) (show 100 * ((cn1 (fa 12 4) (fa 12 5) (fa 12 11) (fa 12 12) a b d ((v517 : Int32).toInt).toNat : Nat) : Int) ≤ (w507_l_12_18 : Int64).toInt from (by have hc := cn1_same (ob := fa 12 4) (ol := fa 12 5) (dy := fa 12 11) (lo := fa 12 12) (b := a) (l := b) (d := d) (s := x507_4) (s' := v517) (by omega) (by omega) (by have := congrArg Int32.toInt ev510; have := congrArg Int32.toInt ev512; have := congrArg Int32.toInt ev515; omega); have hq9 := hq508_5; omega)) (show (v517 : Int32).toInt ≤ ((iv 12 3) : Int32).toInt from by omega) (by omega) _ _ ls hP hD hS (lv_sub hl [0, 2, 3, 4, 5] rfl)
              · have fc516 := z_eq (rfl : (v515).toInt = _) (rfl : (a).toInt = _) c516
                refine lv_aload_n hx hb dX12_sumUp_82 rfl (lv_at hl 2 rfl) ?_
                refine gM_12_5 hx hb ht hown hK hP m_1144 dX12_sumUp_83 ?_
                refine lv_iload hx hb dX12_sumUp_86 (lv_at hl 1 rfl) ?_
                refine lM_12_5 hx hb hK hP (f := (fa 12 5)) rfl (vp_in_iff.mpr ⟨by omega, by omega⟩) dX12_sumUp_88 ?_
                refine lv_topi (fun v518 ev518 => ?_)
                refine lv_iload_n hx hb dX12_sumUp_89 rfl (lv_at hl 4 rfl) ?_
                refine lv_icmp_ne (tgt := 152) hx hb dX12_sumUp_90 (by decide) (fun c519 => ?_) (fun c519 => ?_)
                · have fc519 := z_ne (rfl : (v518).toInt = _) (rfl : (b).toInt = _) c519
                  obtain ⟨v520, ev520⟩ : ∃ y : Int32, y = x507_4 + 1 := ⟨_, rfl⟩
                  have tv520 := z_add ev520 rfl (by decide : (1 : Int32).toInt = 1) (by omega) (by omega)
                  refine lv_iinc (v := v520) (lv' := [(4, .int v520), (5, .int 0), (0, .ref h), (1, .int a), (2, .int b), (3, .int d)]) hx hb dX12_sumUp_152 hl (k := 1) rfl (by rw [ev520]; rfl) (by decide) rfl (fun ls hl => ?_)
                  refine lv_goto (tgt := 18) hx hb dX12_sumUp_155 (by decide) ?_
                  exact ih508 v520 w507_i_12_19 w507_l_12_17 w507_l_12_18 ⟨by omega, by omega⟩ (show 0 ≤ (w507_l_12_18 : Int64).toInt from by omega) (show (w507_l_12_18 : Int64).toInt ≤ 9999 * (v520 : Int32).toInt from by omega) (show 100 * (w507_i_12_19 : Int32).toInt ≤ (w507_l_12_18 : Int64).toInt from by omega) (show 0 ≤ (w507_i_12_19 : Int32).toInt from by omega) (show (w507_i_12_19 : Int32).toInt ≤ (v520 : Int32).toInt from by omega) (show 100 * ((cn1 (fa 12 4) (fa 12 5) (fa 12 11) (fa 12 12) a b d ((v520 : Int32).toInt).toNat : Nat) : Int) ≤ (w507_l_12_18 : Int64).toInt from (by have hc := cn1_same (ob := fa 12 4) (ol := fa 12 5) (dy := fa 12 11) (lo := fa 12 12) (b := a) (l := b) (d := d) (s := x507_4) (s' := v520) (by omega) (by omega) (by have := congrArg Int32.toInt ev510; have := congrArg Int32.toInt ev512; have := congrArg Int32.toInt ev515; have := congrArg Int32.toInt ev518; omega); have hq9 := hq508_5; omega)) (show (v520 : Int32).toInt ≤ ((iv 12 3) : Int32).toInt from by omega) (by omega) _ _ ls hP hD hS (lv_sub hl [0, 2, 3, 4, 5] rfl)
                · have fc519 := z_eq (rfl : (v518).toInt = _) (rfl : (b).toInt = _) c519
                  refine lv_aload_n hx hb dX12_sumUp_93 rfl (lv_at hl 2 rfl) ?_
                  refine lv_iload hx hb dX12_sumUp_94 (lv_at hl 1 rfl) ?_
                  refine lv_iload_n hx hb dX12_sumUp_96 rfl (lv_at hl 5 rfl) ?_
                  refine vp_callSi (W.runV (As := [.int x507_4, .int d]) (rest := []) ⟨hx, hb, hml, hown, ht⟩ (c_X12_isThere_x l dC dI h g ca (u2 iv 12 19 w507_i_12_19) (u2 (u2 lv 12 17 w507_l_12_17) 12 18 w507_l_12_18) fa la (IX_i (c := 12) (k := 19) hI (full_i _)) x507_4 d ⟨by omega, by omega⟩) (kV 2 ht m_1438 m_1440 m_46 m_89 m_1441 rfl rfl hd_X12_isThere_v ⟨Nat.le_of_ble_eq_true rfl, Nat.le_of_ble_eq_true rfl⟩) (vR hP hK (rM_12 hK hP)) rfl rfl hl.1 rfl (lv_room (Nat.le_of_ble_eq_true rfl)) dX12_sumUp_97 ⟨Nat.le_of_ble_eq_true rfl, Nat.le_of_ble_eq_true rfl⟩) (fun r521 hr521 => ?_)
                  obtain ⟨hr521, xr521_0⟩ := hr521
                  have xr521_0 : (((r521 : Int32).toInt = 1 ∧ ((fa 12 11) (x507_4 : Int32).toNatClampNeg).toInt ≤ (d : Int32).toInt ∧ (((fa 12 12) (x507_4 : Int32).toNatClampNeg).toInt < 0 ∨ (d : Int32).toInt < ((fa 12 12) (x507_4 : Int32).toNatClampNeg).toInt)) ∨ ((r521 : Int32).toInt = 0 ∧ ¬ (((fa 12 11) (x507_4 : Int32).toNatClampNeg).toInt ≤ (d : Int32).toInt ∧ (((fa 12 12) (x507_4 : Int32).toNatClampNeg).toInt < 0 ∨ (d : Int32).toInt < ((fa 12 12) (x507_4 : Int32).toNatClampNeg).toInt)))) := xr521_0
                  refine lv_if_eq (tgt := 152) hx hb dX12_sumUp_100 (by decide) (fun c522 => ?_) (fun c522 => ?_)
                  · have fc522 := z_eq (rfl : (r521).toInt = _) (by decide : (0 : Int32).toInt = 0) c522
                    obtain ⟨v523, ev523⟩ : ∃ y : Int32, y = x507_4 + 1 := ⟨_, rfl⟩
                    have tv523 := z_add ev523 rfl (by decide : (1 : Int32).toInt = 1) (by omega) (by omega)
                    refine lv_iinc (v := v523) (lv' := [(4, .int v523), (5, .int 0), (0, .ref h), (1, .int a), (2, .int b), (3, .int d)]) hx hb dX12_sumUp_152 hl (k := 1) rfl (by rw [ev523]; rfl) (by decide) rfl (fun ls hl => ?_)
                    refine lv_goto (tgt := 18) hx hb dX12_sumUp_155 (by decide) ?_
                    exact ih508 v523 w507_i_12_19 w507_l_12_17 w507_l_12_18 ⟨by omega, by omega⟩ (show 0 ≤ (w507_l_12_18 : Int64).toInt from by omega) (show (w507_l_12_18 : Int64).toInt ≤ 9999 * (v523 : Int32).toInt from by omega) (show 100 * (w507_i_12_19 : Int32).toInt ≤ (w507_l_12_18 : Int64).toInt from by omega) (show 0 ≤ (w507_i_12_19 : Int32).toInt from by omega) (show (w507_i_12_19 : Int32).toInt ≤ (v523 : Int32).toInt from by omega) (show 100 * ((cn1 (fa 12 4) (fa 12 5) (fa 12 11) (fa 12 12) a b d ((v523 : Int32).toInt).toNat : Nat) : Int) ≤ (w507_l_12_18 : Int64).toInt from (by have hc := cn1_same (ob := fa 12 4) (ol := fa 12 5) (dy := fa 12 11) (lo := fa 12 12) (b := a) (l := b) (d := d) (s := x507_4) (s' := v523) (by omega) (by omega) (by have := congrArg Int32.toInt ev510; have := congrArg Int32.toInt ev512; have := congrArg Int32.toInt ev515; have := congrArg Int32.toInt ev518; omega); have hq9 := hq508_5; omega)) (show (v523 : Int32).toInt ≤ ((iv 12 3) : Int32).toInt from by omega) (by omega) _ _ ls hP hD hS (lv_sub hl [0, 2, 3, 4, 5] rfl)
                  · have fc522 := z_ne (rfl : (r521).toInt = _) (by decide : (0 : Int32).toInt = 0) c522
                    refine lv_iload hx hb dX12_sumUp_103 (lv_at hl 0 rfl) ?_
                    refine lv_if_ne (tgt := 152) hx hb dX12_sumUp_105 (by decide) (fun c524 => ?_) (fun c524 => ?_)
                    · exact absurd rfl c524
                    · skip
                      refine lv_aload_n hx hb dX12_sumUp_108 rfl (lv_at hl 2 rfl) ?_
                      refine lv_dup hx hb dX12_sumUp_109 rfl ?_
                      refine gM_12_17 hx hb ht hown hK hP m_1156 (v := w507_l_12_17) rfl dX12_sumUp_110 ?_
                      refine lv_aload_n hx hb dX12_sumUp_113 rfl (lv_at hl 2 rfl) ?_
                      refine gM_12_8 hx hb ht hown hK hP m_1147 dX12_sumUp_114 ?_
                      refine lv_iload hx hb dX12_sumUp_117 (lv_at hl 1 rfl) ?_
                      refine lM_12_8 hx hb hK hP (f := (fa 12 8)) rfl (vp_in_iff.mpr ⟨by omega, by omega⟩) dX12_sumUp_119 ?_
                      refine lv_topi (fun v525 ev525 => ?_)
                      refine lv_i2l (v := (v525.toInt64)) hx hb dX12_sumUp_120 rfl ?_
                      refine lv_ladd hx hb dX12_sumUp_121 ?_
                      refine lv_topl (fun w526 ew526 => ?_)
                      refine pM_12_17 (v := w526) hx hb ht hown hK hP hD hS m_1156 dX12_sumUp_122 (fun H locs hP hD hS => ?_)
                      have hP : va_P (dC, dI) classes (WM h g ca (u2 iv 12 19 w507_i_12_19) (u2 (u2 lv 12 17 w526) 12 18 w507_l_12_18) fa la) H := hP
                      have hD : va_D A (WM h g ca (u2 iv 12 19 w507_i_12_19) (u2 (u2 lv 12 17 w526) 12 18 w507_l_12_18) fa la) := hD
                      refine lv_aload_n hx hb dX12_sumUp_125 rfl (lv_at hl 2 rfl) ?_
                      refine lv_dup hx hb dX12_sumUp_126 rfl ?_
                      refine gM_12_18 hx hb ht hown hK hP m_1157 (v := w507_l_12_18) rfl dX12_sumUp_127 ?_
                      refine lv_aload_n hx hb dX12_sumUp_130 rfl (lv_at hl 2 rfl) ?_
                      refine gM_12_7 hx hb ht hown hK hP m_1146 dX12_sumUp_131 ?_
                      refine lv_iload hx hb dX12_sumUp_134 (lv_at hl 1 rfl) ?_
                      refine lM_12_7 hx hb hK hP (f := (fa 12 7)) rfl (vp_in_iff.mpr ⟨by omega, by omega⟩) dX12_sumUp_136 ?_
                      refine lv_topi (fun v527 ev527 => ?_)
                      have tv527 : 0 ≤ v527.toInt ∧ v527.toInt ≤ 9999 := by rw [ev527]; exact hI.2 12 7 _
                      have hr9 := hJR (x507_4 : Int32).toNatClampNeg (by show (((x507_4 : Int32).toInt.toNat : Nat) : Int) < _; omega)
                      rw [← ev527] at hr9
                      refine lv_i2l (v := (v527.toInt64)) hx hb dX12_sumUp_137 rfl ?_
                      have : 0 ≤ (w507_l_12_18 : Int64).toInt ∧ (w507_l_12_18 : Int64).toInt ≤ 599940 := ⟨by omega, by omega⟩
                      refine lv_ladd hx hb dX12_sumUp_138 ?_
                      refine lv_topl (fun w528 ew528 => ?_)
                      have tw528 := l_add ew528 (rfl : (w507_l_12_18).toInt = _) ((Int32.toInt_toInt64 v527).trans rfl) (by omega) (by omega)
                      refine pM_12_18 (v := w528) hx hb ht hown hK hP hD hS m_1157 dX12_sumUp_139 (fun H locs hP hD hS => ?_)
                      have hP : va_P (dC, dI) classes (WM h g ca (u2 iv 12 19 w507_i_12_19) (u2 (u2 lv 12 17 w526) 12 18 w528) fa la) H := hP
                      have hD : va_D A (WM h g ca (u2 iv 12 19 w507_i_12_19) (u2 (u2 lv 12 17 w526) 12 18 w528) fa la) := hD
                      refine lv_aload_n hx hb dX12_sumUp_142 rfl (lv_at hl 2 rfl) ?_
                      refine lv_dup hx hb dX12_sumUp_143 rfl ?_
                      refine gM_12_19 hx hb ht hown hK hP m_1158 (v := w507_i_12_19) rfl dX12_sumUp_144 ?_
                      refine lv_iconst (v := 1) hx hb dX12_sumUp_147 (by decide) ?_
                      have : 0 ≤ (w507_i_12_19 : Int32).toInt ∧ (w507_i_12_19 : Int32).toInt ≤ 59 := ⟨by omega, by omega⟩
                      refine lv_iadd hx hb dX12_sumUp_148 ?_
                      refine lv_topi (fun v529 ev529 => ?_)
                      have tv529 := z_add ev529 (rfl : (w507_i_12_19).toInt = _) (by decide : (1 : Int32).toInt = 1) (by omega) (by omega)
                      refine pM_12_19 (v := v529) hx hb ht hown hK hP hD hS m_1158 dX12_sumUp_149 (fun H locs hP hD hS => ?_)
                      have hP : va_P (dC, dI) classes (WM h g ca (u2 iv 12 19 v529) (u2 (u2 lv 12 17 w526) 12 18 w528) fa la) H := hP
                      have hD : va_D A (WM h g ca (u2 iv 12 19 v529) (u2 (u2 lv 12 17 w526) 12 18 w528) fa la) := hD
                      obtain ⟨v530, ev530⟩ : ∃ y : Int32, y = x507_4 + 1 := ⟨_, rfl⟩
                      have tv530 := z_add ev530 rfl (by decide : (1 : Int32).toInt = 1) (by omega) (by omega)
                      refine lv_iinc (v := v530) (lv' := [(4, .int v530), (5, .int 0), (0, .ref h), (1, .int a), (2, .int b), (3, .int d)]) hx hb dX12_sumUp_152 hl (k := 1) rfl (by rw [ev530]; rfl) (by decide) rfl (fun ls hl => ?_)
                      refine lv_goto (tgt := 18) hx hb dX12_sumUp_155 (by decide) ?_
                      exact ih508 v530 v529 w526 w528 ⟨by omega, by omega⟩ (show 0 ≤ (w528 : Int64).toInt from by omega) (show (w528 : Int64).toInt ≤ 9999 * (v530 : Int32).toInt from by omega) (show 100 * (v529 : Int32).toInt ≤ (w528 : Int64).toInt from by omega) (show 0 ≤ (v529 : Int32).toInt from by omega) (show (v529 : Int32).toInt ≤ (v530 : Int32).toInt from by omega) (show 100 * ((cn1 (fa 12 4) (fa 12 5) (fa 12 11) (fa 12 12) a b d ((v530 : Int32).toInt).toNat : Nat) : Int) ≤ (w528 : Int64).toInt from (by have hc := (cn1_up (ob := fa 12 4) (ol := fa 12 5) (dy := fa 12 11) (lo := fa 12 12) (b := a) (l := b) (d := d) (s := x507_4) (s' := v530) (by omega) (by omega)).2; have hq9 := hq508_5; omega)) (show (v530 : Int32).toInt ≤ ((iv 12 3) : Int32).toInt from by omega) (by omega) _ _ ls hP hD hS (lv_sub hl [0, 2, 3, 4, 5] rfl)
            · have fc514 := z_eq (rfl : (x507_4).toInt = _) (rfl : ((iv 12 22)).toInt = _) c514; exfalso; omega
  have : (0 : Int32).toInt = 0 := (by decide)
  have : (0 : Int64).toInt = 0 := (by decide)
  have i_12_3 : 0 ≤ (iv 12 3).toInt ∧ (iv 12 3).toInt ≤ 60 := hI.1 12 3
  exact lp508 61 0 0 0 0 ⟨by decide, by decide⟩ (show 0 ≤ (0 : Int64).toInt from by omega) (show (0 : Int64).toInt ≤ 9999 * (0 : Int32).toInt from by omega) (show 100 * (0 : Int32).toInt ≤ (0 : Int64).toInt from by omega) (show 0 ≤ (0 : Int32).toInt from by omega) (show (0 : Int32).toInt ≤ (0 : Int32).toInt from by omega) (show 100 * ((cn1 (fa 12 4) (fa 12 5) (fa 12 11) (fa 12 12) a b d ((0 : Int32).toInt).toNat : Nat) : Int) ≤ (0 : Int64).toInt from by show 100 * ((0 : Nat) : Int) ≤ _; omega) (show (0 : Int32).toInt ≤ ((iv 12 3) : Int32).toInt from by omega) (by first | decide | omega) _ _ ls hP hD hS (lv_sub hl [0, 1, 2, 3, 4] rfl)
set_option maxHeartbeats 4000000 in
set_option maxRecDepth 100000 in
/-- X12_doLooksPart -/
theorem c_X12_doLooksPart_x (l : Launch) (dC : Nat → ClassId) (dI : Nat → Nat → Nat) (sz : Nat) (h : Nat) (g : Nat → Nat → Nat) (ca : Nat → Nat → ClassId) (iv : Nat → Nat → Int32) (lv : Nat → Nat → Int64) (fa : Nat → Nat → Nat → Int32) (la : Nat → Nat → Nat → Int64) (hI : IX iv fa) (a : Int32) (b : Int32) (hJR : JRf (iv 12 3).toInt (fa 12 7)) : Met l yX12_doLooksPart (wc yX12_doLooksPart cX12_doLooksPart 9 (some .boolean)) ({ frames := 2, cells := 0, slots := 0, locals := 49 } : Room) (pW (dC, dI) classes (WM h g ca iv lv fa la) (TM ca) sz [.ref h, .int a, .int b]) (va_Qi (fun r (u : SS) => ∃ (ni_12_19 : Int32) (nl_12_17 : Int64) (nl_12_18 : Int64), (0 ≤ r.toInt ∧ r.toInt ≤ 1) ∧ u = ((u2 iv 12 19 ni_12_19), (u2 (u2 lv 12 17 nl_12_17) 12 18 nl_12_18), fa, la)) (bM (dC, dI) h g ca (va_A (WM h g ca iv lv fa la) sz)) (va_A (WM h g ca iv lv fa la) sz)) 0 0 (va_A (WM h g ca iv lv fa la) sz) := by
  refine Met.ofW (cc := cX12_doLooksPart) (maxL := 9) (ret := (some .boolean)) (by decide) rfl ?_
  intro p e s m args below meth c s₁ B hml hv
  obtain ⟨rfl, hsz, hP, hK, hD0⟩ := hv
  have hx := B.exec
  have hb := B.bytes
  have hr := B.returns
  have ht := tb_tl (atoms_spec (ws := wc yX12_doLooksPart cX12_doLooksPart 9 (some .boolean)) B.pre)
  have hown : s.vm.findClass RX12 = some m.cls := findClass_of_methodNamed B.named
  have hlocks := B.notSynchronized
  subst hsz
  have hD := hD0.self (sz := s.heap.size)
  generalize hAe : va_A (WM h g ca iv lv fa la) s.heap.size = A at hD ⊢
  have hA : ∀ q : Nat, s.heap.size ≤ q → A q := fun q h => by rw [← hAe]; exact Or.inr h
  have hS : va_S A s.heap s.heap [] := va_S.rf
  have hl := lv_entry [.ref h, .int a, .int b] (n := 9) (Nat.le_of_ble_eq_true rfl)
  rw [lg_entry_eq]
  generalize (lg_sl [.ref h, .int a, .int b] ++ List.replicate (9 - (lg_sl [.ref h, .int a, .int b]).length) Slot.unset).toArray = ls at hl ⊢
  have hl : lv_has ls 9 [(0, .ref h), (1, .int a), (2, .int b)] := hl
  refine lv_aload_n hx hb dX12_doLooksPart_0 rfl (lv_at hl 0 rfl) ?_
  refine lv_iload_n hx hb dX12_doLooksPart_1 rfl (lv_at hl 1 rfl) ?_
  refine lv_iconst (v := 0) hx hb dX12_doLooksPart_2 (by decide) ?_
  refine lv_aload_n hx hb dX12_doLooksPart_3 rfl (lv_at hl 0 rfl) ?_
  have i_12_0 : 0 ≤ (iv 12 0).toInt ∧ (iv 12 0).toInt ≤ 3000 := hI.1 12 0
  refine gM_12_0 hx hb ht hown hK hP m_1139 (v := (iv 12 0)) rfl dX12_doLooksPart_4 ?_
  have hFc := free_all hD hS hA
  refine va_calli (va_runV (As := [.int a, .int 0, .int (iv 12 0)]) (rest := []) ⟨hx, hb, hml, hown, ht⟩ (c_X12_sumUp_x l dC dI s.heap.size h g ca iv lv fa la hI a 0 (iv 12 0) hJR) (kV 3 ht m_1434 m_1436 m_45 m_89 m_1437 rfl rfl hd_X12_sumUp_v ⟨Nat.le_of_ble_eq_true rfl, Nat.le_of_ble_eq_true rfl⟩) (vW hP hK hD (rM_12 hK hP)) rfl rfl hl.1 rfl (lv_room (Nat.le_of_ble_eq_true rfl)) dX12_doLooksPart_7 ⟨Nat.le_of_ble_eq_true rfl, Nat.le_of_ble_eq_true rfl⟩) hS (fun q _ h => hFc q h) hFc (fun r1 u t H1 locs ht9 hvm hr1 hB hz1 hk1 hS => ?_)
  obtain ⟨n2, n3, n4, xr1_0, xr1_1, xr1_2, xr1_3, xr1_4, hr1, rfl⟩ := hr1
  obtain ⟨hP, hD⟩ := hB
  rw [ht9] at hP
  generalize H1 = H at hP hS ⊢
  have hP : va_P (dC, dI) classes (WM h g ca (u2 iv 12 19 n2) (u2 (u2 lv 12 17 n3) 12 18 n4) fa la) H := hP
  have hD : va_D A (WM h g ca (u2 iv 12 19 n2) (u2 (u2 lv 12 17 n3) 12 18 n4) fa la) := (show va_D _ (WM h g ca (u2 iv 12 19 n2) (u2 (u2 lv 12 17 n3) 12 18 n4) fa la) from hD).weaken (fun _ _ _ h => hFc _ h)
  have xr1_0 : 0 ≤ (r1 : Int32).toInt := xr1_0
  have xr1_1 : (r1 : Int32).toInt ≤ 60 := xr1_1
  have xr1_2 : 0 ≤ (n4 : Int64).toInt := xr1_2
  have xr1_3 : (n4 : Int64).toInt ≤ 599940 := xr1_3
  have xr1_4 : 100 * (r1 : Int32).toInt ≤ (n4 : Int64).toInt := xr1_4
  refine lv_istore_n (lv' := [(3, .int r1), (0, .ref h), (1, .int a), (2, .int b)]) hx hb dX12_doLooksPart_10 rfl hl (by decide) rfl (fun ls hl => ?_)
  refine lv_aload_n hx hb dX12_doLooksPart_11 rfl (lv_at hl 1 rfl) ?_
  refine gM_12_17 hx hb ht hown hK hP m_1156 (v := n3) rfl dX12_doLooksPart_12 ?_
  refine lv_lstore (lv' := [(4, .long n3), (3, .int r1), (0, .ref h), (1, .int a), (2, .int b)]) hx hb dX12_doLooksPart_15 hl (by decide) rfl (fun ls hl => ?_)
  refine lv_aload_n hx hb dX12_doLooksPart_17 rfl (lv_at hl 2 rfl) ?_
  refine gM_12_18 hx hb ht hown hK hP m_1157 (v := n4) rfl dX12_doLooksPart_18 ?_
  refine lv_lstore (lv' := [(6, .long n4), (4, .long n3), (3, .int r1), (0, .ref h), (1, .int a), (2, .int b)]) hx hb dX12_doLooksPart_21 hl (by decide) rfl (fun ls hl => ?_)
  refine lv_aload_n hx hb dX12_doLooksPart_23 rfl (lv_at hl 3 rfl) ?_
  refine lv_iload_n hx hb dX12_doLooksPart_24 rfl (lv_at hl 4 rfl) ?_
  refine lv_iconst (v := 1) hx hb dX12_doLooksPart_25 (by decide) ?_
  refine lv_aload_n hx hb dX12_doLooksPart_26 rfl (lv_at hl 3 rfl) ?_
  refine gM_12_0 hx hb ht hown hK hP m_1139 (v := (iv 12 0)) rfl dX12_doLooksPart_27 ?_
  have hFc := free_all hD hS hA
  refine va_calli (va_runV (As := [.int a, .int 1, .int (iv 12 0)]) (rest := []) ⟨hx, hb, hml, hown, ht⟩ (c_X12_sumUp_x l dC dI H.size h g ca (u2 iv 12 19 n2) (u2 (u2 lv 12 17 n3) 12 18 n4) fa la (IX_i (c := 12) (k := 19) hI (full_i _)) a 1 (iv 12 0) hJR) (kV 3 ht m_1434 m_1436 m_45 m_89 m_1437 rfl rfl hd_X12_sumUp_v ⟨Nat.le_of_ble_eq_true rfl, Nat.le_of_ble_eq_true rfl⟩) (vW hP hK hD (rM_12 hK hP)) rfl rfl hl.1 rfl (lv_room (Nat.le_of_ble_eq_true rfl)) dX12_doLooksPart_30 ⟨Nat.le_of_ble_eq_true rfl, Nat.le_of_ble_eq_true rfl⟩) hS (fun q _ h => hFc q h) hFc (fun r5 u t H1 locs ht9 hvm hr5 hB hz1 hk1 hS => ?_)
  obtain ⟨n6, n7, n8, xr5_0, xr5_1, xr5_2, xr5_3, xr5_4, hr5, rfl⟩ := hr5
  obtain ⟨hP, hD⟩ := hB
  rw [ht9] at hP
  generalize H1 = H at hP hS ⊢
  have hP : va_P (dC, dI) classes (WM h g ca (u2 iv 12 19 n6) (u2 (u2 lv 12 17 n7) 12 18 n8) fa la) H := hP
  have hD : va_D A (WM h g ca (u2 iv 12 19 n6) (u2 (u2 lv 12 17 n7) 12 18 n8) fa la) := (show va_D _ (WM h g ca (u2 iv 12 19 n6) (u2 (u2 lv 12 17 n7) 12 18 n8) fa la) from hD).weaken (fun _ _ _ h => hFc _ h)
  have xr5_0 : 0 ≤ (r5 : Int32).toInt := xr5_0
  have xr5_1 : (r5 : Int32).toInt ≤ 60 := xr5_1
  have xr5_2 : 0 ≤ (n8 : Int64).toInt := xr5_2
  have xr5_3 : (n8 : Int64).toInt ≤ 599940 := xr5_3
  have xr5_4 : 100 * (r5 : Int32).toInt ≤ (n8 : Int64).toInt := xr5_4
  refine lv_istore (lv' := [(8, .int r5), (6, .long n4), (4, .long n3), (3, .int r1), (0, .ref h), (1, .int a), (2, .int b)]) hx hb dX12_doLooksPart_33 hl (by decide) rfl (fun ls hl => ?_)
  refine lv_iload_n hx hb dX12_doLooksPart_35 rfl (lv_at hl 3 rfl) ?_
  refine lv_if_le (tgt := 67) hx hb dX12_doLooksPart_36 (by decide) (fun c9 => ?_) (fun c9 => ?_)
  · have fc9 := z_le (rfl : (r1).toInt = _) (by decide : (0 : Int32).toInt = 0) c9
    refine lv_iconst (v := 0) hx hb dX12_doLooksPart_67 (by decide) ?_
    have hP9 : va_P (dC, dI) classes (WM h g ca (u2 iv 12 19 n6) (u2 (u2 lv 12 17 n7) 12 18 n8) fa la) H := hP
    have hD9 : va_D A (WM h g ca (u2 iv 12 19 n6) (u2 (u2 lv 12 17 n7) 12 18 n8) fa la) := hD
    exact W.zret (v := 0) hx hb hr rfl (fun t ht9 hW => ⟨⟨0, ((u2 iv 12 19 n6), (u2 (u2 lv 12 17 n7) 12 18 n8), fa, la), rfl, ⟨n6, n7, n8, ⟨by decide, by decide⟩, rfl⟩, by rw [ht9]; exact hP9, hD9⟩, hS.F ht9⟩) hS.2.2 dX12_doLooksPart_68
  · have fc9 := z_nle (rfl : (r1).toInt = _) (by decide : (0 : Int32).toInt = 0) c9
    refine lv_iload hx hb dX12_doLooksPart_39 (lv_at hl 0 rfl) ?_
    refine lv_if_le (tgt := 67) hx hb dX12_doLooksPart_41 (by decide) (fun c10 => ?_) (fun c10 => ?_)
    · have fc10 := z_le (rfl : (r5).toInt = _) (by decide : (0 : Int32).toInt = 0) c10
      refine lv_iconst (v := 0) hx hb dX12_doLooksPart_67 (by decide) ?_
      have hP9 : va_P (dC, dI) classes (WM h g ca (u2 iv 12 19 n6) (u2 (u2 lv 12 17 n7) 12 18 n8) fa la) H := hP
      have hD9 : va_D A (WM h g ca (u2 iv 12 19 n6) (u2 (u2 lv 12 17 n7) 12 18 n8) fa la) := hD
      exact W.zret (v := 0) hx hb hr rfl (fun t ht9 hW => ⟨⟨0, ((u2 iv 12 19 n6), (u2 (u2 lv 12 17 n7) 12 18 n8), fa, la), rfl, ⟨n6, n7, n8, ⟨by decide, by decide⟩, rfl⟩, by rw [ht9]; exact hP9, hD9⟩, hS.F ht9⟩) hS.2.2 dX12_doLooksPart_68
    · have fc10 := z_nle (rfl : (r5).toInt = _) (by decide : (0 : Int32).toInt = 0) c10
      refine lv_lload hx hb dX12_doLooksPart_44 (lv_at hl 2 rfl) ?_
      refine lv_lload hx hb dX12_doLooksPart_46 (lv_at hl 1 rfl) ?_
      refine lv_aload_n hx hb dX12_doLooksPart_48 rfl (lv_at hl 4 rfl) ?_
      refine gM_12_17 hx hb ht hown hK hP m_1156 (v := n7) rfl dX12_doLooksPart_49 ?_
      refine lv_aload_n hx hb dX12_doLooksPart_52 rfl (lv_at hl 4 rfl) ?_
      refine gM_12_18 hx hb ht hown hK hP m_1157 (v := n8) rfl dX12_doLooksPart_53 ?_
      refine lv_iload_n hx hb dX12_doLooksPart_56 rfl (lv_at hl 6 rfl) ?_
      refine vp_callSi (W.runS (As := [.long n3, .long n4, .long n7, .long n8, .int b]) (rest := []) ⟨hx, hb, hml, hown, ht⟩ (c_X12_doPart l dC dI n3 n4 n7 n8 b) (kS 5 ht m_1540 m_1541 m_89 m_1542 rfl rfl hd_X12_doPart_v ⟨Nat.le_of_ble_eq_true rfl, Nat.le_of_ble_eq_true rfl⟩) (sR noP (hK.sub (tys' := []) [] rfl)) rfl rfl hl.1 rfl (lv_room (Nat.le_of_ble_eq_true rfl)) dX12_doLooksPart_57 ⟨Nat.le_of_ble_eq_true rfl, Nat.le_of_ble_eq_true rfl⟩) (fun r11 hr11 => ?_)
      refine lv_if_eq (tgt := 67) hx hb dX12_doLooksPart_60 (by decide) (fun c12 => ?_) (fun c12 => ?_)
      · have fc12 := z_eq (rfl : (r11).toInt = _) (by decide : (0 : Int32).toInt = 0) c12
        refine lv_iconst (v := 0) hx hb dX12_doLooksPart_67 (by decide) ?_
        have hP9 : va_P (dC, dI) classes (WM h g ca (u2 iv 12 19 n6) (u2 (u2 lv 12 17 n7) 12 18 n8) fa la) H := hP
        have hD9 : va_D A (WM h g ca (u2 iv 12 19 n6) (u2 (u2 lv 12 17 n7) 12 18 n8) fa la) := hD
        exact W.zret (v := 0) hx hb hr rfl (fun t ht9 hW => ⟨⟨0, ((u2 iv 12 19 n6), (u2 (u2 lv 12 17 n7) 12 18 n8), fa, la), rfl, ⟨n6, n7, n8, ⟨by decide, by decide⟩, rfl⟩, by rw [ht9]; exact hP9, hD9⟩, hS.F ht9⟩) hS.2.2 dX12_doLooksPart_68
      · have fc12 := z_ne (rfl : (r11).toInt = _) (by decide : (0 : Int32).toInt = 0) c12
        refine lv_iconst (v := 1) hx hb dX12_doLooksPart_63 (by decide) ?_
        refine lv_goto (tgt := 68) hx hb dX12_doLooksPart_64 (by decide) ?_
        have hP9 : va_P (dC, dI) classes (WM h g ca (u2 iv 12 19 n6) (u2 (u2 lv 12 17 n7) 12 18 n8) fa la) H := hP
        have hD9 : va_D A (WM h g ca (u2 iv 12 19 n6) (u2 (u2 lv 12 17 n7) 12 18 n8) fa la) := hD
        exact W.zret (v := 1) hx hb hr rfl (fun t ht9 hW => ⟨⟨1, ((u2 iv 12 19 n6), (u2 (u2 lv 12 17 n7) 12 18 n8), fa, la), rfl, ⟨n6, n7, n8, ⟨by decide, by decide⟩, rfl⟩, by rw [ht9]; exact hP9, hD9⟩, hS.F ht9⟩) hS.2.2 dX12_doLooksPart_68
set_option maxHeartbeats 4000000 in
set_option maxRecDepth 100000 in
/-- X12_haveBoth -/
theorem c_X12_haveBoth_x (l : Launch) (dC : Nat → ClassId) (dI : Nat → Nat → Nat) (sz : Nat) (h : Nat) (g : Nat → Nat → Nat) (ca : Nat → Nat → ClassId) (iv : Nat → Nat → Int32) (lv : Nat → Nat → Int64) (fa : Nat → Nat → Nat → Int32) (la : Nat → Nat → Nat → Int64) (hI : IX iv fa) (a : Int32) (hJR : JRf (iv 12 3).toInt (fa 12 7)) : Met l yX12_haveBoth (wc yX12_haveBoth cX12_haveBoth 2 (some .boolean)) ({ frames := 2, cells := 0, slots := 0, locals := 47 } : Room) (pW (dC, dI) classes (WM h g ca iv lv fa la) (TM ca) sz [.ref h, .int a]) (va_Qi (fun r (u : SS) => ∃ (ni_12_19 : Int32) (nl_12_17 : Int64) (nl_12_18 : Int64), (0 ≤ r.toInt ∧ r.toInt ≤ 1) ∧ u = ((u2 iv 12 19 ni_12_19), (u2 (u2 lv 12 17 nl_12_17) 12 18 nl_12_18), fa, la)) (bM (dC, dI) h g ca (va_A (WM h g ca iv lv fa la) sz)) (va_A (WM h g ca iv lv fa la) sz)) 0 0 (va_A (WM h g ca iv lv fa la) sz) := by
  refine Met.ofW (cc := cX12_haveBoth) (maxL := 2) (ret := (some .boolean)) (by decide) rfl ?_
  intro p e s m args below meth c s₁ B hml hv
  obtain ⟨rfl, hsz, hP, hK, hD0⟩ := hv
  have hx := B.exec
  have hb := B.bytes
  have hr := B.returns
  have ht := tb_tl (atoms_spec (ws := wc yX12_haveBoth cX12_haveBoth 2 (some .boolean)) B.pre)
  have hown : s.vm.findClass RX12 = some m.cls := findClass_of_methodNamed B.named
  have hlocks := B.notSynchronized
  subst hsz
  have hD := hD0.self (sz := s.heap.size)
  generalize hAe : va_A (WM h g ca iv lv fa la) s.heap.size = A at hD ⊢
  have hA : ∀ q : Nat, s.heap.size ≤ q → A q := fun q h => by rw [← hAe]; exact Or.inr h
  have hS : va_S A s.heap s.heap [] := va_S.rf
  have hl := lv_entry [.ref h, .int a] (n := 2) (Nat.le_of_ble_eq_true rfl)
  rw [lg_entry_eq]
  generalize (lg_sl [.ref h, .int a] ++ List.replicate (2 - (lg_sl [.ref h, .int a]).length) Slot.unset).toArray = ls at hl ⊢
  have hl : lv_has ls 2 [(0, .ref h), (1, .int a)] := hl
  refine lv_aload_n hx hb dX12_haveBoth_0 rfl (lv_at hl 0 rfl) ?_
  refine lv_iload_n hx hb dX12_haveBoth_1 rfl (lv_at hl 1 rfl) ?_
  refine lv_iconst (v := 0) hx hb dX12_haveBoth_2 (by decide) ?_
  refine lv_aload_n hx hb dX12_haveBoth_3 rfl (lv_at hl 0 rfl) ?_
  have i_12_0 : 0 ≤ (iv 12 0).toInt ∧ (iv 12 0).toInt ≤ 3000 := hI.1 12 0
  refine gM_12_0 hx hb ht hown hK hP m_1139 (v := (iv 12 0)) rfl dX12_haveBoth_4 ?_
  have hFc := free_all hD hS hA
  refine va_calli (va_runV (As := [.int a, .int 0, .int (iv 12 0)]) (rest := []) ⟨hx, hb, hml, hown, ht⟩ (c_X12_sumUp_x l dC dI s.heap.size h g ca iv lv fa la hI a 0 (iv 12 0) hJR) (kV 3 ht m_1434 m_1436 m_45 m_89 m_1437 rfl rfl hd_X12_sumUp_v ⟨Nat.le_of_ble_eq_true rfl, Nat.le_of_ble_eq_true rfl⟩) (vW hP hK hD (rM_12 hK hP)) rfl rfl hl.1 rfl (lv_room (Nat.le_of_ble_eq_true rfl)) dX12_haveBoth_7 ⟨Nat.le_of_ble_eq_true rfl, Nat.le_of_ble_eq_true rfl⟩) hS (fun q _ h => hFc q h) hFc (fun r1 u t H1 locs ht9 hvm hr1 hB hz1 hk1 hS => ?_)
  obtain ⟨n2, n3, n4, xr1_0, xr1_1, xr1_2, xr1_3, xr1_4, hr1, rfl⟩ := hr1
  obtain ⟨hP, hD⟩ := hB
  rw [ht9] at hP
  generalize H1 = H at hP hS ⊢
  have hP : va_P (dC, dI) classes (WM h g ca (u2 iv 12 19 n2) (u2 (u2 lv 12 17 n3) 12 18 n4) fa la) H := hP
  have hD : va_D A (WM h g ca (u2 iv 12 19 n2) (u2 (u2 lv 12 17 n3) 12 18 n4) fa la) := (show va_D _ (WM h g ca (u2 iv 12 19 n2) (u2 (u2 lv 12 17 n3) 12 18 n4) fa la) from hD).weaken (fun _ _ _ h => hFc _ h)
  have xr1_0 : 0 ≤ (r1 : Int32).toInt := xr1_0
  have xr1_1 : (r1 : Int32).toInt ≤ 60 := xr1_1
  have xr1_2 : 0 ≤ (n4 : Int64).toInt := xr1_2
  have xr1_3 : (n4 : Int64).toInt ≤ 599940 := xr1_3
  have xr1_4 : 100 * (r1 : Int32).toInt ≤ (n4 : Int64).toInt := xr1_4
  refine lv_if_le (tgt := 30) hx hb dX12_haveBoth_10 (by decide) (fun c5 => ?_) (fun c5 => ?_)
  · have fc5 := z_le (rfl : (r1).toInt = _) (by decide : (0 : Int32).toInt = 0) c5
    refine lv_iconst (v := 0) hx hb dX12_haveBoth_30 (by decide) ?_
    have hP9 : va_P (dC, dI) classes (WM h g ca (u2 iv 12 19 n2) (u2 (u2 lv 12 17 n3) 12 18 n4) fa la) H := hP
    have hD9 : va_D A (WM h g ca (u2 iv 12 19 n2) (u2 (u2 lv 12 17 n3) 12 18 n4) fa la) := hD
    exact W.zret (v := 0) hx hb hr rfl (fun t ht9 hW => ⟨⟨0, ((u2 iv 12 19 n2), (u2 (u2 lv 12 17 n3) 12 18 n4), fa, la), rfl, ⟨n2, n3, n4, ⟨by decide, by decide⟩, rfl⟩, by rw [ht9]; exact hP9, hD9⟩, hS.F ht9⟩) hS.2.2 dX12_haveBoth_31
  · have fc5 := z_nle (rfl : (r1).toInt = _) (by decide : (0 : Int32).toInt = 0) c5
    refine lv_aload_n hx hb dX12_haveBoth_13 rfl (lv_at hl 0 rfl) ?_
    refine lv_iload_n hx hb dX12_haveBoth_14 rfl (lv_at hl 1 rfl) ?_
    refine lv_iconst (v := 1) hx hb dX12_haveBoth_15 (by decide) ?_
    refine lv_aload_n hx hb dX12_haveBoth_16 rfl (lv_at hl 0 rfl) ?_
    refine gM_12_0 hx hb ht hown hK hP m_1139 (v := (iv 12 0)) rfl dX12_haveBoth_17 ?_
    have hFc := free_all hD hS hA
    refine va_calli (va_runV (As := [.int a, .int 1, .int (iv 12 0)]) (rest := []) ⟨hx, hb, hml, hown, ht⟩ (c_X12_sumUp_x l dC dI H.size h g ca (u2 iv 12 19 n2) (u2 (u2 lv 12 17 n3) 12 18 n4) fa la (IX_i (c := 12) (k := 19) hI (full_i _)) a 1 (iv 12 0) hJR) (kV 3 ht m_1434 m_1436 m_45 m_89 m_1437 rfl rfl hd_X12_sumUp_v ⟨Nat.le_of_ble_eq_true rfl, Nat.le_of_ble_eq_true rfl⟩) (vW hP hK hD (rM_12 hK hP)) rfl rfl hl.1 rfl (lv_room (Nat.le_of_ble_eq_true rfl)) dX12_haveBoth_20 ⟨Nat.le_of_ble_eq_true rfl, Nat.le_of_ble_eq_true rfl⟩) hS (fun q _ h => hFc q h) hFc (fun r6 u t H1 locs ht9 hvm hr6 hB hz1 hk1 hS => ?_)
    obtain ⟨n7, n8, n9, xr6_0, xr6_1, xr6_2, xr6_3, xr6_4, hr6, rfl⟩ := hr6
    obtain ⟨hP, hD⟩ := hB
    rw [ht9] at hP
    generalize H1 = H at hP hS ⊢
    have hP : va_P (dC, dI) classes (WM h g ca (u2 iv 12 19 n7) (u2 (u2 lv 12 17 n8) 12 18 n9) fa la) H := hP
    have hD : va_D A (WM h g ca (u2 iv 12 19 n7) (u2 (u2 lv 12 17 n8) 12 18 n9) fa la) := (show va_D _ (WM h g ca (u2 iv 12 19 n7) (u2 (u2 lv 12 17 n8) 12 18 n9) fa la) from hD).weaken (fun _ _ _ h => hFc _ h)
    have xr6_0 : 0 ≤ (r6 : Int32).toInt := xr6_0
    have xr6_1 : (r6 : Int32).toInt ≤ 60 := xr6_1
    have xr6_2 : 0 ≤ (n9 : Int64).toInt := xr6_2
    have xr6_3 : (n9 : Int64).toInt ≤ 599940 := xr6_3
    have xr6_4 : 100 * (r6 : Int32).toInt ≤ (n9 : Int64).toInt := xr6_4
    refine lv_if_le (tgt := 30) hx hb dX12_haveBoth_23 (by decide) (fun c10 => ?_) (fun c10 => ?_)
    · have fc10 := z_le (rfl : (r6).toInt = _) (by decide : (0 : Int32).toInt = 0) c10
      refine lv_iconst (v := 0) hx hb dX12_haveBoth_30 (by decide) ?_
      have hP9 : va_P (dC, dI) classes (WM h g ca (u2 iv 12 19 n7) (u2 (u2 lv 12 17 n8) 12 18 n9) fa la) H := hP
      have hD9 : va_D A (WM h g ca (u2 iv 12 19 n7) (u2 (u2 lv 12 17 n8) 12 18 n9) fa la) := hD
      exact W.zret (v := 0) hx hb hr rfl (fun t ht9 hW => ⟨⟨0, ((u2 iv 12 19 n7), (u2 (u2 lv 12 17 n8) 12 18 n9), fa, la), rfl, ⟨n7, n8, n9, ⟨by decide, by decide⟩, rfl⟩, by rw [ht9]; exact hP9, hD9⟩, hS.F ht9⟩) hS.2.2 dX12_haveBoth_31
    · have fc10 := z_nle (rfl : (r6).toInt = _) (by decide : (0 : Int32).toInt = 0) c10
      refine lv_iconst (v := 1) hx hb dX12_haveBoth_26 (by decide) ?_
      refine lv_goto (tgt := 31) hx hb dX12_haveBoth_27 (by decide) ?_
      have hP9 : va_P (dC, dI) classes (WM h g ca (u2 iv 12 19 n7) (u2 (u2 lv 12 17 n8) 12 18 n9) fa la) H := hP
      have hD9 : va_D A (WM h g ca (u2 iv 12 19 n7) (u2 (u2 lv 12 17 n8) 12 18 n9) fa la) := hD
      exact W.zret (v := 1) hx hb hr rfl (fun t ht9 hW => ⟨⟨1, ((u2 iv 12 19 n7), (u2 (u2 lv 12 17 n8) 12 18 n9), fa, la), rfl, ⟨n7, n8, n9, ⟨by decide, by decide⟩, rfl⟩, by rw [ht9]; exact hP9, hD9⟩, hS.F ht9⟩) hS.2.2 dX12_haveBoth_31
set_option maxHeartbeats 4000000 in
set_option maxRecDepth 100000 in
/-- X12_ratio -/
theorem c_X12_ratio (l : Launch) (dC : Nat → ClassId) (dI : Nat → Nat → Nat) (sz : Nat) (h : Nat) (g : Nat → Nat → Nat) (ca : Nat → Nat → ClassId) (iv : Nat → Nat → Int32) (lv : Nat → Nat → Int64) (fa : Nat → Nat → Nat → Int32) (la : Nat → Nat → Nat → Int64) (hI : IX iv fa) (a : Int32) (b : Int32) (d : Int32) (hJR : JRf (iv 12 3).toInt (fa 12 7)) : Met l yX12_ratio (wc yX12_ratio cX12_ratio 7 (some .int)) ({ frames := 2, cells := 0, slots := 0, locals := 50 } : Room) (pW (dC, dI) classes (WM h g ca iv lv fa la) (TM ca) sz [.ref h, .int a, .int b, .int d]) (va_Qi (fun r (u : SS) => ∃ (ni_12_19 : Int32) (nl_12_17 : Int64) (nl_12_18 : Int64), (True) ∧ u = ((u2 iv 12 19 ni_12_19), (u2 (u2 lv 12 17 nl_12_17) 12 18 nl_12_18), fa, la)) (bM (dC, dI) h g ca (va_A (WM h g ca iv lv fa la) sz)) (va_A (WM h g ca iv lv fa la) sz)) 0 0 (va_A (WM h g ca iv lv fa la) sz) := by
  refine Met.ofW (cc := cX12_ratio) (maxL := 7) (ret := (some .int)) (by decide) rfl ?_
  intro p e s m args below meth c s₁ B hml hv
  obtain ⟨rfl, hsz, hP, hK, hD0⟩ := hv
  have hx := B.exec
  have hb := B.bytes
  have hr := B.returns
  have ht := tb_tl (atoms_spec (ws := wc yX12_ratio cX12_ratio 7 (some .int)) B.pre)
  have hown : s.vm.findClass RX12 = some m.cls := findClass_of_methodNamed B.named
  have hlocks := B.notSynchronized
  subst hsz
  have hD := hD0.self (sz := s.heap.size)
  generalize hAe : va_A (WM h g ca iv lv fa la) s.heap.size = A at hD ⊢
  have hA : ∀ q : Nat, s.heap.size ≤ q → A q := fun q h => by rw [← hAe]; exact Or.inr h
  have hS : va_S A s.heap s.heap [] := va_S.rf
  have hl := lv_entry [.ref h, .int a, .int b, .int d] (n := 7) (Nat.le_of_ble_eq_true rfl)
  rw [lg_entry_eq]
  generalize (lg_sl [.ref h, .int a, .int b, .int d] ++ List.replicate (7 - (lg_sl [.ref h, .int a, .int b, .int d]).length) Slot.unset).toArray = ls at hl ⊢
  have hl : lv_has ls 7 [(0, .ref h), (1, .int a), (2, .int b), (3, .int d)] := hl
  refine lv_aload_n hx hb dX12_ratio_0 rfl (lv_at hl 0 rfl) ?_
  refine lv_iload_n hx hb dX12_ratio_1 rfl (lv_at hl 1 rfl) ?_
  refine vp_callSi (W.runV (As := [.int a]) (rest := []) ⟨hx, hb, hml, hown, ht⟩ (c_X12_noBale l dC dI h g ca iv lv fa la hI a) (kV 1 ht m_1385 m_1387 m_42 m_89 m_1388 rfl rfl hd_X12_noBale_v ⟨Nat.le_of_ble_eq_true rfl, Nat.le_of_ble_eq_true rfl⟩) (vR hP hK (rM_12 hK hP)) rfl rfl hl.1 rfl (lv_room (Nat.le_of_ble_eq_true rfl)) dX12_ratio_2 ⟨Nat.le_of_ble_eq_true rfl, Nat.le_of_ble_eq_true rfl⟩) (fun r1 hr1 => ?_)
  rcases hr1 with ⟨rfl, fr1⟩ | ⟨rfl, fr1⟩
  · skip
    have i_12_1 : 0 ≤ (iv 12 1).toInt ∧ (iv 12 1).toInt ≤ 10 := hI.1 12 1
    have fr1 : ¬ (0 ≤ (a : Int32).toInt ∧ (a : Int32).toInt < ((iv 12 1) : Int32).toInt) := fr1
    refine lv_if_eq (tgt := 11) hx hb dX12_ratio_5 (by decide) (fun c2 => ?_) (fun c2 => ?_)
    · exact absurd c2 (by decide)
    · skip
      refine lv_ldc hx hb hown (ht _ m_1389) dX12_ratio_8 ?_
      have hP9 : va_P (dC, dI) classes (WM h g ca (u2 iv 12 19 (iv 12 19)) (u2 (u2 lv 12 17 (lv 12 17)) 12 18 (lv 12 18)) fa la) s.heap := hP
      have hD9 : va_D A (WM h g ca (u2 iv 12 19 (iv 12 19)) (u2 (u2 lv 12 17 (lv 12 17)) 12 18 (lv 12 18)) fa la) := hD
      exact W.iret (v := (-100001)) hx hb hr (fun t ht9 hW => ⟨⟨(-100001), ((u2 iv 12 19 (iv 12 19)), (u2 (u2 lv 12 17 (lv 12 17)) 12 18 (lv 12 18)), fa, la), rfl, ⟨(iv 12 19), (lv 12 17), (lv 12 18), trivial, rfl⟩, by rw [ht9]; exact hP9, hD9⟩, hS.F ht9⟩) hS.2.2 dX12_ratio_10
  · skip
    have i_12_1 : 0 ≤ (iv 12 1).toInt ∧ (iv 12 1).toInt ≤ 10 := hI.1 12 1
    have fr1 : (0 ≤ (a : Int32).toInt ∧ (a : Int32).toInt < ((iv 12 1) : Int32).toInt) := Decidable.not_not.mp fr1
    refine lv_if_eq (tgt := 11) hx hb dX12_ratio_5 (by decide) (fun c3 => ?_) (fun c3 => ?_)
    · skip
      refine lv_iload_n hx hb dX12_ratio_11 rfl (lv_at hl 2 rfl) ?_
      refine lv_i2l (v := (b.toInt64)) hx hb dX12_ratio_12 rfl ?_
      refine lv_lconst (v := 0) hx hb dX12_ratio_13 (by decide) ?_
      refine lv_ldc2 hx hb hown (ht _ m_1390) dX12_ratio_14 ?_
      refine vp_callSi (W.runS (As := [.long (b.toInt64), .long 0, .long 2]) (rest := []) ⟨hx, hb, hml, hown, ht⟩ (c_X12_in l dC dI (b.toInt64) 0 2 (b.toInt) (0) (2) ((Int32.toInt_toInt64 b).trans rfl) (by decide : (0 : Int64).toInt = 0) (by decide : (2 : Int64).toInt = 2)) (kS 3 ht m_1370 m_1371 m_89 m_1372 rfl rfl hd_X12_in_v ⟨Nat.le_of_ble_eq_true rfl, Nat.le_of_ble_eq_true rfl⟩) (sR noP (hK.sub (tys' := []) [] rfl)) rfl rfl hl.1 rfl (lv_room (Nat.le_of_ble_eq_true rfl)) dX12_ratio_17 ⟨Nat.le_of_ble_eq_true rfl, Nat.le_of_ble_eq_true rfl⟩) (fun r4 hr4 => ?_)
      rcases hr4 with ⟨rfl, fr4⟩ | ⟨rfl, fr4⟩
      · skip
        refine lv_if_eq (tgt := 35) hx hb dX12_ratio_20 (by decide) (fun c5 => ?_) (fun c5 => ?_)
        · exact absurd c5 (by decide)
        · skip
          refine lv_iload_n hx hb dX12_ratio_23 rfl (lv_at hl 3 rfl) ?_
          refine lv_i2l (v := (d.toInt64)) hx hb dX12_ratio_24 rfl ?_
          refine lv_lconst (v := 0) hx hb dX12_ratio_25 (by decide) ?_
          refine lv_ldc2 hx hb hown (ht _ m_1390) dX12_ratio_26 ?_
          refine vp_callSi (W.runS (As := [.long (d.toInt64), .long 0, .long 2]) (rest := []) ⟨hx, hb, hml, hown, ht⟩ (c_X12_in l dC dI (d.toInt64) 0 2 (d.toInt) (0) (2) ((Int32.toInt_toInt64 d).trans rfl) (by decide : (0 : Int64).toInt = 0) (by decide : (2 : Int64).toInt = 2)) (kS 3 ht m_1370 m_1371 m_89 m_1372 rfl rfl hd_X12_in_v ⟨Nat.le_of_ble_eq_true rfl, Nat.le_of_ble_eq_true rfl⟩) (sR noP (hK.sub (tys' := []) [] rfl)) rfl rfl hl.1 rfl (lv_room (Nat.le_of_ble_eq_true rfl)) dX12_ratio_29 ⟨Nat.le_of_ble_eq_true rfl, Nat.le_of_ble_eq_true rfl⟩) (fun r6 hr6 => ?_)
          rcases hr6 with ⟨rfl, fr6⟩ | ⟨rfl, fr6⟩
          · skip
            refine lv_if_ne (tgt := 38) hx hb dX12_ratio_32 (by decide) (fun c7 => ?_) (fun c7 => ?_)
            · skip
              refine lv_aload_n hx hb dX12_ratio_38 rfl (lv_at hl 0 rfl) ?_
              refine lv_iload_n hx hb dX12_ratio_39 rfl (lv_at hl 1 rfl) ?_
              refine lv_iload_n hx hb dX12_ratio_40 rfl (lv_at hl 2 rfl) ?_
              refine lv_aload_n hx hb dX12_ratio_41 rfl (lv_at hl 0 rfl) ?_
              have i_12_0 : 0 ≤ (iv 12 0).toInt ∧ (iv 12 0).toInt ≤ 3000 := hI.1 12 0
              refine gM_12_0 hx hb ht hown hK hP m_1139 (v := (iv 12 0)) rfl dX12_ratio_42 ?_
              have hFc := free_all hD hS hA
              refine va_calli (va_runV (As := [.int a, .int b, .int (iv 12 0)]) (rest := []) ⟨hx, hb, hml, hown, ht⟩ (c_X12_sumUp_x l dC dI s.heap.size h g ca iv lv fa la hI a b (iv 12 0) hJR) (kV 3 ht m_1434 m_1436 m_45 m_89 m_1437 rfl rfl hd_X12_sumUp_v ⟨Nat.le_of_ble_eq_true rfl, Nat.le_of_ble_eq_true rfl⟩) (vW hP hK hD (rM_12 hK hP)) rfl rfl hl.1 rfl (lv_room (Nat.le_of_ble_eq_true rfl)) dX12_ratio_45 ⟨Nat.le_of_ble_eq_true rfl, Nat.le_of_ble_eq_true rfl⟩) hS (fun q _ h => hFc q h) hFc (fun r8 u t H1 locs ht9 hvm hr8 hB hz1 hk1 hS => ?_)
              obtain ⟨n9, n10, n11, xr8_0, xr8_1, xr8_2, xr8_3, xr8_4, hr8, rfl⟩ := hr8
              obtain ⟨hP, hD⟩ := hB
              rw [ht9] at hP
              generalize H1 = H at hP hS ⊢
              have hP : va_P (dC, dI) classes (WM h g ca (u2 iv 12 19 n9) (u2 (u2 lv 12 17 n10) 12 18 n11) fa la) H := hP
              have hD : va_D A (WM h g ca (u2 iv 12 19 n9) (u2 (u2 lv 12 17 n10) 12 18 n11) fa la) := (show va_D _ (WM h g ca (u2 iv 12 19 n9) (u2 (u2 lv 12 17 n10) 12 18 n11) fa la) from hD).weaken (fun _ _ _ h => hFc _ h)
              have xr8_0 : 0 ≤ (r8 : Int32).toInt := xr8_0
              have xr8_1 : (r8 : Int32).toInt ≤ 60 := xr8_1
              have xr8_2 : 0 ≤ (n11 : Int64).toInt := xr8_2
              have xr8_3 : (n11 : Int64).toInt ≤ 599940 := xr8_3
              have xr8_4 : 100 * (r8 : Int32).toInt ≤ (n11 : Int64).toInt := xr8_4
              refine lv_istore (lv' := [(4, .int r8), (0, .ref h), (1, .int a), (2, .int b), (3, .int d)]) hx hb dX12_ratio_48 hl (by decide) rfl (fun ls hl => ?_)
              refine lv_iload_n hx hb dX12_ratio_50 rfl (lv_at hl 4 rfl) ?_
              refine lv_iconst (v := 2) hx hb dX12_ratio_51 (by decide) ?_
              refine lv_icmp_ne (tgt := 58) hx hb dX12_ratio_52 (by decide) (fun c12 => ?_) (fun c12 => ?_)
              · have fc12 := z_ne (rfl : (d).toInt = _) (by decide : (2 : Int32).toInt = 2) c12
                refine lv_iload hx hb dX12_ratio_58 (lv_at hl 0 rfl) ?_
                refine lv_if_ne (tgt := 66) hx hb dX12_ratio_60 (by decide) (fun c13 => ?_) (fun c13 => ?_)
                · have fc13 := z_ne (rfl : (r8).toInt = _) (by decide : (0 : Int32).toInt = 0) c13
                  refine lv_aload_n hx hb dX12_ratio_66 rfl (lv_at hl 1 rfl) ?_
                  refine gM_12_17 hx hb ht hown hK hP m_1156 (v := n10) rfl dX12_ratio_67 ?_
                  refine lv_aload_n hx hb dX12_ratio_70 rfl (lv_at hl 1 rfl) ?_
                  refine gM_12_18 hx hb ht hown hK hP m_1157 (v := n11) rfl dX12_ratio_71 ?_
                  refine vp_callSl (W.runS (As := [.long n10, .long n11]) (rest := []) ⟨hx, hb, hml, hown, ht⟩ (c_X12_gcd l dC dI n10 n11 (show (n11 : Int64).toInt ≠ 0 from by omega)) (kS 2 ht m_1442 m_1443 m_89 m_1444 rfl rfl hd_X12_gcd_v ⟨Nat.le_of_ble_eq_true rfl, Nat.le_of_ble_eq_true rfl⟩) (sR noP (hK.sub (tys' := []) [] rfl)) rfl rfl hl.1 rfl (lv_room (Nat.le_of_ble_eq_true rfl)) dX12_ratio_74 ⟨Nat.le_of_ble_eq_true rfl, Nat.le_of_ble_eq_true rfl⟩) (fun r14 hr14 => ?_)
                  obtain ⟨hr14, xr14_0, xr14_1⟩ := hr14
                  have xr14_0 : (r14 : Int64).toInt ≠ 0 := xr14_0
                  have xr14_1 : ((r14 : Int64).toInt).natAbs ≤ ((n11 : Int64).toInt).natAbs := xr14_1
                  refine lv_lstore (lv' := [(5, .long r14), (4, .int r8), (0, .ref h), (1, .int a), (2, .int b), (3, .int d)]) hx hb dX12_ratio_77 hl (by decide) rfl (fun ls hl => ?_)
                  refine lv_iload_n hx hb dX12_ratio_79 rfl (lv_at hl 5 rfl) ?_
                  refine lv_if_ne (tgt := 93) hx hb dX12_ratio_80 (by decide) (fun c15 => ?_) (fun c15 => ?_)
                  · have fc15 := z_ne (rfl : (d).toInt = _) (by decide : (0 : Int32).toInt = 0) c15
                    refine lv_aload_n hx hb dX12_ratio_93 rfl (lv_at hl 2 rfl) ?_
                    refine gM_12_18 hx hb ht hown hK hP m_1157 (v := n11) rfl dX12_ratio_94 ?_
                    refine lv_lload hx hb dX12_ratio_97 (lv_at hl 0 rfl) ?_
                    have zw16 : (r14 : Int64).toInt ≠ 0 := by omega
                    refine lv_ldiv hx hb dX12_ratio_99 (l_nz rfl zw16) ?_
                    refine lv_topl (fun w16 ew16 => ?_)
                    have tw16 := l_div ew16 (rfl : (n11 : Int64).toInt = _) (rfl : (r14 : Int64).toInt = _) zw16
                    obtain ⟨v17, ev17⟩ : ∃ y : Int32, w16.toInt32 = y := ⟨_, rfl⟩
                    refine lv_l2i (v := v17) hx hb dX12_ratio_100 ev17 ?_
                    have hP9 : va_P (dC, dI) classes (WM h g ca (u2 iv 12 19 n9) (u2 (u2 lv 12 17 n10) 12 18 n11) fa la) H := hP
                    have hD9 : va_D A (WM h g ca (u2 iv 12 19 n9) (u2 (u2 lv 12 17 n10) 12 18 n11) fa la) := hD
                    exact W.iret (v := v17) hx hb hr (fun t ht9 hW => ⟨⟨v17, ((u2 iv 12 19 n9), (u2 (u2 lv 12 17 n10) 12 18 n11), fa, la), rfl, ⟨n9, n10, n11, trivial, rfl⟩, by rw [ht9]; exact hP9, hD9⟩, hS.F ht9⟩) hS.2.2 dX12_ratio_101
                  · have fc15 := z_eq (rfl : (d).toInt = _) (by decide : (0 : Int32).toInt = 0) c15
                    refine lv_aload_n hx hb dX12_ratio_83 rfl (lv_at hl 2 rfl) ?_
                    refine gM_12_17 hx hb ht hown hK hP m_1156 (v := n10) rfl dX12_ratio_84 ?_
                    refine lv_lload hx hb dX12_ratio_87 (lv_at hl 0 rfl) ?_
                    have zw18 : (r14 : Int64).toInt ≠ 0 := by omega
                    refine lv_ldiv hx hb dX12_ratio_89 (l_nz rfl zw18) ?_
                    refine lv_topl (fun w18 ew18 => ?_)
                    have tw18 := l_div ew18 (rfl : (n10 : Int64).toInt = _) (rfl : (r14 : Int64).toInt = _) zw18
                    refine lv_goto (tgt := 100) hx hb dX12_ratio_90 (by decide) ?_
                    obtain ⟨v19, ev19⟩ : ∃ y : Int32, w18.toInt32 = y := ⟨_, rfl⟩
                    refine lv_l2i (v := v19) hx hb dX12_ratio_100 ev19 ?_
                    have hP9 : va_P (dC, dI) classes (WM h g ca (u2 iv 12 19 n9) (u2 (u2 lv 12 17 n10) 12 18 n11) fa la) H := hP
                    have hD9 : va_D A (WM h g ca (u2 iv 12 19 n9) (u2 (u2 lv 12 17 n10) 12 18 n11) fa la) := hD
                    exact W.iret (v := v19) hx hb hr (fun t ht9 hW => ⟨⟨v19, ((u2 iv 12 19 n9), (u2 (u2 lv 12 17 n10) 12 18 n11), fa, la), rfl, ⟨n9, n10, n11, trivial, rfl⟩, by rw [ht9]; exact hP9, hD9⟩, hS.F ht9⟩) hS.2.2 dX12_ratio_101
                · have fc13 := z_eq (rfl : (r8).toInt = _) (by decide : (0 : Int32).toInt = 0) c13
                  refine lv_ldc hx hb hown (ht _ m_1374) dX12_ratio_63 ?_
                  have hP9 : va_P (dC, dI) classes (WM h g ca (u2 iv 12 19 n9) (u2 (u2 lv 12 17 n10) 12 18 n11) fa la) H := hP
                  have hD9 : va_D A (WM h g ca (u2 iv 12 19 n9) (u2 (u2 lv 12 17 n10) 12 18 n11) fa la) := hD
                  exact W.iret (v := (-100003)) hx hb hr (fun t ht9 hW => ⟨⟨(-100003), ((u2 iv 12 19 n9), (u2 (u2 lv 12 17 n10) 12 18 n11), fa, la), rfl, ⟨n9, n10, n11, trivial, rfl⟩, by rw [ht9]; exact hP9, hD9⟩, hS.F ht9⟩) hS.2.2 dX12_ratio_65
              · have fc12 := z_eq (rfl : (d).toInt = _) (by decide : (2 : Int32).toInt = 2) c12
                refine lv_iload hx hb dX12_ratio_55 (lv_at hl 0 rfl) ?_
                have hP9 : va_P (dC, dI) classes (WM h g ca (u2 iv 12 19 n9) (u2 (u2 lv 12 17 n10) 12 18 n11) fa la) H := hP
                have hD9 : va_D A (WM h g ca (u2 iv 12 19 n9) (u2 (u2 lv 12 17 n10) 12 18 n11) fa la) := hD
                exact W.iret (v := r8) hx hb hr (fun t ht9 hW => ⟨⟨r8, ((u2 iv 12 19 n9), (u2 (u2 lv 12 17 n10) 12 18 n11), fa, la), rfl, ⟨n9, n10, n11, trivial, rfl⟩, by rw [ht9]; exact hP9, hD9⟩, hS.F ht9⟩) hS.2.2 dX12_ratio_57
            · exact absurd c7 (by decide)
          · skip
            refine lv_if_ne (tgt := 38) hx hb dX12_ratio_32 (by decide) (fun c20 => ?_) (fun c20 => ?_)
            · exact absurd rfl c20
            · skip
              refine lv_ldc hx hb hown (ht _ m_1373) dX12_ratio_35 ?_
              have hP9 : va_P (dC, dI) classes (WM h g ca (u2 iv 12 19 (iv 12 19)) (u2 (u2 lv 12 17 (lv 12 17)) 12 18 (lv 12 18)) fa la) s.heap := hP
              have hD9 : va_D A (WM h g ca (u2 iv 12 19 (iv 12 19)) (u2 (u2 lv 12 17 (lv 12 17)) 12 18 (lv 12 18)) fa la) := hD
              exact W.iret (v := (-100002)) hx hb hr (fun t ht9 hW => ⟨⟨(-100002), ((u2 iv 12 19 (iv 12 19)), (u2 (u2 lv 12 17 (lv 12 17)) 12 18 (lv 12 18)), fa, la), rfl, ⟨(iv 12 19), (lv 12 17), (lv 12 18), trivial, rfl⟩, by rw [ht9]; exact hP9, hD9⟩, hS.F ht9⟩) hS.2.2 dX12_ratio_37
      · skip
        refine lv_if_eq (tgt := 35) hx hb dX12_ratio_20 (by decide) (fun c21 => ?_) (fun c21 => ?_)
        · skip
          refine lv_ldc hx hb hown (ht _ m_1373) dX12_ratio_35 ?_
          have hP9 : va_P (dC, dI) classes (WM h g ca (u2 iv 12 19 (iv 12 19)) (u2 (u2 lv 12 17 (lv 12 17)) 12 18 (lv 12 18)) fa la) s.heap := hP
          have hD9 : va_D A (WM h g ca (u2 iv 12 19 (iv 12 19)) (u2 (u2 lv 12 17 (lv 12 17)) 12 18 (lv 12 18)) fa la) := hD
          exact W.iret (v := (-100002)) hx hb hr (fun t ht9 hW => ⟨⟨(-100002), ((u2 iv 12 19 (iv 12 19)), (u2 (u2 lv 12 17 (lv 12 17)) 12 18 (lv 12 18)), fa, la), rfl, ⟨(iv 12 19), (lv 12 17), (lv 12 18), trivial, rfl⟩, by rw [ht9]; exact hP9, hD9⟩, hS.F ht9⟩) hS.2.2 dX12_ratio_37
        · exact absurd rfl c21
    · exact absurd rfl c3
set_option maxHeartbeats 4000000 in
set_option maxRecDepth 100000 in
/-- X12_cheat -/
theorem c_X12_cheat (l : Launch) (dC : Nat → ClassId) (dI : Nat → Nat → Nat) (sz : Nat) (h : Nat) (g : Nat → Nat → Nat) (ca : Nat → Nat → ClassId) (iv : Nat → Nat → Int32) (lv : Nat → Nat → Int64) (fa : Nat → Nat → Nat → Int32) (la : Nat → Nat → Nat → Int64) (hI : IX iv fa) (a : Int32) (b : Int32) (d : Int32) (k : Int32) (hJR : JRf (iv 12 3).toInt (fa 12 7)) : Met l yX12_cheat (wc yX12_cheat cX12_cheat 7 (some .int)) ({ frames := 2, cells := 0, slots := 0, locals := 47 } : Room) (pW (dC, dI) classes (WM h g ca iv lv fa la) (TM ca) sz [.ref h, .int a, .int b, .int d, .int k]) (va_Qi (fun r (u : SS) => ∃ (ni_12_19 : Int32) (nl_12_17 : Int64) (nl_12_18 : Int64), ((-100002) ≤ r.toInt ∧ r.toInt ≤ 7) ∧ u = ((u2 iv 12 19 ni_12_19), (u2 (u2 lv 12 17 nl_12_17) 12 18 nl_12_18), fa, la)) (bM (dC, dI) h g ca (va_A (WM h g ca iv lv fa la) sz)) (va_A (WM h g ca iv lv fa la) sz)) 0 0 (va_A (WM h g ca iv lv fa la) sz) := by
  refine Met.ofW (cc := cX12_cheat) (maxL := 7) (ret := (some .int)) (by decide) rfl ?_
  intro p e s m args below meth c s₁ B hml hv
  obtain ⟨rfl, hsz, hP, hK, hD0⟩ := hv
  have hx := B.exec
  have hb := B.bytes
  have hr := B.returns
  have ht := tb_tl (atoms_spec (ws := wc yX12_cheat cX12_cheat 7 (some .int)) B.pre)
  have hown : s.vm.findClass RX12 = some m.cls := findClass_of_methodNamed B.named
  have hlocks := B.notSynchronized
  subst hsz
  have hD := hD0.self (sz := s.heap.size)
  generalize hAe : va_A (WM h g ca iv lv fa la) s.heap.size = A at hD ⊢
  have hA : ∀ q : Nat, s.heap.size ≤ q → A q := fun q h => by rw [← hAe]; exact Or.inr h
  have hS : va_S A s.heap s.heap [] := va_S.rf
  have hl := lv_entry [.ref h, .int a, .int b, .int d, .int k] (n := 7) (Nat.le_of_ble_eq_true rfl)
  rw [lg_entry_eq]
  generalize (lg_sl [.ref h, .int a, .int b, .int d, .int k] ++ List.replicate (7 - (lg_sl [.ref h, .int a, .int b, .int d, .int k]).length) Slot.unset).toArray = ls at hl ⊢
  have hl : lv_has ls 7 [(0, .ref h), (1, .int a), (2, .int b), (3, .int d), (4, .int k)] := hl
  refine lv_aload_n hx hb dX12_cheat_0 rfl (lv_at hl 0 rfl) ?_
  refine lv_iload_n hx hb dX12_cheat_1 rfl (lv_at hl 1 rfl) ?_
  refine vp_callSi (W.runV (As := [.int a]) (rest := []) ⟨hx, hb, hml, hown, ht⟩ (c_X12_noBale l dC dI h g ca iv lv fa la hI a) (kV 1 ht m_1385 m_1387 m_42 m_89 m_1388 rfl rfl hd_X12_noBale_v ⟨Nat.le_of_ble_eq_true rfl, Nat.le_of_ble_eq_true rfl⟩) (vR hP hK (rM_12 hK hP)) rfl rfl hl.1 rfl (lv_room (Nat.le_of_ble_eq_true rfl)) dX12_cheat_2 ⟨Nat.le_of_ble_eq_true rfl, Nat.le_of_ble_eq_true rfl⟩) (fun r1 hr1 => ?_)
  rcases hr1 with ⟨rfl, fr1⟩ | ⟨rfl, fr1⟩
  · skip
    have i_12_1 : 0 ≤ (iv 12 1).toInt ∧ (iv 12 1).toInt ≤ 10 := hI.1 12 1
    have fr1 : ¬ (0 ≤ (a : Int32).toInt ∧ (a : Int32).toInt < ((iv 12 1) : Int32).toInt) := fr1
    refine lv_if_eq (tgt := 11) hx hb dX12_cheat_5 (by decide) (fun c2 => ?_) (fun c2 => ?_)
    · exact absurd c2 (by decide)
    · skip
      refine lv_ldc hx hb hown (ht _ m_1389) dX12_cheat_8 ?_
      have hP9 : va_P (dC, dI) classes (WM h g ca (u2 iv 12 19 (iv 12 19)) (u2 (u2 lv 12 17 (lv 12 17)) 12 18 (lv 12 18)) fa la) s.heap := hP
      have hD9 : va_D A (WM h g ca (u2 iv 12 19 (iv 12 19)) (u2 (u2 lv 12 17 (lv 12 17)) 12 18 (lv 12 18)) fa la) := hD
      exact W.iret (v := (-100001)) hx hb hr (fun t ht9 hW => ⟨⟨(-100001), ((u2 iv 12 19 (iv 12 19)), (u2 (u2 lv 12 17 (lv 12 17)) 12 18 (lv 12 18)), fa, la), rfl, ⟨(iv 12 19), (lv 12 17), (lv 12 18), ⟨by decide, by decide⟩, rfl⟩, by rw [ht9]; exact hP9, hD9⟩, hS.F ht9⟩) hS.2.2 dX12_cheat_10
  · skip
    have i_12_1 : 0 ≤ (iv 12 1).toInt ∧ (iv 12 1).toInt ≤ 10 := hI.1 12 1
    have fr1 : (0 ≤ (a : Int32).toInt ∧ (a : Int32).toInt < ((iv 12 1) : Int32).toInt) := Decidable.not_not.mp fr1
    refine lv_if_eq (tgt := 11) hx hb dX12_cheat_5 (by decide) (fun c3 => ?_) (fun c3 => ?_)
    · skip
      refine lv_iload_n hx hb dX12_cheat_11 rfl (lv_at hl 2 rfl) ?_
      refine lv_i2l (v := (b.toInt64)) hx hb dX12_cheat_12 rfl ?_
      refine lv_lconst (v := 0) hx hb dX12_cheat_13 (by decide) ?_
      refine lv_ldc2 hx hb hown (ht _ m_1369) dX12_cheat_14 ?_
      refine vp_callSi (W.runS (As := [.long (b.toInt64), .long 0, .long 999]) (rest := []) ⟨hx, hb, hml, hown, ht⟩ (c_X12_in l dC dI (b.toInt64) 0 999 (b.toInt) (0) (999) ((Int32.toInt_toInt64 b).trans rfl) (by decide : (0 : Int64).toInt = 0) (by decide : (999 : Int64).toInt = 999)) (kS 3 ht m_1370 m_1371 m_89 m_1372 rfl rfl hd_X12_in_v ⟨Nat.le_of_ble_eq_true rfl, Nat.le_of_ble_eq_true rfl⟩) (sR noP (hK.sub (tys' := []) [] rfl)) rfl rfl hl.1 rfl (lv_room (Nat.le_of_ble_eq_true rfl)) dX12_cheat_17 ⟨Nat.le_of_ble_eq_true rfl, Nat.le_of_ble_eq_true rfl⟩) (fun r4 hr4 => ?_)
      rcases hr4 with ⟨rfl, fr4⟩ | ⟨rfl, fr4⟩
      · skip
        refine lv_if_eq (tgt := 48) hx hb dX12_cheat_20 (by decide) (fun c5 => ?_) (fun c5 => ?_)
        · exact absurd c5 (by decide)
        · skip
          refine lv_iload_n hx hb dX12_cheat_23 rfl (lv_at hl 3 rfl) ?_
          refine lv_i2l (v := (d.toInt64)) hx hb dX12_cheat_24 rfl ?_
          refine lv_lconst (v := 0) hx hb dX12_cheat_25 (by decide) ?_
          refine lv_ldc2 hx hb hown (ht _ m_1369) dX12_cheat_26 ?_
          refine vp_callSi (W.runS (As := [.long (d.toInt64), .long 0, .long 999]) (rest := []) ⟨hx, hb, hml, hown, ht⟩ (c_X12_in l dC dI (d.toInt64) 0 999 (d.toInt) (0) (999) ((Int32.toInt_toInt64 d).trans rfl) (by decide : (0 : Int64).toInt = 0) (by decide : (999 : Int64).toInt = 999)) (kS 3 ht m_1370 m_1371 m_89 m_1372 rfl rfl hd_X12_in_v ⟨Nat.le_of_ble_eq_true rfl, Nat.le_of_ble_eq_true rfl⟩) (sR noP (hK.sub (tys' := []) [] rfl)) rfl rfl hl.1 rfl (lv_room (Nat.le_of_ble_eq_true rfl)) dX12_cheat_29 ⟨Nat.le_of_ble_eq_true rfl, Nat.le_of_ble_eq_true rfl⟩) (fun r6 hr6 => ?_)
          rcases hr6 with ⟨rfl, fr6⟩ | ⟨rfl, fr6⟩
          · skip
            refine lv_if_eq (tgt := 48) hx hb dX12_cheat_32 (by decide) (fun c7 => ?_) (fun c7 => ?_)
            · exact absurd c7 (by decide)
            · skip
              refine lv_iload hx hb dX12_cheat_35 (lv_at hl 4 rfl) ?_
              refine lv_i2l (v := (k.toInt64)) hx hb dX12_cheat_37 rfl ?_
              refine lv_lconst (v := 0) hx hb dX12_cheat_38 (by decide) ?_
              refine lv_ldc2 hx hb hown (ht _ m_1369) dX12_cheat_39 ?_
              refine vp_callSi (W.runS (As := [.long (k.toInt64), .long 0, .long 999]) (rest := []) ⟨hx, hb, hml, hown, ht⟩ (c_X12_in l dC dI (k.toInt64) 0 999 (k.toInt) (0) (999) ((Int32.toInt_toInt64 k).trans rfl) (by decide : (0 : Int64).toInt = 0) (by decide : (999 : Int64).toInt = 999)) (kS 3 ht m_1370 m_1371 m_89 m_1372 rfl rfl hd_X12_in_v ⟨Nat.le_of_ble_eq_true rfl, Nat.le_of_ble_eq_true rfl⟩) (sR noP (hK.sub (tys' := []) [] rfl)) rfl rfl hl.1 rfl (lv_room (Nat.le_of_ble_eq_true rfl)) dX12_cheat_42 ⟨Nat.le_of_ble_eq_true rfl, Nat.le_of_ble_eq_true rfl⟩) (fun r8 hr8 => ?_)
              rcases hr8 with ⟨rfl, fr8⟩ | ⟨rfl, fr8⟩
              · skip
                refine lv_if_ne (tgt := 51) hx hb dX12_cheat_45 (by decide) (fun c9 => ?_) (fun c9 => ?_)
                · skip
                  refine lv_aload_n hx hb dX12_cheat_51 rfl (lv_at hl 0 rfl) ?_
                  refine lv_iload_n hx hb dX12_cheat_52 rfl (lv_at hl 1 rfl) ?_
                  refine lv_iconst (v := 0) hx hb dX12_cheat_53 (by decide) ?_
                  refine lv_aload_n hx hb dX12_cheat_54 rfl (lv_at hl 0 rfl) ?_
                  have i_12_0 : 0 ≤ (iv 12 0).toInt ∧ (iv 12 0).toInt ≤ 3000 := hI.1 12 0
                  refine gM_12_0 hx hb ht hown hK hP m_1139 (v := (iv 12 0)) rfl dX12_cheat_55 ?_
                  have hFc := free_all hD hS hA
                  refine va_calli (va_runV (As := [.int a, .int 0, .int (iv 12 0)]) (rest := []) ⟨hx, hb, hml, hown, ht⟩ (c_X12_sumUp_x l dC dI s.heap.size h g ca iv lv fa la hI a 0 (iv 12 0) hJR) (kV 3 ht m_1434 m_1436 m_45 m_89 m_1437 rfl rfl hd_X12_sumUp_v ⟨Nat.le_of_ble_eq_true rfl, Nat.le_of_ble_eq_true rfl⟩) (vW hP hK hD (rM_12 hK hP)) rfl rfl hl.1 rfl (lv_room (Nat.le_of_ble_eq_true rfl)) dX12_cheat_58 ⟨Nat.le_of_ble_eq_true rfl, Nat.le_of_ble_eq_true rfl⟩) hS (fun q _ h => hFc q h) hFc (fun r10 u t H1 locs ht9 hvm hr10 hB hz1 hk1 hS => ?_)
                  obtain ⟨n11, n12, n13, xr10_0, xr10_1, xr10_2, xr10_3, xr10_4, hr10, rfl⟩ := hr10
                  obtain ⟨hP, hD⟩ := hB
                  rw [ht9] at hP
                  generalize H1 = H at hP hS ⊢
                  have hP : va_P (dC, dI) classes (WM h g ca (u2 iv 12 19 n11) (u2 (u2 lv 12 17 n12) 12 18 n13) fa la) H := hP
                  have hD : va_D A (WM h g ca (u2 iv 12 19 n11) (u2 (u2 lv 12 17 n12) 12 18 n13) fa la) := (show va_D _ (WM h g ca (u2 iv 12 19 n11) (u2 (u2 lv 12 17 n12) 12 18 n13) fa la) from hD).weaken (fun _ _ _ h => hFc _ h)
                  have xr10_0 : 0 ≤ (r10 : Int32).toInt := xr10_0
                  have xr10_1 : (r10 : Int32).toInt ≤ 60 := xr10_1
                  have xr10_2 : 0 ≤ (n13 : Int64).toInt := xr10_2
                  have xr10_3 : (n13 : Int64).toInt ≤ 599940 := xr10_3
                  have xr10_4 : 100 * (r10 : Int32).toInt ≤ (n13 : Int64).toInt := xr10_4
                  refine lv_istore (lv' := [(5, .int r10), (0, .ref h), (1, .int a), (2, .int b), (3, .int d), (4, .int k)]) hx hb dX12_cheat_61 hl (by decide) rfl (fun ls hl => ?_)
                  refine lv_iload hx hb dX12_cheat_63 (lv_at hl 0 rfl) ?_
                  refine lv_if_ne (tgt := 72) hx hb dX12_cheat_65 (by decide) (fun c14 => ?_) (fun c14 => ?_)
                  · have fc14 := z_ne (rfl : (r10).toInt = _) (by decide : (0 : Int32).toInt = 0) c14
                    refine lv_ldc2 hx hb hown (ht _ m_1543) dX12_cheat_72 ?_
                    refine lv_aload_n hx hb dX12_cheat_75 rfl (lv_at hl 1 rfl) ?_
                    refine gM_12_18 hx hb ht hown hK hP m_1157 (v := n13) rfl dX12_cheat_76 ?_
                    refine lv_aload_n hx hb dX12_cheat_79 rfl (lv_at hl 1 rfl) ?_
                    refine gM_12_17 hx hb ht hown hK hP m_1156 (v := n12) rfl dX12_cheat_80 ?_
                    refine lv_lsub hx hb dX12_cheat_83 ?_
                    refine lv_topl (fun w15 ew15 => ?_)
                    refine lv_lmul hx hb dX12_cheat_84 ?_
                    refine lv_topl (fun w16 ew16 => ?_)
                    refine lv_aload_n hx hb dX12_cheat_85 rfl (lv_at hl 1 rfl) ?_
                    refine gM_12_18 hx hb ht hown hK hP m_1157 (v := n13) rfl dX12_cheat_86 ?_
                    have zw17 : (n13 : Int64).toInt ≠ 0 := by omega
                    refine lv_ldiv hx hb dX12_cheat_89 (l_nz rfl zw17) ?_
                    refine lv_topl (fun w17 ew17 => ?_)
                    have tw17 := l_div ew17 (rfl : (w16 : Int64).toInt = _) (rfl : (n13 : Int64).toInt = _) zw17
                    obtain ⟨v18, ev18⟩ : ∃ y : Int32, w17.toInt32 = y := ⟨_, rfl⟩
                    refine lv_l2i (v := v18) hx hb dX12_cheat_90 ev18 ?_
                    refine lv_istore (lv' := [(6, .int v18), (5, .int r10), (0, .ref h), (1, .int a), (2, .int b), (3, .int d), (4, .int k)]) hx hb dX12_cheat_91 hl (by decide) rfl (fun ls hl => ?_)
                    refine lv_aload_n hx hb dX12_cheat_93 rfl (lv_at hl 2 rfl) ?_
                    refine gM_12_55 hx hb ht hown hK hP m_1194 dX12_cheat_94 ?_
                    refine lv_iload_n hx hb dX12_cheat_97 rfl (lv_at hl 3 rfl) ?_
                    refine lM_12_55 hx hb hK hP (f := (fa 12 55)) rfl (vp_in_iff.mpr ⟨by omega, by omega⟩) dX12_cheat_98 ?_
                    refine lv_topi (fun v19 ev19 => ?_)
                    refine lv_iload_n hx hb dX12_cheat_99 rfl (lv_at hl 4 rfl) ?_
                    refine lv_icmp_le (tgt := 107) hx hb dX12_cheat_100 (by decide) (fun c20 => ?_) (fun c20 => ?_)
                    · have fc20 := z_le (rfl : (v19).toInt = _) (rfl : (b).toInt = _) c20
                      refine lv_iconst (v := 0) hx hb dX12_cheat_107 (by decide) ?_
                      refine vp_callSi (W.runS (As := [.int 0]) (rest := []) ⟨hx, hb, hml, hown, ht⟩ (c_X12_bit_0 l dC dI) (kS 1 ht m_1396 m_1397 m_89 m_1398 rfl rfl hd_X12_bit_v ⟨Nat.le_of_ble_eq_true rfl, Nat.le_of_ble_eq_true rfl⟩) (sR noP (hK.sub (tys' := []) [] rfl)) rfl rfl hl.1 rfl (lv_room (Nat.le_of_ble_eq_true rfl)) dX12_cheat_108 ⟨Nat.le_of_ble_eq_true rfl, Nat.le_of_ble_eq_true rfl⟩) (fun r21 hr21 => ?_)
                      obtain rfl : 0 = r21 := hr21.symm
                      refine lv_iconst (v := 2) hx hb dX12_cheat_111 (by decide) ?_
                      refine lv_aload_n hx hb dX12_cheat_112 rfl (lv_at hl 2 rfl) ?_
                      refine gM_12_56 hx hb ht hown hK hP m_1195 dX12_cheat_113 ?_
                      refine lv_iload_n hx hb dX12_cheat_116 rfl (lv_at hl 3 rfl) ?_
                      refine lM_12_56 hx hb hK hP (f := (fa 12 56)) rfl (vp_in_iff.mpr ⟨by omega, by omega⟩) dX12_cheat_117 ?_
                      refine lv_topi (fun v22 ev22 => ?_)
                      refine lv_iload_n hx hb dX12_cheat_118 rfl (lv_at hl 5 rfl) ?_
                      refine lv_icmp_le (tgt := 126) hx hb dX12_cheat_119 (by decide) (fun c23 => ?_) (fun c23 => ?_)
                      · have fc23 := z_le (rfl : (v22).toInt = _) (rfl : (d).toInt = _) c23
                        refine lv_iconst (v := 0) hx hb dX12_cheat_126 (by decide) ?_
                        refine vp_callSi (W.runS (As := [.int 0]) (rest := [.int 2, .int 0]) ⟨hx, hb, hml, hown, ht⟩ (c_X12_bit_0 l dC dI) (kS 1 ht m_1396 m_1397 m_89 m_1398 rfl rfl hd_X12_bit_v ⟨Nat.le_of_ble_eq_true rfl, Nat.le_of_ble_eq_true rfl⟩) (sR noP (hK.sub (tys' := []) [] rfl)) rfl rfl hl.1 rfl (lv_room (Nat.le_of_ble_eq_true rfl)) dX12_cheat_127 ⟨Nat.le_of_ble_eq_true rfl, Nat.le_of_ble_eq_true rfl⟩) (fun r24 hr24 => ?_)
                        obtain rfl : 0 = r24 := hr24.symm
                        refine lv_imul hx hb dX12_cheat_130 ?_
                        refine lv_topi (fun v25 ev25 => ?_)
                        obtain rfl : 0 = v25 := (ev25.trans (by decide)).symm
                        refine lv_iadd hx hb dX12_cheat_131 ?_
                        refine lv_topi (fun v26 ev26 => ?_)
                        obtain rfl : 0 = v26 := (ev26.trans (by decide)).symm
                        refine lv_iconst (v := 4) hx hb dX12_cheat_132 (by decide) ?_
                        refine lv_aload_n hx hb dX12_cheat_133 rfl (lv_at hl 2 rfl) ?_
                        refine gM_12_55 hx hb ht hown hK hP m_1194 dX12_cheat_134 ?_
                        refine lv_iload_n hx hb dX12_cheat_137 rfl (lv_at hl 3 rfl) ?_
                        refine lM_12_55 hx hb hK hP (f := (fa 12 55)) rfl (vp_in_iff.mpr ⟨by omega, by omega⟩) dX12_cheat_138 ?_
                        refine lv_topi (fun v27 ev27 => ?_)
                        obtain rfl : v19 = v27 := ev19.trans ev27.symm
                        refine lv_aload_n hx hb dX12_cheat_139 rfl (lv_at hl 2 rfl) ?_
                        refine gM_12_56 hx hb ht hown hK hP m_1195 dX12_cheat_140 ?_
                        refine lv_iload_n hx hb dX12_cheat_143 rfl (lv_at hl 3 rfl) ?_
                        refine lM_12_56 hx hb hK hP (f := (fa 12 56)) rfl (vp_in_iff.mpr ⟨by omega, by omega⟩) dX12_cheat_144 ?_
                        refine lv_topi (fun v28 ev28 => ?_)
                        obtain rfl : v22 = v28 := ev22.trans ev28.symm
                        refine lv_iadd hx hb dX12_cheat_145 ?_
                        refine lv_topi (fun v29 ev29 => ?_)
                        refine lv_iload hx hb dX12_cheat_146 (lv_at hl 0 rfl) ?_
                        refine lv_iadd hx hb dX12_cheat_148 ?_
                        refine lv_topi (fun v30 ev30 => ?_)
                        refine lv_iload hx hb dX12_cheat_149 (lv_at hl 6 rfl) ?_
                        refine lv_icmp_le (tgt := 158) hx hb dX12_cheat_151 (by decide) (fun c31 => ?_) (fun c31 => ?_)
                        · have fc31 := z_le (rfl : (v30).toInt = _) (rfl : (k).toInt = _) c31
                          refine lv_iconst (v := 0) hx hb dX12_cheat_158 (by decide) ?_
                          refine vp_callSi (W.runS (As := [.int 0]) (rest := [.int 4, .int 0]) ⟨hx, hb, hml, hown, ht⟩ (c_X12_bit_0 l dC dI) (kS 1 ht m_1396 m_1397 m_89 m_1398 rfl rfl hd_X12_bit_v ⟨Nat.le_of_ble_eq_true rfl, Nat.le_of_ble_eq_true rfl⟩) (sR noP (hK.sub (tys' := []) [] rfl)) rfl rfl hl.1 rfl (lv_room (Nat.le_of_ble_eq_true rfl)) dX12_cheat_159 ⟨Nat.le_of_ble_eq_true rfl, Nat.le_of_ble_eq_true rfl⟩) (fun r32 hr32 => ?_)
                          obtain rfl : 0 = r32 := hr32.symm
                          refine lv_imul hx hb dX12_cheat_162 ?_
                          refine lv_topi (fun v33 ev33 => ?_)
                          obtain rfl : 0 = v33 := (ev33.trans (by decide)).symm
                          refine lv_iadd hx hb dX12_cheat_163 ?_
                          refine lv_topi (fun v34 ev34 => ?_)
                          obtain rfl : 0 = v34 := (ev34.trans (by decide)).symm
                          have hP9 : va_P (dC, dI) classes (WM h g ca (u2 iv 12 19 n11) (u2 (u2 lv 12 17 n12) 12 18 n13) fa la) H := hP
                          have hD9 : va_D A (WM h g ca (u2 iv 12 19 n11) (u2 (u2 lv 12 17 n12) 12 18 n13) fa la) := hD
                          exact W.iret (v := 0) hx hb hr (fun t ht9 hW => ⟨⟨0, ((u2 iv 12 19 n11), (u2 (u2 lv 12 17 n12) 12 18 n13), fa, la), rfl, ⟨n11, n12, n13, ⟨by decide, by decide⟩, rfl⟩, by rw [ht9]; exact hP9, hD9⟩, hS.F ht9⟩) hS.2.2 dX12_cheat_164
                        · have fc31 := z_nle (rfl : (v30).toInt = _) (rfl : (k).toInt = _) c31
                          refine lv_iconst (v := 1) hx hb dX12_cheat_154 (by decide) ?_
                          refine lv_goto (tgt := 159) hx hb dX12_cheat_155 (by decide) ?_
                          refine vp_callSi (W.runS (As := [.int 1]) (rest := [.int 4, .int 0]) ⟨hx, hb, hml, hown, ht⟩ (c_X12_bit_1 l dC dI) (kS 1 ht m_1396 m_1397 m_89 m_1398 rfl rfl hd_X12_bit_v ⟨Nat.le_of_ble_eq_true rfl, Nat.le_of_ble_eq_true rfl⟩) (sR noP (hK.sub (tys' := []) [] rfl)) rfl rfl hl.1 rfl (lv_room (Nat.le_of_ble_eq_true rfl)) dX12_cheat_159 ⟨Nat.le_of_ble_eq_true rfl, Nat.le_of_ble_eq_true rfl⟩) (fun r35 hr35 => ?_)
                          obtain rfl : 1 = r35 := hr35.symm
                          refine lv_imul hx hb dX12_cheat_162 ?_
                          refine lv_topi (fun v36 ev36 => ?_)
                          obtain rfl : 4 = v36 := (ev36.trans (by decide)).symm
                          refine lv_iadd hx hb dX12_cheat_163 ?_
                          refine lv_topi (fun v37 ev37 => ?_)
                          obtain rfl : 4 = v37 := (ev37.trans (by decide)).symm
                          have hP9 : va_P (dC, dI) classes (WM h g ca (u2 iv 12 19 n11) (u2 (u2 lv 12 17 n12) 12 18 n13) fa la) H := hP
                          have hD9 : va_D A (WM h g ca (u2 iv 12 19 n11) (u2 (u2 lv 12 17 n12) 12 18 n13) fa la) := hD
                          exact W.iret (v := 4) hx hb hr (fun t ht9 hW => ⟨⟨4, ((u2 iv 12 19 n11), (u2 (u2 lv 12 17 n12) 12 18 n13), fa, la), rfl, ⟨n11, n12, n13, ⟨by decide, by decide⟩, rfl⟩, by rw [ht9]; exact hP9, hD9⟩, hS.F ht9⟩) hS.2.2 dX12_cheat_164
                      · have fc23 := z_nle (rfl : (v22).toInt = _) (rfl : (d).toInt = _) c23
                        refine lv_iconst (v := 1) hx hb dX12_cheat_122 (by decide) ?_
                        refine lv_goto (tgt := 127) hx hb dX12_cheat_123 (by decide) ?_
                        refine vp_callSi (W.runS (As := [.int 1]) (rest := [.int 2, .int 0]) ⟨hx, hb, hml, hown, ht⟩ (c_X12_bit_1 l dC dI) (kS 1 ht m_1396 m_1397 m_89 m_1398 rfl rfl hd_X12_bit_v ⟨Nat.le_of_ble_eq_true rfl, Nat.le_of_ble_eq_true rfl⟩) (sR noP (hK.sub (tys' := []) [] rfl)) rfl rfl hl.1 rfl (lv_room (Nat.le_of_ble_eq_true rfl)) dX12_cheat_127 ⟨Nat.le_of_ble_eq_true rfl, Nat.le_of_ble_eq_true rfl⟩) (fun r38 hr38 => ?_)
                        obtain rfl : 1 = r38 := hr38.symm
                        refine lv_imul hx hb dX12_cheat_130 ?_
                        refine lv_topi (fun v39 ev39 => ?_)
                        obtain rfl : 2 = v39 := (ev39.trans (by decide)).symm
                        refine lv_iadd hx hb dX12_cheat_131 ?_
                        refine lv_topi (fun v40 ev40 => ?_)
                        obtain rfl : 2 = v40 := (ev40.trans (by decide)).symm
                        refine lv_iconst (v := 4) hx hb dX12_cheat_132 (by decide) ?_
                        refine lv_aload_n hx hb dX12_cheat_133 rfl (lv_at hl 2 rfl) ?_
                        refine gM_12_55 hx hb ht hown hK hP m_1194 dX12_cheat_134 ?_
                        refine lv_iload_n hx hb dX12_cheat_137 rfl (lv_at hl 3 rfl) ?_
                        refine lM_12_55 hx hb hK hP (f := (fa 12 55)) rfl (vp_in_iff.mpr ⟨by omega, by omega⟩) dX12_cheat_138 ?_
                        refine lv_topi (fun v41 ev41 => ?_)
                        obtain rfl : v19 = v41 := ev19.trans ev41.symm
                        refine lv_aload_n hx hb dX12_cheat_139 rfl (lv_at hl 2 rfl) ?_
                        refine gM_12_56 hx hb ht hown hK hP m_1195 dX12_cheat_140 ?_
                        refine lv_iload_n hx hb dX12_cheat_143 rfl (lv_at hl 3 rfl) ?_
                        refine lM_12_56 hx hb hK hP (f := (fa 12 56)) rfl (vp_in_iff.mpr ⟨by omega, by omega⟩) dX12_cheat_144 ?_
                        refine lv_topi (fun v42 ev42 => ?_)
                        obtain rfl : v22 = v42 := ev22.trans ev42.symm
                        refine lv_iadd hx hb dX12_cheat_145 ?_
                        refine lv_topi (fun v43 ev43 => ?_)
                        refine lv_iload hx hb dX12_cheat_146 (lv_at hl 0 rfl) ?_
                        refine lv_iadd hx hb dX12_cheat_148 ?_
                        refine lv_topi (fun v44 ev44 => ?_)
                        refine lv_iload hx hb dX12_cheat_149 (lv_at hl 6 rfl) ?_
                        refine lv_icmp_le (tgt := 158) hx hb dX12_cheat_151 (by decide) (fun c45 => ?_) (fun c45 => ?_)
                        · have fc45 := z_le (rfl : (v44).toInt = _) (rfl : (k).toInt = _) c45
                          refine lv_iconst (v := 0) hx hb dX12_cheat_158 (by decide) ?_
                          refine vp_callSi (W.runS (As := [.int 0]) (rest := [.int 4, .int 2]) ⟨hx, hb, hml, hown, ht⟩ (c_X12_bit_0 l dC dI) (kS 1 ht m_1396 m_1397 m_89 m_1398 rfl rfl hd_X12_bit_v ⟨Nat.le_of_ble_eq_true rfl, Nat.le_of_ble_eq_true rfl⟩) (sR noP (hK.sub (tys' := []) [] rfl)) rfl rfl hl.1 rfl (lv_room (Nat.le_of_ble_eq_true rfl)) dX12_cheat_159 ⟨Nat.le_of_ble_eq_true rfl, Nat.le_of_ble_eq_true rfl⟩) (fun r46 hr46 => ?_)
                          obtain rfl : 0 = r46 := hr46.symm
                          refine lv_imul hx hb dX12_cheat_162 ?_
                          refine lv_topi (fun v47 ev47 => ?_)
                          obtain rfl : 0 = v47 := (ev47.trans (by decide)).symm
                          refine lv_iadd hx hb dX12_cheat_163 ?_
                          refine lv_topi (fun v48 ev48 => ?_)
                          obtain rfl : 2 = v48 := (ev48.trans (by decide)).symm
                          have hP9 : va_P (dC, dI) classes (WM h g ca (u2 iv 12 19 n11) (u2 (u2 lv 12 17 n12) 12 18 n13) fa la) H := hP
                          have hD9 : va_D A (WM h g ca (u2 iv 12 19 n11) (u2 (u2 lv 12 17 n12) 12 18 n13) fa la) := hD
                          exact W.iret (v := 2) hx hb hr (fun t ht9 hW => ⟨⟨2, ((u2 iv 12 19 n11), (u2 (u2 lv 12 17 n12) 12 18 n13), fa, la), rfl, ⟨n11, n12, n13, ⟨by decide, by decide⟩, rfl⟩, by rw [ht9]; exact hP9, hD9⟩, hS.F ht9⟩) hS.2.2 dX12_cheat_164
                        · have fc45 := z_nle (rfl : (v44).toInt = _) (rfl : (k).toInt = _) c45
                          refine lv_iconst (v := 1) hx hb dX12_cheat_154 (by decide) ?_
                          refine lv_goto (tgt := 159) hx hb dX12_cheat_155 (by decide) ?_
                          refine vp_callSi (W.runS (As := [.int 1]) (rest := [.int 4, .int 2]) ⟨hx, hb, hml, hown, ht⟩ (c_X12_bit_1 l dC dI) (kS 1 ht m_1396 m_1397 m_89 m_1398 rfl rfl hd_X12_bit_v ⟨Nat.le_of_ble_eq_true rfl, Nat.le_of_ble_eq_true rfl⟩) (sR noP (hK.sub (tys' := []) [] rfl)) rfl rfl hl.1 rfl (lv_room (Nat.le_of_ble_eq_true rfl)) dX12_cheat_159 ⟨Nat.le_of_ble_eq_true rfl, Nat.le_of_ble_eq_true rfl⟩) (fun r49 hr49 => ?_)
                          obtain rfl : 1 = r49 := hr49.symm
                          refine lv_imul hx hb dX12_cheat_162 ?_
                          refine lv_topi (fun v50 ev50 => ?_)
                          obtain rfl : 4 = v50 := (ev50.trans (by decide)).symm
                          refine lv_iadd hx hb dX12_cheat_163 ?_
                          refine lv_topi (fun v51 ev51 => ?_)
                          obtain rfl : 6 = v51 := (ev51.trans (by decide)).symm
                          have hP9 : va_P (dC, dI) classes (WM h g ca (u2 iv 12 19 n11) (u2 (u2 lv 12 17 n12) 12 18 n13) fa la) H := hP
                          have hD9 : va_D A (WM h g ca (u2 iv 12 19 n11) (u2 (u2 lv 12 17 n12) 12 18 n13) fa la) := hD
                          exact W.iret (v := 6) hx hb hr (fun t ht9 hW => ⟨⟨6, ((u2 iv 12 19 n11), (u2 (u2 lv 12 17 n12) 12 18 n13), fa, la), rfl, ⟨n11, n12, n13, ⟨by decide, by decide⟩, rfl⟩, by rw [ht9]; exact hP9, hD9⟩, hS.F ht9⟩) hS.2.2 dX12_cheat_164
                    · have fc20 := z_nle (rfl : (v19).toInt = _) (rfl : (b).toInt = _) c20
                      refine lv_iconst (v := 1) hx hb dX12_cheat_103 (by decide) ?_
                      refine lv_goto (tgt := 108) hx hb dX12_cheat_104 (by decide) ?_
                      refine vp_callSi (W.runS (As := [.int 1]) (rest := []) ⟨hx, hb, hml, hown, ht⟩ (c_X12_bit_1 l dC dI) (kS 1 ht m_1396 m_1397 m_89 m_1398 rfl rfl hd_X12_bit_v ⟨Nat.le_of_ble_eq_true rfl, Nat.le_of_ble_eq_true rfl⟩) (sR noP (hK.sub (tys' := []) [] rfl)) rfl rfl hl.1 rfl (lv_room (Nat.le_of_ble_eq_true rfl)) dX12_cheat_108 ⟨Nat.le_of_ble_eq_true rfl, Nat.le_of_ble_eq_true rfl⟩) (fun r52 hr52 => ?_)
                      obtain rfl : 1 = r52 := hr52.symm
                      refine lv_iconst (v := 2) hx hb dX12_cheat_111 (by decide) ?_
                      refine lv_aload_n hx hb dX12_cheat_112 rfl (lv_at hl 2 rfl) ?_
                      refine gM_12_56 hx hb ht hown hK hP m_1195 dX12_cheat_113 ?_
                      refine lv_iload_n hx hb dX12_cheat_116 rfl (lv_at hl 3 rfl) ?_
                      refine lM_12_56 hx hb hK hP (f := (fa 12 56)) rfl (vp_in_iff.mpr ⟨by omega, by omega⟩) dX12_cheat_117 ?_
                      refine lv_topi (fun v53 ev53 => ?_)
                      refine lv_iload_n hx hb dX12_cheat_118 rfl (lv_at hl 5 rfl) ?_
                      refine lv_icmp_le (tgt := 126) hx hb dX12_cheat_119 (by decide) (fun c54 => ?_) (fun c54 => ?_)
                      · have fc54 := z_le (rfl : (v53).toInt = _) (rfl : (d).toInt = _) c54
                        refine lv_iconst (v := 0) hx hb dX12_cheat_126 (by decide) ?_
                        refine vp_callSi (W.runS (As := [.int 0]) (rest := [.int 2, .int 1]) ⟨hx, hb, hml, hown, ht⟩ (c_X12_bit_0 l dC dI) (kS 1 ht m_1396 m_1397 m_89 m_1398 rfl rfl hd_X12_bit_v ⟨Nat.le_of_ble_eq_true rfl, Nat.le_of_ble_eq_true rfl⟩) (sR noP (hK.sub (tys' := []) [] rfl)) rfl rfl hl.1 rfl (lv_room (Nat.le_of_ble_eq_true rfl)) dX12_cheat_127 ⟨Nat.le_of_ble_eq_true rfl, Nat.le_of_ble_eq_true rfl⟩) (fun r55 hr55 => ?_)
                        obtain rfl : 0 = r55 := hr55.symm
                        refine lv_imul hx hb dX12_cheat_130 ?_
                        refine lv_topi (fun v56 ev56 => ?_)
                        obtain rfl : 0 = v56 := (ev56.trans (by decide)).symm
                        refine lv_iadd hx hb dX12_cheat_131 ?_
                        refine lv_topi (fun v57 ev57 => ?_)
                        obtain rfl : 1 = v57 := (ev57.trans (by decide)).symm
                        refine lv_iconst (v := 4) hx hb dX12_cheat_132 (by decide) ?_
                        refine lv_aload_n hx hb dX12_cheat_133 rfl (lv_at hl 2 rfl) ?_
                        refine gM_12_55 hx hb ht hown hK hP m_1194 dX12_cheat_134 ?_
                        refine lv_iload_n hx hb dX12_cheat_137 rfl (lv_at hl 3 rfl) ?_
                        refine lM_12_55 hx hb hK hP (f := (fa 12 55)) rfl (vp_in_iff.mpr ⟨by omega, by omega⟩) dX12_cheat_138 ?_
                        refine lv_topi (fun v58 ev58 => ?_)
                        obtain rfl : v19 = v58 := ev19.trans ev58.symm
                        refine lv_aload_n hx hb dX12_cheat_139 rfl (lv_at hl 2 rfl) ?_
                        refine gM_12_56 hx hb ht hown hK hP m_1195 dX12_cheat_140 ?_
                        refine lv_iload_n hx hb dX12_cheat_143 rfl (lv_at hl 3 rfl) ?_
                        refine lM_12_56 hx hb hK hP (f := (fa 12 56)) rfl (vp_in_iff.mpr ⟨by omega, by omega⟩) dX12_cheat_144 ?_
                        refine lv_topi (fun v59 ev59 => ?_)
                        obtain rfl : v53 = v59 := ev53.trans ev59.symm
                        refine lv_iadd hx hb dX12_cheat_145 ?_
                        refine lv_topi (fun v60 ev60 => ?_)
                        refine lv_iload hx hb dX12_cheat_146 (lv_at hl 0 rfl) ?_
                        refine lv_iadd hx hb dX12_cheat_148 ?_
                        refine lv_topi (fun v61 ev61 => ?_)
                        refine lv_iload hx hb dX12_cheat_149 (lv_at hl 6 rfl) ?_
                        refine lv_icmp_le (tgt := 158) hx hb dX12_cheat_151 (by decide) (fun c62 => ?_) (fun c62 => ?_)
                        · have fc62 := z_le (rfl : (v61).toInt = _) (rfl : (k).toInt = _) c62
                          refine lv_iconst (v := 0) hx hb dX12_cheat_158 (by decide) ?_
                          refine vp_callSi (W.runS (As := [.int 0]) (rest := [.int 4, .int 1]) ⟨hx, hb, hml, hown, ht⟩ (c_X12_bit_0 l dC dI) (kS 1 ht m_1396 m_1397 m_89 m_1398 rfl rfl hd_X12_bit_v ⟨Nat.le_of_ble_eq_true rfl, Nat.le_of_ble_eq_true rfl⟩) (sR noP (hK.sub (tys' := []) [] rfl)) rfl rfl hl.1 rfl (lv_room (Nat.le_of_ble_eq_true rfl)) dX12_cheat_159 ⟨Nat.le_of_ble_eq_true rfl, Nat.le_of_ble_eq_true rfl⟩) (fun r63 hr63 => ?_)
                          obtain rfl : 0 = r63 := hr63.symm
                          refine lv_imul hx hb dX12_cheat_162 ?_
                          refine lv_topi (fun v64 ev64 => ?_)
                          obtain rfl : 0 = v64 := (ev64.trans (by decide)).symm
                          refine lv_iadd hx hb dX12_cheat_163 ?_
                          refine lv_topi (fun v65 ev65 => ?_)
                          obtain rfl : 1 = v65 := (ev65.trans (by decide)).symm
                          have hP9 : va_P (dC, dI) classes (WM h g ca (u2 iv 12 19 n11) (u2 (u2 lv 12 17 n12) 12 18 n13) fa la) H := hP
                          have hD9 : va_D A (WM h g ca (u2 iv 12 19 n11) (u2 (u2 lv 12 17 n12) 12 18 n13) fa la) := hD
                          exact W.iret (v := 1) hx hb hr (fun t ht9 hW => ⟨⟨1, ((u2 iv 12 19 n11), (u2 (u2 lv 12 17 n12) 12 18 n13), fa, la), rfl, ⟨n11, n12, n13, ⟨by decide, by decide⟩, rfl⟩, by rw [ht9]; exact hP9, hD9⟩, hS.F ht9⟩) hS.2.2 dX12_cheat_164
                        · have fc62 := z_nle (rfl : (v61).toInt = _) (rfl : (k).toInt = _) c62
                          refine lv_iconst (v := 1) hx hb dX12_cheat_154 (by decide) ?_
                          refine lv_goto (tgt := 159) hx hb dX12_cheat_155 (by decide) ?_
                          refine vp_callSi (W.runS (As := [.int 1]) (rest := [.int 4, .int 1]) ⟨hx, hb, hml, hown, ht⟩ (c_X12_bit_1 l dC dI) (kS 1 ht m_1396 m_1397 m_89 m_1398 rfl rfl hd_X12_bit_v ⟨Nat.le_of_ble_eq_true rfl, Nat.le_of_ble_eq_true rfl⟩) (sR noP (hK.sub (tys' := []) [] rfl)) rfl rfl hl.1 rfl (lv_room (Nat.le_of_ble_eq_true rfl)) dX12_cheat_159 ⟨Nat.le_of_ble_eq_true rfl, Nat.le_of_ble_eq_true rfl⟩) (fun r66 hr66 => ?_)
                          obtain rfl : 1 = r66 := hr66.symm
                          refine lv_imul hx hb dX12_cheat_162 ?_
                          refine lv_topi (fun v67 ev67 => ?_)
                          obtain rfl : 4 = v67 := (ev67.trans (by decide)).symm
                          refine lv_iadd hx hb dX12_cheat_163 ?_
                          refine lv_topi (fun v68 ev68 => ?_)
                          obtain rfl : 5 = v68 := (ev68.trans (by decide)).symm
                          have hP9 : va_P (dC, dI) classes (WM h g ca (u2 iv 12 19 n11) (u2 (u2 lv 12 17 n12) 12 18 n13) fa la) H := hP
                          have hD9 : va_D A (WM h g ca (u2 iv 12 19 n11) (u2 (u2 lv 12 17 n12) 12 18 n13) fa la) := hD
                          exact W.iret (v := 5) hx hb hr (fun t ht9 hW => ⟨⟨5, ((u2 iv 12 19 n11), (u2 (u2 lv 12 17 n12) 12 18 n13), fa, la), rfl, ⟨n11, n12, n13, ⟨by decide, by decide⟩, rfl⟩, by rw [ht9]; exact hP9, hD9⟩, hS.F ht9⟩) hS.2.2 dX12_cheat_164
                      · have fc54 := z_nle (rfl : (v53).toInt = _) (rfl : (d).toInt = _) c54
                        refine lv_iconst (v := 1) hx hb dX12_cheat_122 (by decide) ?_
                        refine lv_goto (tgt := 127) hx hb dX12_cheat_123 (by decide) ?_
                        refine vp_callSi (W.runS (As := [.int 1]) (rest := [.int 2, .int 1]) ⟨hx, hb, hml, hown, ht⟩ (c_X12_bit_1 l dC dI) (kS 1 ht m_1396 m_1397 m_89 m_1398 rfl rfl hd_X12_bit_v ⟨Nat.le_of_ble_eq_true rfl, Nat.le_of_ble_eq_true rfl⟩) (sR noP (hK.sub (tys' := []) [] rfl)) rfl rfl hl.1 rfl (lv_room (Nat.le_of_ble_eq_true rfl)) dX12_cheat_127 ⟨Nat.le_of_ble_eq_true rfl, Nat.le_of_ble_eq_true rfl⟩) (fun r69 hr69 => ?_)
                        obtain rfl : 1 = r69 := hr69.symm
                        refine lv_imul hx hb dX12_cheat_130 ?_
                        refine lv_topi (fun v70 ev70 => ?_)
                        obtain rfl : 2 = v70 := (ev70.trans (by decide)).symm
                        refine lv_iadd hx hb dX12_cheat_131 ?_
                        refine lv_topi (fun v71 ev71 => ?_)
                        obtain rfl : 3 = v71 := (ev71.trans (by decide)).symm
                        refine lv_iconst (v := 4) hx hb dX12_cheat_132 (by decide) ?_
                        refine lv_aload_n hx hb dX12_cheat_133 rfl (lv_at hl 2 rfl) ?_
                        refine gM_12_55 hx hb ht hown hK hP m_1194 dX12_cheat_134 ?_
                        refine lv_iload_n hx hb dX12_cheat_137 rfl (lv_at hl 3 rfl) ?_
                        refine lM_12_55 hx hb hK hP (f := (fa 12 55)) rfl (vp_in_iff.mpr ⟨by omega, by omega⟩) dX12_cheat_138 ?_
                        refine lv_topi (fun v72 ev72 => ?_)
                        obtain rfl : v19 = v72 := ev19.trans ev72.symm
                        refine lv_aload_n hx hb dX12_cheat_139 rfl (lv_at hl 2 rfl) ?_
                        refine gM_12_56 hx hb ht hown hK hP m_1195 dX12_cheat_140 ?_
                        refine lv_iload_n hx hb dX12_cheat_143 rfl (lv_at hl 3 rfl) ?_
                        refine lM_12_56 hx hb hK hP (f := (fa 12 56)) rfl (vp_in_iff.mpr ⟨by omega, by omega⟩) dX12_cheat_144 ?_
                        refine lv_topi (fun v73 ev73 => ?_)
                        obtain rfl : v53 = v73 := ev53.trans ev73.symm
                        refine lv_iadd hx hb dX12_cheat_145 ?_
                        refine lv_topi (fun v74 ev74 => ?_)
                        refine lv_iload hx hb dX12_cheat_146 (lv_at hl 0 rfl) ?_
                        refine lv_iadd hx hb dX12_cheat_148 ?_
                        refine lv_topi (fun v75 ev75 => ?_)
                        refine lv_iload hx hb dX12_cheat_149 (lv_at hl 6 rfl) ?_
                        refine lv_icmp_le (tgt := 158) hx hb dX12_cheat_151 (by decide) (fun c76 => ?_) (fun c76 => ?_)
                        · have fc76 := z_le (rfl : (v75).toInt = _) (rfl : (k).toInt = _) c76
                          refine lv_iconst (v := 0) hx hb dX12_cheat_158 (by decide) ?_
                          refine vp_callSi (W.runS (As := [.int 0]) (rest := [.int 4, .int 3]) ⟨hx, hb, hml, hown, ht⟩ (c_X12_bit_0 l dC dI) (kS 1 ht m_1396 m_1397 m_89 m_1398 rfl rfl hd_X12_bit_v ⟨Nat.le_of_ble_eq_true rfl, Nat.le_of_ble_eq_true rfl⟩) (sR noP (hK.sub (tys' := []) [] rfl)) rfl rfl hl.1 rfl (lv_room (Nat.le_of_ble_eq_true rfl)) dX12_cheat_159 ⟨Nat.le_of_ble_eq_true rfl, Nat.le_of_ble_eq_true rfl⟩) (fun r77 hr77 => ?_)
                          obtain rfl : 0 = r77 := hr77.symm
                          refine lv_imul hx hb dX12_cheat_162 ?_
                          refine lv_topi (fun v78 ev78 => ?_)
                          obtain rfl : 0 = v78 := (ev78.trans (by decide)).symm
                          refine lv_iadd hx hb dX12_cheat_163 ?_
                          refine lv_topi (fun v79 ev79 => ?_)
                          obtain rfl : 3 = v79 := (ev79.trans (by decide)).symm
                          have hP9 : va_P (dC, dI) classes (WM h g ca (u2 iv 12 19 n11) (u2 (u2 lv 12 17 n12) 12 18 n13) fa la) H := hP
                          have hD9 : va_D A (WM h g ca (u2 iv 12 19 n11) (u2 (u2 lv 12 17 n12) 12 18 n13) fa la) := hD
                          exact W.iret (v := 3) hx hb hr (fun t ht9 hW => ⟨⟨3, ((u2 iv 12 19 n11), (u2 (u2 lv 12 17 n12) 12 18 n13), fa, la), rfl, ⟨n11, n12, n13, ⟨by decide, by decide⟩, rfl⟩, by rw [ht9]; exact hP9, hD9⟩, hS.F ht9⟩) hS.2.2 dX12_cheat_164
                        · have fc76 := z_nle (rfl : (v75).toInt = _) (rfl : (k).toInt = _) c76
                          refine lv_iconst (v := 1) hx hb dX12_cheat_154 (by decide) ?_
                          refine lv_goto (tgt := 159) hx hb dX12_cheat_155 (by decide) ?_
                          refine vp_callSi (W.runS (As := [.int 1]) (rest := [.int 4, .int 3]) ⟨hx, hb, hml, hown, ht⟩ (c_X12_bit_1 l dC dI) (kS 1 ht m_1396 m_1397 m_89 m_1398 rfl rfl hd_X12_bit_v ⟨Nat.le_of_ble_eq_true rfl, Nat.le_of_ble_eq_true rfl⟩) (sR noP (hK.sub (tys' := []) [] rfl)) rfl rfl hl.1 rfl (lv_room (Nat.le_of_ble_eq_true rfl)) dX12_cheat_159 ⟨Nat.le_of_ble_eq_true rfl, Nat.le_of_ble_eq_true rfl⟩) (fun r80 hr80 => ?_)
                          obtain rfl : 1 = r80 := hr80.symm
                          refine lv_imul hx hb dX12_cheat_162 ?_
                          refine lv_topi (fun v81 ev81 => ?_)
                          obtain rfl : 4 = v81 := (ev81.trans (by decide)).symm
                          refine lv_iadd hx hb dX12_cheat_163 ?_
                          refine lv_topi (fun v82 ev82 => ?_)
                          obtain rfl : 7 = v82 := (ev82.trans (by decide)).symm
                          have hP9 : va_P (dC, dI) classes (WM h g ca (u2 iv 12 19 n11) (u2 (u2 lv 12 17 n12) 12 18 n13) fa la) H := hP
                          have hD9 : va_D A (WM h g ca (u2 iv 12 19 n11) (u2 (u2 lv 12 17 n12) 12 18 n13) fa la) := hD
                          exact W.iret (v := 7) hx hb hr (fun t ht9 hW => ⟨⟨7, ((u2 iv 12 19 n11), (u2 (u2 lv 12 17 n12) 12 18 n13), fa, la), rfl, ⟨n11, n12, n13, ⟨by decide, by decide⟩, rfl⟩, by rw [ht9]; exact hP9, hD9⟩, hS.F ht9⟩) hS.2.2 dX12_cheat_164
                  · have fc14 := z_eq (rfl : (r10).toInt = _) (by decide : (0 : Int32).toInt = 0) c14
                    refine lv_iconst (v := 0) hx hb dX12_cheat_68 (by decide) ?_
                    refine lv_goto (tgt := 91) hx hb dX12_cheat_69 (by decide) ?_
                    refine lv_istore (lv' := [(6, .int 0), (5, .int r10), (0, .ref h), (1, .int a), (2, .int b), (3, .int d), (4, .int k)]) hx hb dX12_cheat_91 hl (by decide) rfl (fun ls hl => ?_)
                    refine lv_aload_n hx hb dX12_cheat_93 rfl (lv_at hl 2 rfl) ?_
                    refine gM_12_55 hx hb ht hown hK hP m_1194 dX12_cheat_94 ?_
                    refine lv_iload_n hx hb dX12_cheat_97 rfl (lv_at hl 3 rfl) ?_
                    refine lM_12_55 hx hb hK hP (f := (fa 12 55)) rfl (vp_in_iff.mpr ⟨by omega, by omega⟩) dX12_cheat_98 ?_
                    refine lv_topi (fun v83 ev83 => ?_)
                    refine lv_iload_n hx hb dX12_cheat_99 rfl (lv_at hl 4 rfl) ?_
                    refine lv_icmp_le (tgt := 107) hx hb dX12_cheat_100 (by decide) (fun c84 => ?_) (fun c84 => ?_)
                    · have fc84 := z_le (rfl : (v83).toInt = _) (rfl : (b).toInt = _) c84
                      refine lv_iconst (v := 0) hx hb dX12_cheat_107 (by decide) ?_
                      refine vp_callSi (W.runS (As := [.int 0]) (rest := []) ⟨hx, hb, hml, hown, ht⟩ (c_X12_bit_0 l dC dI) (kS 1 ht m_1396 m_1397 m_89 m_1398 rfl rfl hd_X12_bit_v ⟨Nat.le_of_ble_eq_true rfl, Nat.le_of_ble_eq_true rfl⟩) (sR noP (hK.sub (tys' := []) [] rfl)) rfl rfl hl.1 rfl (lv_room (Nat.le_of_ble_eq_true rfl)) dX12_cheat_108 ⟨Nat.le_of_ble_eq_true rfl, Nat.le_of_ble_eq_true rfl⟩) (fun r85 hr85 => ?_)
                      obtain rfl : 0 = r85 := hr85.symm
                      refine lv_iconst (v := 2) hx hb dX12_cheat_111 (by decide) ?_
                      refine lv_aload_n hx hb dX12_cheat_112 rfl (lv_at hl 2 rfl) ?_
                      refine gM_12_56 hx hb ht hown hK hP m_1195 dX12_cheat_113 ?_
                      refine lv_iload_n hx hb dX12_cheat_116 rfl (lv_at hl 3 rfl) ?_
                      refine lM_12_56 hx hb hK hP (f := (fa 12 56)) rfl (vp_in_iff.mpr ⟨by omega, by omega⟩) dX12_cheat_117 ?_
                      refine lv_topi (fun v86 ev86 => ?_)
                      refine lv_iload_n hx hb dX12_cheat_118 rfl (lv_at hl 5 rfl) ?_
                      refine lv_icmp_le (tgt := 126) hx hb dX12_cheat_119 (by decide) (fun c87 => ?_) (fun c87 => ?_)
                      · have fc87 := z_le (rfl : (v86).toInt = _) (rfl : (d).toInt = _) c87
                        refine lv_iconst (v := 0) hx hb dX12_cheat_126 (by decide) ?_
                        refine vp_callSi (W.runS (As := [.int 0]) (rest := [.int 2, .int 0]) ⟨hx, hb, hml, hown, ht⟩ (c_X12_bit_0 l dC dI) (kS 1 ht m_1396 m_1397 m_89 m_1398 rfl rfl hd_X12_bit_v ⟨Nat.le_of_ble_eq_true rfl, Nat.le_of_ble_eq_true rfl⟩) (sR noP (hK.sub (tys' := []) [] rfl)) rfl rfl hl.1 rfl (lv_room (Nat.le_of_ble_eq_true rfl)) dX12_cheat_127 ⟨Nat.le_of_ble_eq_true rfl, Nat.le_of_ble_eq_true rfl⟩) (fun r88 hr88 => ?_)
                        obtain rfl : 0 = r88 := hr88.symm
                        refine lv_imul hx hb dX12_cheat_130 ?_
                        refine lv_topi (fun v89 ev89 => ?_)
                        obtain rfl : 0 = v89 := (ev89.trans (by decide)).symm
                        refine lv_iadd hx hb dX12_cheat_131 ?_
                        refine lv_topi (fun v90 ev90 => ?_)
                        obtain rfl : 0 = v90 := (ev90.trans (by decide)).symm
                        refine lv_iconst (v := 4) hx hb dX12_cheat_132 (by decide) ?_
                        refine lv_aload_n hx hb dX12_cheat_133 rfl (lv_at hl 2 rfl) ?_
                        refine gM_12_55 hx hb ht hown hK hP m_1194 dX12_cheat_134 ?_
                        refine lv_iload_n hx hb dX12_cheat_137 rfl (lv_at hl 3 rfl) ?_
                        refine lM_12_55 hx hb hK hP (f := (fa 12 55)) rfl (vp_in_iff.mpr ⟨by omega, by omega⟩) dX12_cheat_138 ?_
                        refine lv_topi (fun v91 ev91 => ?_)
                        obtain rfl : v83 = v91 := ev83.trans ev91.symm
                        refine lv_aload_n hx hb dX12_cheat_139 rfl (lv_at hl 2 rfl) ?_
                        refine gM_12_56 hx hb ht hown hK hP m_1195 dX12_cheat_140 ?_
                        refine lv_iload_n hx hb dX12_cheat_143 rfl (lv_at hl 3 rfl) ?_
                        refine lM_12_56 hx hb hK hP (f := (fa 12 56)) rfl (vp_in_iff.mpr ⟨by omega, by omega⟩) dX12_cheat_144 ?_
                        refine lv_topi (fun v92 ev92 => ?_)
                        obtain rfl : v86 = v92 := ev86.trans ev92.symm
                        refine lv_iadd hx hb dX12_cheat_145 ?_
                        refine lv_topi (fun v93 ev93 => ?_)
                        refine lv_iload hx hb dX12_cheat_146 (lv_at hl 0 rfl) ?_
                        refine lv_iadd hx hb dX12_cheat_148 ?_
                        refine lv_topi (fun v94 ev94 => ?_)
                        refine lv_iload hx hb dX12_cheat_149 (lv_at hl 6 rfl) ?_
                        refine lv_icmp_le (tgt := 158) hx hb dX12_cheat_151 (by decide) (fun c95 => ?_) (fun c95 => ?_)
                        · have fc95 := z_le (rfl : (v94).toInt = _) (rfl : (k).toInt = _) c95
                          refine lv_iconst (v := 0) hx hb dX12_cheat_158 (by decide) ?_
                          refine vp_callSi (W.runS (As := [.int 0]) (rest := [.int 4, .int 0]) ⟨hx, hb, hml, hown, ht⟩ (c_X12_bit_0 l dC dI) (kS 1 ht m_1396 m_1397 m_89 m_1398 rfl rfl hd_X12_bit_v ⟨Nat.le_of_ble_eq_true rfl, Nat.le_of_ble_eq_true rfl⟩) (sR noP (hK.sub (tys' := []) [] rfl)) rfl rfl hl.1 rfl (lv_room (Nat.le_of_ble_eq_true rfl)) dX12_cheat_159 ⟨Nat.le_of_ble_eq_true rfl, Nat.le_of_ble_eq_true rfl⟩) (fun r96 hr96 => ?_)
                          obtain rfl : 0 = r96 := hr96.symm
                          refine lv_imul hx hb dX12_cheat_162 ?_
                          refine lv_topi (fun v97 ev97 => ?_)
                          obtain rfl : 0 = v97 := (ev97.trans (by decide)).symm
                          refine lv_iadd hx hb dX12_cheat_163 ?_
                          refine lv_topi (fun v98 ev98 => ?_)
                          obtain rfl : 0 = v98 := (ev98.trans (by decide)).symm
                          have hP9 : va_P (dC, dI) classes (WM h g ca (u2 iv 12 19 n11) (u2 (u2 lv 12 17 n12) 12 18 n13) fa la) H := hP
                          have hD9 : va_D A (WM h g ca (u2 iv 12 19 n11) (u2 (u2 lv 12 17 n12) 12 18 n13) fa la) := hD
                          exact W.iret (v := 0) hx hb hr (fun t ht9 hW => ⟨⟨0, ((u2 iv 12 19 n11), (u2 (u2 lv 12 17 n12) 12 18 n13), fa, la), rfl, ⟨n11, n12, n13, ⟨by decide, by decide⟩, rfl⟩, by rw [ht9]; exact hP9, hD9⟩, hS.F ht9⟩) hS.2.2 dX12_cheat_164
                        · have fc95 := z_nle (rfl : (v94).toInt = _) (rfl : (k).toInt = _) c95
                          refine lv_iconst (v := 1) hx hb dX12_cheat_154 (by decide) ?_
                          refine lv_goto (tgt := 159) hx hb dX12_cheat_155 (by decide) ?_
                          refine vp_callSi (W.runS (As := [.int 1]) (rest := [.int 4, .int 0]) ⟨hx, hb, hml, hown, ht⟩ (c_X12_bit_1 l dC dI) (kS 1 ht m_1396 m_1397 m_89 m_1398 rfl rfl hd_X12_bit_v ⟨Nat.le_of_ble_eq_true rfl, Nat.le_of_ble_eq_true rfl⟩) (sR noP (hK.sub (tys' := []) [] rfl)) rfl rfl hl.1 rfl (lv_room (Nat.le_of_ble_eq_true rfl)) dX12_cheat_159 ⟨Nat.le_of_ble_eq_true rfl, Nat.le_of_ble_eq_true rfl⟩) (fun r99 hr99 => ?_)
                          obtain rfl : 1 = r99 := hr99.symm
                          refine lv_imul hx hb dX12_cheat_162 ?_
                          refine lv_topi (fun v100 ev100 => ?_)
                          obtain rfl : 4 = v100 := (ev100.trans (by decide)).symm
                          refine lv_iadd hx hb dX12_cheat_163 ?_
                          refine lv_topi (fun v101 ev101 => ?_)
                          obtain rfl : 4 = v101 := (ev101.trans (by decide)).symm
                          have hP9 : va_P (dC, dI) classes (WM h g ca (u2 iv 12 19 n11) (u2 (u2 lv 12 17 n12) 12 18 n13) fa la) H := hP
                          have hD9 : va_D A (WM h g ca (u2 iv 12 19 n11) (u2 (u2 lv 12 17 n12) 12 18 n13) fa la) := hD
                          exact W.iret (v := 4) hx hb hr (fun t ht9 hW => ⟨⟨4, ((u2 iv 12 19 n11), (u2 (u2 lv 12 17 n12) 12 18 n13), fa, la), rfl, ⟨n11, n12, n13, ⟨by decide, by decide⟩, rfl⟩, by rw [ht9]; exact hP9, hD9⟩, hS.F ht9⟩) hS.2.2 dX12_cheat_164
                      · have fc87 := z_nle (rfl : (v86).toInt = _) (rfl : (d).toInt = _) c87
                        refine lv_iconst (v := 1) hx hb dX12_cheat_122 (by decide) ?_
                        refine lv_goto (tgt := 127) hx hb dX12_cheat_123 (by decide) ?_
                        refine vp_callSi (W.runS (As := [.int 1]) (rest := [.int 2, .int 0]) ⟨hx, hb, hml, hown, ht⟩ (c_X12_bit_1 l dC dI) (kS 1 ht m_1396 m_1397 m_89 m_1398 rfl rfl hd_X12_bit_v ⟨Nat.le_of_ble_eq_true rfl, Nat.le_of_ble_eq_true rfl⟩) (sR noP (hK.sub (tys' := []) [] rfl)) rfl rfl hl.1 rfl (lv_room (Nat.le_of_ble_eq_true rfl)) dX12_cheat_127 ⟨Nat.le_of_ble_eq_true rfl, Nat.le_of_ble_eq_true rfl⟩) (fun r102 hr102 => ?_)
                        obtain rfl : 1 = r102 := hr102.symm
                        refine lv_imul hx hb dX12_cheat_130 ?_
                        refine lv_topi (fun v103 ev103 => ?_)
                        obtain rfl : 2 = v103 := (ev103.trans (by decide)).symm
                        refine lv_iadd hx hb dX12_cheat_131 ?_
                        refine lv_topi (fun v104 ev104 => ?_)
                        obtain rfl : 2 = v104 := (ev104.trans (by decide)).symm
                        refine lv_iconst (v := 4) hx hb dX12_cheat_132 (by decide) ?_
                        refine lv_aload_n hx hb dX12_cheat_133 rfl (lv_at hl 2 rfl) ?_
                        refine gM_12_55 hx hb ht hown hK hP m_1194 dX12_cheat_134 ?_
                        refine lv_iload_n hx hb dX12_cheat_137 rfl (lv_at hl 3 rfl) ?_
                        refine lM_12_55 hx hb hK hP (f := (fa 12 55)) rfl (vp_in_iff.mpr ⟨by omega, by omega⟩) dX12_cheat_138 ?_
                        refine lv_topi (fun v105 ev105 => ?_)
                        obtain rfl : v83 = v105 := ev83.trans ev105.symm
                        refine lv_aload_n hx hb dX12_cheat_139 rfl (lv_at hl 2 rfl) ?_
                        refine gM_12_56 hx hb ht hown hK hP m_1195 dX12_cheat_140 ?_
                        refine lv_iload_n hx hb dX12_cheat_143 rfl (lv_at hl 3 rfl) ?_
                        refine lM_12_56 hx hb hK hP (f := (fa 12 56)) rfl (vp_in_iff.mpr ⟨by omega, by omega⟩) dX12_cheat_144 ?_
                        refine lv_topi (fun v106 ev106 => ?_)
                        obtain rfl : v86 = v106 := ev86.trans ev106.symm
                        refine lv_iadd hx hb dX12_cheat_145 ?_
                        refine lv_topi (fun v107 ev107 => ?_)
                        refine lv_iload hx hb dX12_cheat_146 (lv_at hl 0 rfl) ?_
                        refine lv_iadd hx hb dX12_cheat_148 ?_
                        refine lv_topi (fun v108 ev108 => ?_)
                        refine lv_iload hx hb dX12_cheat_149 (lv_at hl 6 rfl) ?_
                        refine lv_icmp_le (tgt := 158) hx hb dX12_cheat_151 (by decide) (fun c109 => ?_) (fun c109 => ?_)
                        · have fc109 := z_le (rfl : (v108).toInt = _) (rfl : (k).toInt = _) c109
                          refine lv_iconst (v := 0) hx hb dX12_cheat_158 (by decide) ?_
                          refine vp_callSi (W.runS (As := [.int 0]) (rest := [.int 4, .int 2]) ⟨hx, hb, hml, hown, ht⟩ (c_X12_bit_0 l dC dI) (kS 1 ht m_1396 m_1397 m_89 m_1398 rfl rfl hd_X12_bit_v ⟨Nat.le_of_ble_eq_true rfl, Nat.le_of_ble_eq_true rfl⟩) (sR noP (hK.sub (tys' := []) [] rfl)) rfl rfl hl.1 rfl (lv_room (Nat.le_of_ble_eq_true rfl)) dX12_cheat_159 ⟨Nat.le_of_ble_eq_true rfl, Nat.le_of_ble_eq_true rfl⟩) (fun r110 hr110 => ?_)
                          obtain rfl : 0 = r110 := hr110.symm
                          refine lv_imul hx hb dX12_cheat_162 ?_
                          refine lv_topi (fun v111 ev111 => ?_)
                          obtain rfl : 0 = v111 := (ev111.trans (by decide)).symm
                          refine lv_iadd hx hb dX12_cheat_163 ?_
                          refine lv_topi (fun v112 ev112 => ?_)
                          obtain rfl : 2 = v112 := (ev112.trans (by decide)).symm
                          have hP9 : va_P (dC, dI) classes (WM h g ca (u2 iv 12 19 n11) (u2 (u2 lv 12 17 n12) 12 18 n13) fa la) H := hP
                          have hD9 : va_D A (WM h g ca (u2 iv 12 19 n11) (u2 (u2 lv 12 17 n12) 12 18 n13) fa la) := hD
                          exact W.iret (v := 2) hx hb hr (fun t ht9 hW => ⟨⟨2, ((u2 iv 12 19 n11), (u2 (u2 lv 12 17 n12) 12 18 n13), fa, la), rfl, ⟨n11, n12, n13, ⟨by decide, by decide⟩, rfl⟩, by rw [ht9]; exact hP9, hD9⟩, hS.F ht9⟩) hS.2.2 dX12_cheat_164
                        · have fc109 := z_nle (rfl : (v108).toInt = _) (rfl : (k).toInt = _) c109
                          refine lv_iconst (v := 1) hx hb dX12_cheat_154 (by decide) ?_
                          refine lv_goto (tgt := 159) hx hb dX12_cheat_155 (by decide) ?_
                          refine vp_callSi (W.runS (As := [.int 1]) (rest := [.int 4, .int 2]) ⟨hx, hb, hml, hown, ht⟩ (c_X12_bit_1 l dC dI) (kS 1 ht m_1396 m_1397 m_89 m_1398 rfl rfl hd_X12_bit_v ⟨Nat.le_of_ble_eq_true rfl, Nat.le_of_ble_eq_true rfl⟩) (sR noP (hK.sub (tys' := []) [] rfl)) rfl rfl hl.1 rfl (lv_room (Nat.le_of_ble_eq_true rfl)) dX12_cheat_159 ⟨Nat.le_of_ble_eq_true rfl, Nat.le_of_ble_eq_true rfl⟩) (fun r113 hr113 => ?_)
                          obtain rfl : 1 = r113 := hr113.symm
                          refine lv_imul hx hb dX12_cheat_162 ?_
                          refine lv_topi (fun v114 ev114 => ?_)
                          obtain rfl : 4 = v114 := (ev114.trans (by decide)).symm
                          refine lv_iadd hx hb dX12_cheat_163 ?_
                          refine lv_topi (fun v115 ev115 => ?_)
                          obtain rfl : 6 = v115 := (ev115.trans (by decide)).symm
                          have hP9 : va_P (dC, dI) classes (WM h g ca (u2 iv 12 19 n11) (u2 (u2 lv 12 17 n12) 12 18 n13) fa la) H := hP
                          have hD9 : va_D A (WM h g ca (u2 iv 12 19 n11) (u2 (u2 lv 12 17 n12) 12 18 n13) fa la) := hD
                          exact W.iret (v := 6) hx hb hr (fun t ht9 hW => ⟨⟨6, ((u2 iv 12 19 n11), (u2 (u2 lv 12 17 n12) 12 18 n13), fa, la), rfl, ⟨n11, n12, n13, ⟨by decide, by decide⟩, rfl⟩, by rw [ht9]; exact hP9, hD9⟩, hS.F ht9⟩) hS.2.2 dX12_cheat_164
                    · have fc84 := z_nle (rfl : (v83).toInt = _) (rfl : (b).toInt = _) c84
                      refine lv_iconst (v := 1) hx hb dX12_cheat_103 (by decide) ?_
                      refine lv_goto (tgt := 108) hx hb dX12_cheat_104 (by decide) ?_
                      refine vp_callSi (W.runS (As := [.int 1]) (rest := []) ⟨hx, hb, hml, hown, ht⟩ (c_X12_bit_1 l dC dI) (kS 1 ht m_1396 m_1397 m_89 m_1398 rfl rfl hd_X12_bit_v ⟨Nat.le_of_ble_eq_true rfl, Nat.le_of_ble_eq_true rfl⟩) (sR noP (hK.sub (tys' := []) [] rfl)) rfl rfl hl.1 rfl (lv_room (Nat.le_of_ble_eq_true rfl)) dX12_cheat_108 ⟨Nat.le_of_ble_eq_true rfl, Nat.le_of_ble_eq_true rfl⟩) (fun r116 hr116 => ?_)
                      obtain rfl : 1 = r116 := hr116.symm
                      refine lv_iconst (v := 2) hx hb dX12_cheat_111 (by decide) ?_
                      refine lv_aload_n hx hb dX12_cheat_112 rfl (lv_at hl 2 rfl) ?_
                      refine gM_12_56 hx hb ht hown hK hP m_1195 dX12_cheat_113 ?_
                      refine lv_iload_n hx hb dX12_cheat_116 rfl (lv_at hl 3 rfl) ?_
                      refine lM_12_56 hx hb hK hP (f := (fa 12 56)) rfl (vp_in_iff.mpr ⟨by omega, by omega⟩) dX12_cheat_117 ?_
                      refine lv_topi (fun v117 ev117 => ?_)
                      refine lv_iload_n hx hb dX12_cheat_118 rfl (lv_at hl 5 rfl) ?_
                      refine lv_icmp_le (tgt := 126) hx hb dX12_cheat_119 (by decide) (fun c118 => ?_) (fun c118 => ?_)
                      · have fc118 := z_le (rfl : (v117).toInt = _) (rfl : (d).toInt = _) c118
                        refine lv_iconst (v := 0) hx hb dX12_cheat_126 (by decide) ?_
                        refine vp_callSi (W.runS (As := [.int 0]) (rest := [.int 2, .int 1]) ⟨hx, hb, hml, hown, ht⟩ (c_X12_bit_0 l dC dI) (kS 1 ht m_1396 m_1397 m_89 m_1398 rfl rfl hd_X12_bit_v ⟨Nat.le_of_ble_eq_true rfl, Nat.le_of_ble_eq_true rfl⟩) (sR noP (hK.sub (tys' := []) [] rfl)) rfl rfl hl.1 rfl (lv_room (Nat.le_of_ble_eq_true rfl)) dX12_cheat_127 ⟨Nat.le_of_ble_eq_true rfl, Nat.le_of_ble_eq_true rfl⟩) (fun r119 hr119 => ?_)
                        obtain rfl : 0 = r119 := hr119.symm
                        refine lv_imul hx hb dX12_cheat_130 ?_
                        refine lv_topi (fun v120 ev120 => ?_)
                        obtain rfl : 0 = v120 := (ev120.trans (by decide)).symm
                        refine lv_iadd hx hb dX12_cheat_131 ?_
                        refine lv_topi (fun v121 ev121 => ?_)
                        obtain rfl : 1 = v121 := (ev121.trans (by decide)).symm
                        refine lv_iconst (v := 4) hx hb dX12_cheat_132 (by decide) ?_
                        refine lv_aload_n hx hb dX12_cheat_133 rfl (lv_at hl 2 rfl) ?_
                        refine gM_12_55 hx hb ht hown hK hP m_1194 dX12_cheat_134 ?_
                        refine lv_iload_n hx hb dX12_cheat_137 rfl (lv_at hl 3 rfl) ?_
                        refine lM_12_55 hx hb hK hP (f := (fa 12 55)) rfl (vp_in_iff.mpr ⟨by omega, by omega⟩) dX12_cheat_138 ?_
                        refine lv_topi (fun v122 ev122 => ?_)
                        obtain rfl : v83 = v122 := ev83.trans ev122.symm
                        refine lv_aload_n hx hb dX12_cheat_139 rfl (lv_at hl 2 rfl) ?_
                        refine gM_12_56 hx hb ht hown hK hP m_1195 dX12_cheat_140 ?_
                        refine lv_iload_n hx hb dX12_cheat_143 rfl (lv_at hl 3 rfl) ?_
                        refine lM_12_56 hx hb hK hP (f := (fa 12 56)) rfl (vp_in_iff.mpr ⟨by omega, by omega⟩) dX12_cheat_144 ?_
                        refine lv_topi (fun v123 ev123 => ?_)
                        obtain rfl : v117 = v123 := ev117.trans ev123.symm
                        refine lv_iadd hx hb dX12_cheat_145 ?_
                        refine lv_topi (fun v124 ev124 => ?_)
                        refine lv_iload hx hb dX12_cheat_146 (lv_at hl 0 rfl) ?_
                        refine lv_iadd hx hb dX12_cheat_148 ?_
                        refine lv_topi (fun v125 ev125 => ?_)
                        refine lv_iload hx hb dX12_cheat_149 (lv_at hl 6 rfl) ?_
                        refine lv_icmp_le (tgt := 158) hx hb dX12_cheat_151 (by decide) (fun c126 => ?_) (fun c126 => ?_)
                        · have fc126 := z_le (rfl : (v125).toInt = _) (rfl : (k).toInt = _) c126
                          refine lv_iconst (v := 0) hx hb dX12_cheat_158 (by decide) ?_
                          refine vp_callSi (W.runS (As := [.int 0]) (rest := [.int 4, .int 1]) ⟨hx, hb, hml, hown, ht⟩ (c_X12_bit_0 l dC dI) (kS 1 ht m_1396 m_1397 m_89 m_1398 rfl rfl hd_X12_bit_v ⟨Nat.le_of_ble_eq_true rfl, Nat.le_of_ble_eq_true rfl⟩) (sR noP (hK.sub (tys' := []) [] rfl)) rfl rfl hl.1 rfl (lv_room (Nat.le_of_ble_eq_true rfl)) dX12_cheat_159 ⟨Nat.le_of_ble_eq_true rfl, Nat.le_of_ble_eq_true rfl⟩) (fun r127 hr127 => ?_)
                          obtain rfl : 0 = r127 := hr127.symm
                          refine lv_imul hx hb dX12_cheat_162 ?_
                          refine lv_topi (fun v128 ev128 => ?_)
                          obtain rfl : 0 = v128 := (ev128.trans (by decide)).symm
                          refine lv_iadd hx hb dX12_cheat_163 ?_
                          refine lv_topi (fun v129 ev129 => ?_)
                          obtain rfl : 1 = v129 := (ev129.trans (by decide)).symm
                          have hP9 : va_P (dC, dI) classes (WM h g ca (u2 iv 12 19 n11) (u2 (u2 lv 12 17 n12) 12 18 n13) fa la) H := hP
                          have hD9 : va_D A (WM h g ca (u2 iv 12 19 n11) (u2 (u2 lv 12 17 n12) 12 18 n13) fa la) := hD
                          exact W.iret (v := 1) hx hb hr (fun t ht9 hW => ⟨⟨1, ((u2 iv 12 19 n11), (u2 (u2 lv 12 17 n12) 12 18 n13), fa, la), rfl, ⟨n11, n12, n13, ⟨by decide, by decide⟩, rfl⟩, by rw [ht9]; exact hP9, hD9⟩, hS.F ht9⟩) hS.2.2 dX12_cheat_164
                        · have fc126 := z_nle (rfl : (v125).toInt = _) (rfl : (k).toInt = _) c126
                          refine lv_iconst (v := 1) hx hb dX12_cheat_154 (by decide) ?_
                          refine lv_goto (tgt := 159) hx hb dX12_cheat_155 (by decide) ?_
                          refine vp_callSi (W.runS (As := [.int 1]) (rest := [.int 4, .int 1]) ⟨hx, hb, hml, hown, ht⟩ (c_X12_bit_1 l dC dI) (kS 1 ht m_1396 m_1397 m_89 m_1398 rfl rfl hd_X12_bit_v ⟨Nat.le_of_ble_eq_true rfl, Nat.le_of_ble_eq_true rfl⟩) (sR noP (hK.sub (tys' := []) [] rfl)) rfl rfl hl.1 rfl (lv_room (Nat.le_of_ble_eq_true rfl)) dX12_cheat_159 ⟨Nat.le_of_ble_eq_true rfl, Nat.le_of_ble_eq_true rfl⟩) (fun r130 hr130 => ?_)
                          obtain rfl : 1 = r130 := hr130.symm
                          refine lv_imul hx hb dX12_cheat_162 ?_
                          refine lv_topi (fun v131 ev131 => ?_)
                          obtain rfl : 4 = v131 := (ev131.trans (by decide)).symm
                          refine lv_iadd hx hb dX12_cheat_163 ?_
                          refine lv_topi (fun v132 ev132 => ?_)
                          obtain rfl : 5 = v132 := (ev132.trans (by decide)).symm
                          have hP9 : va_P (dC, dI) classes (WM h g ca (u2 iv 12 19 n11) (u2 (u2 lv 12 17 n12) 12 18 n13) fa la) H := hP
                          have hD9 : va_D A (WM h g ca (u2 iv 12 19 n11) (u2 (u2 lv 12 17 n12) 12 18 n13) fa la) := hD
                          exact W.iret (v := 5) hx hb hr (fun t ht9 hW => ⟨⟨5, ((u2 iv 12 19 n11), (u2 (u2 lv 12 17 n12) 12 18 n13), fa, la), rfl, ⟨n11, n12, n13, ⟨by decide, by decide⟩, rfl⟩, by rw [ht9]; exact hP9, hD9⟩, hS.F ht9⟩) hS.2.2 dX12_cheat_164
                      · have fc118 := z_nle (rfl : (v117).toInt = _) (rfl : (d).toInt = _) c118
                        refine lv_iconst (v := 1) hx hb dX12_cheat_122 (by decide) ?_
                        refine lv_goto (tgt := 127) hx hb dX12_cheat_123 (by decide) ?_
                        refine vp_callSi (W.runS (As := [.int 1]) (rest := [.int 2, .int 1]) ⟨hx, hb, hml, hown, ht⟩ (c_X12_bit_1 l dC dI) (kS 1 ht m_1396 m_1397 m_89 m_1398 rfl rfl hd_X12_bit_v ⟨Nat.le_of_ble_eq_true rfl, Nat.le_of_ble_eq_true rfl⟩) (sR noP (hK.sub (tys' := []) [] rfl)) rfl rfl hl.1 rfl (lv_room (Nat.le_of_ble_eq_true rfl)) dX12_cheat_127 ⟨Nat.le_of_ble_eq_true rfl, Nat.le_of_ble_eq_true rfl⟩) (fun r133 hr133 => ?_)
                        obtain rfl : 1 = r133 := hr133.symm
                        refine lv_imul hx hb dX12_cheat_130 ?_
                        refine lv_topi (fun v134 ev134 => ?_)
                        obtain rfl : 2 = v134 := (ev134.trans (by decide)).symm
                        refine lv_iadd hx hb dX12_cheat_131 ?_
                        refine lv_topi (fun v135 ev135 => ?_)
                        obtain rfl : 3 = v135 := (ev135.trans (by decide)).symm
                        refine lv_iconst (v := 4) hx hb dX12_cheat_132 (by decide) ?_
                        refine lv_aload_n hx hb dX12_cheat_133 rfl (lv_at hl 2 rfl) ?_
                        refine gM_12_55 hx hb ht hown hK hP m_1194 dX12_cheat_134 ?_
                        refine lv_iload_n hx hb dX12_cheat_137 rfl (lv_at hl 3 rfl) ?_
                        refine lM_12_55 hx hb hK hP (f := (fa 12 55)) rfl (vp_in_iff.mpr ⟨by omega, by omega⟩) dX12_cheat_138 ?_
                        refine lv_topi (fun v136 ev136 => ?_)
                        obtain rfl : v83 = v136 := ev83.trans ev136.symm
                        refine lv_aload_n hx hb dX12_cheat_139 rfl (lv_at hl 2 rfl) ?_
                        refine gM_12_56 hx hb ht hown hK hP m_1195 dX12_cheat_140 ?_
                        refine lv_iload_n hx hb dX12_cheat_143 rfl (lv_at hl 3 rfl) ?_
                        refine lM_12_56 hx hb hK hP (f := (fa 12 56)) rfl (vp_in_iff.mpr ⟨by omega, by omega⟩) dX12_cheat_144 ?_
                        refine lv_topi (fun v137 ev137 => ?_)
                        obtain rfl : v117 = v137 := ev117.trans ev137.symm
                        refine lv_iadd hx hb dX12_cheat_145 ?_
                        refine lv_topi (fun v138 ev138 => ?_)
                        refine lv_iload hx hb dX12_cheat_146 (lv_at hl 0 rfl) ?_
                        refine lv_iadd hx hb dX12_cheat_148 ?_
                        refine lv_topi (fun v139 ev139 => ?_)
                        refine lv_iload hx hb dX12_cheat_149 (lv_at hl 6 rfl) ?_
                        refine lv_icmp_le (tgt := 158) hx hb dX12_cheat_151 (by decide) (fun c140 => ?_) (fun c140 => ?_)
                        · have fc140 := z_le (rfl : (v139).toInt = _) (rfl : (k).toInt = _) c140
                          refine lv_iconst (v := 0) hx hb dX12_cheat_158 (by decide) ?_
                          refine vp_callSi (W.runS (As := [.int 0]) (rest := [.int 4, .int 3]) ⟨hx, hb, hml, hown, ht⟩ (c_X12_bit_0 l dC dI) (kS 1 ht m_1396 m_1397 m_89 m_1398 rfl rfl hd_X12_bit_v ⟨Nat.le_of_ble_eq_true rfl, Nat.le_of_ble_eq_true rfl⟩) (sR noP (hK.sub (tys' := []) [] rfl)) rfl rfl hl.1 rfl (lv_room (Nat.le_of_ble_eq_true rfl)) dX12_cheat_159 ⟨Nat.le_of_ble_eq_true rfl, Nat.le_of_ble_eq_true rfl⟩) (fun r141 hr141 => ?_)
                          obtain rfl : 0 = r141 := hr141.symm
                          refine lv_imul hx hb dX12_cheat_162 ?_
                          refine lv_topi (fun v142 ev142 => ?_)
                          obtain rfl : 0 = v142 := (ev142.trans (by decide)).symm
                          refine lv_iadd hx hb dX12_cheat_163 ?_
                          refine lv_topi (fun v143 ev143 => ?_)
                          obtain rfl : 3 = v143 := (ev143.trans (by decide)).symm
                          have hP9 : va_P (dC, dI) classes (WM h g ca (u2 iv 12 19 n11) (u2 (u2 lv 12 17 n12) 12 18 n13) fa la) H := hP
                          have hD9 : va_D A (WM h g ca (u2 iv 12 19 n11) (u2 (u2 lv 12 17 n12) 12 18 n13) fa la) := hD
                          exact W.iret (v := 3) hx hb hr (fun t ht9 hW => ⟨⟨3, ((u2 iv 12 19 n11), (u2 (u2 lv 12 17 n12) 12 18 n13), fa, la), rfl, ⟨n11, n12, n13, ⟨by decide, by decide⟩, rfl⟩, by rw [ht9]; exact hP9, hD9⟩, hS.F ht9⟩) hS.2.2 dX12_cheat_164
                        · have fc140 := z_nle (rfl : (v139).toInt = _) (rfl : (k).toInt = _) c140
                          refine lv_iconst (v := 1) hx hb dX12_cheat_154 (by decide) ?_
                          refine lv_goto (tgt := 159) hx hb dX12_cheat_155 (by decide) ?_
                          refine vp_callSi (W.runS (As := [.int 1]) (rest := [.int 4, .int 3]) ⟨hx, hb, hml, hown, ht⟩ (c_X12_bit_1 l dC dI) (kS 1 ht m_1396 m_1397 m_89 m_1398 rfl rfl hd_X12_bit_v ⟨Nat.le_of_ble_eq_true rfl, Nat.le_of_ble_eq_true rfl⟩) (sR noP (hK.sub (tys' := []) [] rfl)) rfl rfl hl.1 rfl (lv_room (Nat.le_of_ble_eq_true rfl)) dX12_cheat_159 ⟨Nat.le_of_ble_eq_true rfl, Nat.le_of_ble_eq_true rfl⟩) (fun r144 hr144 => ?_)
                          obtain rfl : 1 = r144 := hr144.symm
                          refine lv_imul hx hb dX12_cheat_162 ?_
                          refine lv_topi (fun v145 ev145 => ?_)
                          obtain rfl : 4 = v145 := (ev145.trans (by decide)).symm
                          refine lv_iadd hx hb dX12_cheat_163 ?_
                          refine lv_topi (fun v146 ev146 => ?_)
                          obtain rfl : 7 = v146 := (ev146.trans (by decide)).symm
                          have hP9 : va_P (dC, dI) classes (WM h g ca (u2 iv 12 19 n11) (u2 (u2 lv 12 17 n12) 12 18 n13) fa la) H := hP
                          have hD9 : va_D A (WM h g ca (u2 iv 12 19 n11) (u2 (u2 lv 12 17 n12) 12 18 n13) fa la) := hD
                          exact W.iret (v := 7) hx hb hr (fun t ht9 hW => ⟨⟨7, ((u2 iv 12 19 n11), (u2 (u2 lv 12 17 n12) 12 18 n13), fa, la), rfl, ⟨n11, n12, n13, ⟨by decide, by decide⟩, rfl⟩, by rw [ht9]; exact hP9, hD9⟩, hS.F ht9⟩) hS.2.2 dX12_cheat_164
                · exact absurd c9 (by decide)
              · skip
                refine lv_if_ne (tgt := 51) hx hb dX12_cheat_45 (by decide) (fun c147 => ?_) (fun c147 => ?_)
                · exact absurd rfl c147
                · skip
                  refine lv_ldc hx hb hown (ht _ m_1373) dX12_cheat_48 ?_
                  have hP9 : va_P (dC, dI) classes (WM h g ca (u2 iv 12 19 (iv 12 19)) (u2 (u2 lv 12 17 (lv 12 17)) 12 18 (lv 12 18)) fa la) s.heap := hP
                  have hD9 : va_D A (WM h g ca (u2 iv 12 19 (iv 12 19)) (u2 (u2 lv 12 17 (lv 12 17)) 12 18 (lv 12 18)) fa la) := hD
                  exact W.iret (v := (-100002)) hx hb hr (fun t ht9 hW => ⟨⟨(-100002), ((u2 iv 12 19 (iv 12 19)), (u2 (u2 lv 12 17 (lv 12 17)) 12 18 (lv 12 18)), fa, la), rfl, ⟨(iv 12 19), (lv 12 17), (lv 12 18), ⟨by decide, by decide⟩, rfl⟩, by rw [ht9]; exact hP9, hD9⟩, hS.F ht9⟩) hS.2.2 dX12_cheat_50
          · skip
            refine lv_if_eq (tgt := 48) hx hb dX12_cheat_32 (by decide) (fun c148 => ?_) (fun c148 => ?_)
            · skip
              refine lv_ldc hx hb hown (ht _ m_1373) dX12_cheat_48 ?_
              have hP9 : va_P (dC, dI) classes (WM h g ca (u2 iv 12 19 (iv 12 19)) (u2 (u2 lv 12 17 (lv 12 17)) 12 18 (lv 12 18)) fa la) s.heap := hP
              have hD9 : va_D A (WM h g ca (u2 iv 12 19 (iv 12 19)) (u2 (u2 lv 12 17 (lv 12 17)) 12 18 (lv 12 18)) fa la) := hD
              exact W.iret (v := (-100002)) hx hb hr (fun t ht9 hW => ⟨⟨(-100002), ((u2 iv 12 19 (iv 12 19)), (u2 (u2 lv 12 17 (lv 12 17)) 12 18 (lv 12 18)), fa, la), rfl, ⟨(iv 12 19), (lv 12 17), (lv 12 18), ⟨by decide, by decide⟩, rfl⟩, by rw [ht9]; exact hP9, hD9⟩, hS.F ht9⟩) hS.2.2 dX12_cheat_50
            · exact absurd rfl c148
      · skip
        refine lv_if_eq (tgt := 48) hx hb dX12_cheat_20 (by decide) (fun c149 => ?_) (fun c149 => ?_)
        · skip
          refine lv_ldc hx hb hown (ht _ m_1373) dX12_cheat_48 ?_
          have hP9 : va_P (dC, dI) classes (WM h g ca (u2 iv 12 19 (iv 12 19)) (u2 (u2 lv 12 17 (lv 12 17)) 12 18 (lv 12 18)) fa la) s.heap := hP
          have hD9 : va_D A (WM h g ca (u2 iv 12 19 (iv 12 19)) (u2 (u2 lv 12 17 (lv 12 17)) 12 18 (lv 12 18)) fa la) := hD
          exact W.iret (v := (-100002)) hx hb hr (fun t ht9 hW => ⟨⟨(-100002), ((u2 iv 12 19 (iv 12 19)), (u2 (u2 lv 12 17 (lv 12 17)) 12 18 (lv 12 18)), fa, la), rfl, ⟨(iv 12 19), (lv 12 17), (lv 12 18), ⟨by decide, by decide⟩, rfl⟩, by rw [ht9]; exact hP9, hD9⟩, hS.F ht9⟩) hS.2.2 dX12_cheat_50
        · exact absurd rfl c149
    · exact absurd rfl c3
