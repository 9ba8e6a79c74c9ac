/-! ===== n13 ===== -/
set_option maxRecDepth 100000 in
theorem m_69 : Cond.selects RX12 yX12_findOrder yX12_findOrder ∈ tb := tb_in 69 (by decide +kernel) rfl
set_option maxRecDepth 100000 in
theorem m_70 : Cond.selects RX12 yX12_ovenOf yX12_ovenOf ∈ tb := tb_in 70 (by decide +kernel) rfl
theorem m_1198 : Cond.fieldLink RX12 130 "SilkHouseModel" "ends" "[I" ∈ tb := mb_5_6 _ (List.mem_of_getElem? (i := 15) rfl)
theorem m_1199 : Cond.fieldLink RX12 405 "SilkHouseModel" "bestWay" "I" ∈ tb := mb_5_6 _ (List.mem_of_getElem? (i := 16) rfl)
theorem m_1200 : Cond.fieldLink RX12 408 "SilkHouseModel" "bestEnd" "I" ∈ tb := mb_5_6 _ (List.mem_of_getElem? (i := 17) rfl)
theorem m_1645 : Cond.methodLink RX12 414 yX12_findOrder ∈ tb := mb_7_4 _ (List.mem_of_getElem? (i := 21) rfl)
theorem m_1647 : Cond.instanceMethod yX12_findOrder ∈ tb := mb_7_4 _ (List.mem_of_getElem? (i := 22) rfl)
theorem m_1648 : Cond.code yX12_findOrder cX12_findOrder 7 none ∈ tb := mb_7_4 _ (List.mem_of_getElem? (i := 23) rfl)
theorem m_1649 : Cond.methodLink RX12 402 yX12_power ∈ tb := mb_7_5 _ (List.mem_of_getElem? (i := 0) rfl)
theorem m_1650 : Cond.static yX12_power ∈ tb := mb_7_5 _ (List.mem_of_getElem? (i := 1) rfl)
theorem m_1651 : Cond.code yX12_power cX12_power 4 (some .int) ∈ tb := mb_7_5 _ (List.mem_of_getElem? (i := 2) rfl)
theorem m_1652 : Cond.methodLink RX12 411 yX12_ovenOf ∈ tb := mb_7_5 _ (List.mem_of_getElem? (i := 3) rfl)
theorem m_1654 : Cond.instanceMethod yX12_ovenOf ∈ tb := mb_7_5 _ (List.mem_of_getElem? (i := 4) rfl)
theorem m_1655 : Cond.code yX12_ovenOf cX12_ovenOf 4 (some .int) ∈ tb := mb_7_5 _ (List.mem_of_getElem? (i := 5) rfl)
theorem hd_X12_findOrder_v : yX12_findOrder.cls = RX12 ∧ yX12_findOrder.cls ≠ "java/lang/invoke/MethodHandle" ∧ yX12_findOrder.cls ≠ "java/lang/invoke/VarHandle" ∧ (parseMethodDescriptor yX12_findOrder.desc).map (fun d => d.parameters.length) = some 1 := by decide +kernel
theorem hd_X12_ovenOf_v : yX12_ovenOf.cls = RX12 ∧ yX12_ovenOf.cls ≠ "java/lang/invoke/MethodHandle" ∧ yX12_ovenOf.cls ≠ "java/lang/invoke/VarHandle" ∧ (parseMethodDescriptor yX12_ovenOf.desc).map (fun d => d.parameters.length) = some 3 := by decide +kernel
theorem hd_X12_power_v : yX12_power.cls = RX12 ∧ yX12_power.cls ≠ "java/lang/invoke/MethodHandle" ∧ yX12_power.cls ≠ "java/lang/invoke/VarHandle" ∧ (parseMethodDescriptor yX12_power.desc).map (fun d => d.parameters.length) = some 2 := by decide +kernel
set_option maxRecDepth 100000 in
theorem dvX12_findOrder_0 : ([(0, .aload_n 0, 1), (1, .iconst (-1), 1), (2, .putfield 405, 3), (5, .aload_n 0, 1), (6, .iconst 0, 1), (7, .putfield 408, 3), (10, .iload_n 1, 1), (11, .aload_n 0, 1), (12, .getfield 399, 3), (15, .invokestatic 402, 3), (18, .istore_n 2, 1), (19, .iconst 0, 1), (20, .istore_n 3, 1), (21, .iload_n 3, 1), (22, .iload_n 2, 1), (23, .if_icmp .ge 133, 3), (26, .iconst 0, 1), (27, .istore 4, 2), (29, .iload 4, 2), (31, .iconst 3, 1), (32, .if_icmp .ge 17, 3), (35, .aload_n 0, 1), (36, .getfield 130, 3), (39, .iload 4, 2)] : List (Nat × Instr × Nat)).all (fun q => decide (decode cX12_findOrder q.1 = .ok (q.2.1, q.2.2))) = true := by decide +kernel
theorem dX12_findOrder_0 : decode cX12_findOrder 0 = .ok (.aload_n 0, 1) := all_at dvX12_findOrder_0 0 rfl
theorem dX12_findOrder_1 : decode cX12_findOrder 1 = .ok (.iconst (-1), 1) := all_at dvX12_findOrder_0 1 rfl
theorem dX12_findOrder_2 : decode cX12_findOrder 2 = .ok (.putfield 405, 3) := all_at dvX12_findOrder_0 2 rfl
theorem dX12_findOrder_5 : decode cX12_findOrder 5 = .ok (.aload_n 0, 1) := all_at dvX12_findOrder_0 3 rfl
theorem dX12_findOrder_6 : decode cX12_findOrder 6 = .ok (.iconst 0, 1) := all_at dvX12_findOrder_0 4 rfl
theorem dX12_findOrder_7 : decode cX12_findOrder 7 = .ok (.putfield 408, 3) := all_at dvX12_findOrder_0 5 rfl
theorem dX12_findOrder_10 : decode cX12_findOrder 10 = .ok (.iload_n 1, 1) := all_at dvX12_findOrder_0 6 rfl
theorem dX12_findOrder_11 : decode cX12_findOrder 11 = .ok (.aload_n 0, 1) := all_at dvX12_findOrder_0 7 rfl
theorem dX12_findOrder_12 : decode cX12_findOrder 12 = .ok (.getfield 399, 3) := all_at dvX12_findOrder_0 8 rfl
theorem dX12_findOrder_15 : decode cX12_findOrder 15 = .ok (.invokestatic 402, 3) := all_at dvX12_findOrder_0 9 rfl
theorem dX12_findOrder_18 : decode cX12_findOrder 18 = .ok (.istore_n 2, 1) := all_at dvX12_findOrder_0 10 rfl
theorem dX12_findOrder_19 : decode cX12_findOrder 19 = .ok (.iconst 0, 1) := all_at dvX12_findOrder_0 11 rfl
theorem dX12_findOrder_20 : decode cX12_findOrder 20 = .ok (.istore_n 3, 1) := all_at dvX12_findOrder_0 12 rfl
theorem dX12_findOrder_21 : decode cX12_findOrder 21 = .ok (.iload_n 3, 1) := all_at dvX12_findOrder_0 13 rfl
theorem dX12_findOrder_22 : decode cX12_findOrder 22 = .ok (.iload_n 2, 1) := all_at dvX12_findOrder_0 14 rfl
theorem dX12_findOrder_23 : decode cX12_findOrder 23 = .ok (.if_icmp .ge 133, 3) := all_at dvX12_findOrder_0 15 rfl
theorem dX12_findOrder_26 : decode cX12_findOrder 26 = .ok (.iconst 0, 1) := all_at dvX12_findOrder_0 16 rfl
theorem dX12_findOrder_27 : decode cX12_findOrder 27 = .ok (.istore 4, 2) := all_at dvX12_findOrder_0 17 rfl
theorem dX12_findOrder_29 : decode cX12_findOrder 29 = .ok (.iload 4, 2) := all_at dvX12_findOrder_0 18 rfl
theorem dX12_findOrder_31 : decode cX12_findOrder 31 = .ok (.iconst 3, 1) := all_at dvX12_findOrder_0 19 rfl
theorem dX12_findOrder_32 : decode cX12_findOrder 32 = .ok (.if_icmp .ge 17, 3) := all_at dvX12_findOrder_0 20 rfl
theorem dX12_findOrder_35 : decode cX12_findOrder 35 = .ok (.aload_n 0, 1) := all_at dvX12_findOrder_0 21 rfl
theorem dX12_findOrder_36 : decode cX12_findOrder 36 = .ok (.getfield 130, 3) := all_at dvX12_findOrder_0 22 rfl
theorem dX12_findOrder_39 : decode cX12_findOrder 39 = .ok (.iload 4, 2) := all_at dvX12_findOrder_0 23 rfl
set_option maxRecDepth 100000 in
theorem dvX12_findOrder_41 : ([(41, .iconst 0, 1), (42, .iastore, 1), (43, .iinc 4 1, 3), (46, .goto (-17), 3), (49, .iconst 0, 1), (50, .istore 4, 2), (52, .iconst 0, 1), (53, .istore 5, 2), (55, .iload 5, 2), (57, .aload_n 0, 1), (58, .getfield 399, 3), (61, .if_icmp .ge 62, 3), (64, .aload_n 0, 1), (65, .iload_n 3, 1), (66, .iload_n 1, 1), (67, .iload 5, 2), (69, .invokevirtual 411, 3), (72, .istore 6, 2), (74, .aload_n 0, 1), (75, .getfield 130, 3), (78, .iload 6, 2), (80, .dup2, 1), (81, .iaload, 1), (82, .aload_n 0, 1)] : List (Nat × Instr × Nat)).all (fun q => decide (decode cX12_findOrder q.1 = .ok (q.2.1, q.2.2))) = true := by decide +kernel
theorem dX12_findOrder_41 : decode cX12_findOrder 41 = .ok (.iconst 0, 1) := all_at dvX12_findOrder_41 0 rfl
theorem dX12_findOrder_42 : decode cX12_findOrder 42 = .ok (.iastore, 1) := all_at dvX12_findOrder_41 1 rfl
theorem dX12_findOrder_43 : decode cX12_findOrder 43 = .ok (.iinc 4 1, 3) := all_at dvX12_findOrder_41 2 rfl
theorem dX12_findOrder_46 : decode cX12_findOrder 46 = .ok (.goto (-17), 3) := all_at dvX12_findOrder_41 3 rfl
theorem dX12_findOrder_49 : decode cX12_findOrder 49 = .ok (.iconst 0, 1) := all_at dvX12_findOrder_41 4 rfl
theorem dX12_findOrder_50 : decode cX12_findOrder 50 = .ok (.istore 4, 2) := all_at dvX12_findOrder_41 5 rfl
theorem dX12_findOrder_52 : decode cX12_findOrder 52 = .ok (.iconst 0, 1) := all_at dvX12_findOrder_41 6 rfl
theorem dX12_findOrder_53 : decode cX12_findOrder 53 = .ok (.istore 5, 2) := all_at dvX12_findOrder_41 7 rfl
theorem dX12_findOrder_55 : decode cX12_findOrder 55 = .ok (.iload 5, 2) := all_at dvX12_findOrder_41 8 rfl
theorem dX12_findOrder_57 : decode cX12_findOrder 57 = .ok (.aload_n 0, 1) := all_at dvX12_findOrder_41 9 rfl
theorem dX12_findOrder_58 : decode cX12_findOrder 58 = .ok (.getfield 399, 3) := all_at dvX12_findOrder_41 10 rfl
theorem dX12_findOrder_61 : decode cX12_findOrder 61 = .ok (.if_icmp .ge 62, 3) := all_at dvX12_findOrder_41 11 rfl
theorem dX12_findOrder_64 : decode cX12_findOrder 64 = .ok (.aload_n 0, 1) := all_at dvX12_findOrder_41 12 rfl
theorem dX12_findOrder_65 : decode cX12_findOrder 65 = .ok (.iload_n 3, 1) := all_at dvX12_findOrder_41 13 rfl
theorem dX12_findOrder_66 : decode cX12_findOrder 66 = .ok (.iload_n 1, 1) := all_at dvX12_findOrder_41 14 rfl
theorem dX12_findOrder_67 : decode cX12_findOrder 67 = .ok (.iload 5, 2) := all_at dvX12_findOrder_41 15 rfl
theorem dX12_findOrder_69 : decode cX12_findOrder 69 = .ok (.invokevirtual 411, 3) := all_at dvX12_findOrder_41 16 rfl
theorem dX12_findOrder_72 : decode cX12_findOrder 72 = .ok (.istore 6, 2) := all_at dvX12_findOrder_41 17 rfl
theorem dX12_findOrder_74 : decode cX12_findOrder 74 = .ok (.aload_n 0, 1) := all_at dvX12_findOrder_41 18 rfl
theorem dX12_findOrder_75 : decode cX12_findOrder 75 = .ok (.getfield 130, 3) := all_at dvX12_findOrder_41 19 rfl
theorem dX12_findOrder_78 : decode cX12_findOrder 78 = .ok (.iload 6, 2) := all_at dvX12_findOrder_41 20 rfl
theorem dX12_findOrder_80 : decode cX12_findOrder 80 = .ok (.dup2, 1) := all_at dvX12_findOrder_41 21 rfl
theorem dX12_findOrder_81 : decode cX12_findOrder 81 = .ok (.iaload, 1) := all_at dvX12_findOrder_41 22 rfl
theorem dX12_findOrder_82 : decode cX12_findOrder 82 = .ok (.aload_n 0, 1) := all_at dvX12_findOrder_41 23 rfl
set_option maxRecDepth 100000 in
theorem dvX12_findOrder_83 : ([(83, .getfield 127, 3), (86, .iload 5, 2), (88, .iaload, 1), (89, .iadd, 1), (90, .iastore, 1), (91, .aload_n 0, 1), (92, .getfield 130, 3), (95, .iload 6, 2), (97, .iaload, 1), (98, .iload 4, 2), (100, .if_icmp .le 13, 3), (103, .aload_n 0, 1), (104, .getfield 130, 3), (107, .iload 6, 2), (109, .iaload, 1), (110, .goto 5, 3), (113, .iload 4, 2), (115, .istore 4, 2), (117, .iinc 5 1, 3), (120, .goto (-65), 3), (123, .aload_n 0, 1), (124, .getfield 405, 3), (127, .ifCond .lt 12, 3), (130, .iload 4, 2)] : List (Nat × Instr × Nat)).all (fun q => decide (decode cX12_findOrder q.1 = .ok (q.2.1, q.2.2))) = true := by decide +kernel
theorem dX12_findOrder_83 : decode cX12_findOrder 83 = .ok (.getfield 127, 3) := all_at dvX12_findOrder_83 0 rfl
theorem dX12_findOrder_86 : decode cX12_findOrder 86 = .ok (.iload 5, 2) := all_at dvX12_findOrder_83 1 rfl
theorem dX12_findOrder_88 : decode cX12_findOrder 88 = .ok (.iaload, 1) := all_at dvX12_findOrder_83 2 rfl
theorem dX12_findOrder_89 : decode cX12_findOrder 89 = .ok (.iadd, 1) := all_at dvX12_findOrder_83 3 rfl
theorem dX12_findOrder_90 : decode cX12_findOrder 90 = .ok (.iastore, 1) := all_at dvX12_findOrder_83 4 rfl
theorem dX12_findOrder_91 : decode cX12_findOrder 91 = .ok (.aload_n 0, 1) := all_at dvX12_findOrder_83 5 rfl
theorem dX12_findOrder_92 : decode cX12_findOrder 92 = .ok (.getfield 130, 3) := all_at dvX12_findOrder_83 6 rfl
theorem dX12_findOrder_95 : decode cX12_findOrder 95 = .ok (.iload 6, 2) := all_at dvX12_findOrder_83 7 rfl
theorem dX12_findOrder_97 : decode cX12_findOrder 97 = .ok (.iaload, 1) := all_at dvX12_findOrder_83 8 rfl
theorem dX12_findOrder_98 : decode cX12_findOrder 98 = .ok (.iload 4, 2) := all_at dvX12_findOrder_83 9 rfl
theorem dX12_findOrder_100 : decode cX12_findOrder 100 = .ok (.if_icmp .le 13, 3) := all_at dvX12_findOrder_83 10 rfl
theorem dX12_findOrder_103 : decode cX12_findOrder 103 = .ok (.aload_n 0, 1) := all_at dvX12_findOrder_83 11 rfl
theorem dX12_findOrder_104 : decode cX12_findOrder 104 = .ok (.getfield 130, 3) := all_at dvX12_findOrder_83 12 rfl
theorem dX12_findOrder_107 : decode cX12_findOrder 107 = .ok (.iload 6, 2) := all_at dvX12_findOrder_83 13 rfl
theorem dX12_findOrder_109 : decode cX12_findOrder 109 = .ok (.iaload, 1) := all_at dvX12_findOrder_83 14 rfl
theorem dX12_findOrder_110 : decode cX12_findOrder 110 = .ok (.goto 5, 3) := all_at dvX12_findOrder_83 15 rfl
theorem dX12_findOrder_113 : decode cX12_findOrder 113 = .ok (.iload 4, 2) := all_at dvX12_findOrder_83 16 rfl
theorem dX12_findOrder_115 : decode cX12_findOrder 115 = .ok (.istore 4, 2) := all_at dvX12_findOrder_83 17 rfl
theorem dX12_findOrder_117 : decode cX12_findOrder 117 = .ok (.iinc 5 1, 3) := all_at dvX12_findOrder_83 18 rfl
theorem dX12_findOrder_120 : decode cX12_findOrder 120 = .ok (.goto (-65), 3) := all_at dvX12_findOrder_83 19 rfl
theorem dX12_findOrder_123 : decode cX12_findOrder 123 = .ok (.aload_n 0, 1) := all_at dvX12_findOrder_83 20 rfl
theorem dX12_findOrder_124 : decode cX12_findOrder 124 = .ok (.getfield 405, 3) := all_at dvX12_findOrder_83 21 rfl
theorem dX12_findOrder_127 : decode cX12_findOrder 127 = .ok (.ifCond .lt 12, 3) := all_at dvX12_findOrder_83 22 rfl
theorem dX12_findOrder_130 : decode cX12_findOrder 130 = .ok (.iload 4, 2) := all_at dvX12_findOrder_83 23 rfl
set_option maxRecDepth 100000 in
theorem dvX12_findOrder_132 : ([(132, .aload_n 0, 1), (133, .getfield 408, 3), (136, .if_icmp .ge 14, 3), (139, .aload_n 0, 1), (140, .iload_n 3, 1), (141, .putfield 405, 3), (144, .aload_n 0, 1), (145, .iload 4, 2), (147, .putfield 408, 3), (150, .iinc 3 1, 3), (153, .goto (-132), 3), (156, .return_, 1)] : List (Nat × Instr × Nat)).all (fun q => decide (decode cX12_findOrder q.1 = .ok (q.2.1, q.2.2))) = true := by decide +kernel
theorem dX12_findOrder_132 : decode cX12_findOrder 132 = .ok (.aload_n 0, 1) := all_at dvX12_findOrder_132 0 rfl
theorem dX12_findOrder_133 : decode cX12_findOrder 133 = .ok (.getfield 408, 3) := all_at dvX12_findOrder_132 1 rfl
theorem dX12_findOrder_136 : decode cX12_findOrder 136 = .ok (.if_icmp .ge 14, 3) := all_at dvX12_findOrder_132 2 rfl
theorem dX12_findOrder_139 : decode cX12_findOrder 139 = .ok (.aload_n 0, 1) := all_at dvX12_findOrder_132 3 rfl
theorem dX12_findOrder_140 : decode cX12_findOrder 140 = .ok (.iload_n 3, 1) := all_at dvX12_findOrder_132 4 rfl
theorem dX12_findOrder_141 : decode cX12_findOrder 141 = .ok (.putfield 405, 3) := all_at dvX12_findOrder_132 5 rfl
theorem dX12_findOrder_144 : decode cX12_findOrder 144 = .ok (.aload_n 0, 1) := all_at dvX12_findOrder_132 6 rfl
theorem dX12_findOrder_145 : decode cX12_findOrder 145 = .ok (.iload 4, 2) := all_at dvX12_findOrder_132 7 rfl
theorem dX12_findOrder_147 : decode cX12_findOrder 147 = .ok (.putfield 408, 3) := all_at dvX12_findOrder_132 8 rfl
theorem dX12_findOrder_150 : decode cX12_findOrder 150 = .ok (.iinc 3 1, 3) := all_at dvX12_findOrder_132 9 rfl
theorem dX12_findOrder_153 : decode cX12_findOrder 153 = .ok (.goto (-132), 3) := all_at dvX12_findOrder_132 10 rfl
theorem dX12_findOrder_156 : decode cX12_findOrder 156 = .ok (.return_, 1) := all_at dvX12_findOrder_132 11 rfl
set_option maxRecDepth 100000 in
theorem dvX12_order_0 : ([(0, .iload_n 1, 1), (1, .i2l, 1), (2, .lconst 1, 1), (3, .ldc2_w 190, 3), (6, .invokestatic 167, 3), (9, .ifCond .ne 6, 3), (12, .ldc 178, 2), (14, .ireturn, 1), (15, .aload_n 0, 1), (16, .iload_n 1, 1), (17, .invokevirtual 414, 3), (20, .iload_n 2, 1), (21, .iconst (-1), 1), (22, .if_icmp .ne 10, 3), (25, .aload_n 0, 1), (26, .getfield 408, 3), (29, .goto 33, 3), (32, .iload_n 2, 1), (33, .i2l, 1), (34, .lconst 0, 1), (35, .aload_n 0, 1), (36, .getfield 399, 3), (39, .iconst 1, 1), (40, .isub, 1)] : List (Nat × Instr × Nat)).all (fun q => decide (decode cX12_order q.1 = .ok (q.2.1, q.2.2))) = true := by decide +kernel
theorem dX12_order_0 : decode cX12_order 0 = .ok (.iload_n 1, 1) := all_at dvX12_order_0 0 rfl
theorem dX12_order_1 : decode cX12_order 1 = .ok (.i2l, 1) := all_at dvX12_order_0 1 rfl
theorem dX12_order_2 : decode cX12_order 2 = .ok (.lconst 1, 1) := all_at dvX12_order_0 2 rfl
theorem dX12_order_3 : decode cX12_order 3 = .ok (.ldc2_w 190, 3) := all_at dvX12_order_0 3 rfl
theorem dX12_order_6 : decode cX12_order 6 = .ok (.invokestatic 167, 3) := all_at dvX12_order_0 4 rfl
theorem dX12_order_9 : decode cX12_order 9 = .ok (.ifCond .ne 6, 3) := all_at dvX12_order_0 5 rfl
theorem dX12_order_12 : decode cX12_order 12 = .ok (.ldc 178, 2) := all_at dvX12_order_0 6 rfl
theorem dX12_order_14 : decode cX12_order 14 = .ok (.ireturn, 1) := all_at dvX12_order_0 7 rfl
theorem dX12_order_15 : decode cX12_order 15 = .ok (.aload_n 0, 1) := all_at dvX12_order_0 8 rfl
theorem dX12_order_16 : decode cX12_order 16 = .ok (.iload_n 1, 1) := all_at dvX12_order_0 9 rfl
theorem dX12_order_17 : decode cX12_order 17 = .ok (.invokevirtual 414, 3) := all_at dvX12_order_0 10 rfl
theorem dX12_order_20 : decode cX12_order 20 = .ok (.iload_n 2, 1) := all_at dvX12_order_0 11 rfl
theorem dX12_order_21 : decode cX12_order 21 = .ok (.iconst (-1), 1) := all_at dvX12_order_0 12 rfl
theorem dX12_order_22 : decode cX12_order 22 = .ok (.if_icmp .ne 10, 3) := all_at dvX12_order_0 13 rfl
theorem dX12_order_25 : decode cX12_order 25 = .ok (.aload_n 0, 1) := all_at dvX12_order_0 14 rfl
theorem dX12_order_26 : decode cX12_order 26 = .ok (.getfield 408, 3) := all_at dvX12_order_0 15 rfl
theorem dX12_order_29 : decode cX12_order 29 = .ok (.goto 33, 3) := all_at dvX12_order_0 16 rfl
theorem dX12_order_32 : decode cX12_order 32 = .ok (.iload_n 2, 1) := all_at dvX12_order_0 17 rfl
theorem dX12_order_33 : decode cX12_order 33 = .ok (.i2l, 1) := all_at dvX12_order_0 18 rfl
theorem dX12_order_34 : decode cX12_order 34 = .ok (.lconst 0, 1) := all_at dvX12_order_0 19 rfl
theorem dX12_order_35 : decode cX12_order 35 = .ok (.aload_n 0, 1) := all_at dvX12_order_0 20 rfl
theorem dX12_order_36 : decode cX12_order 36 = .ok (.getfield 399, 3) := all_at dvX12_order_0 21 rfl
theorem dX12_order_39 : decode cX12_order 39 = .ok (.iconst 1, 1) := all_at dvX12_order_0 22 rfl
theorem dX12_order_40 : decode cX12_order 40 = .ok (.isub, 1) := all_at dvX12_order_0 23 rfl
set_option maxRecDepth 100000 in
theorem dvX12_order_41 : ([(41, .i2l, 1), (42, .invokestatic 167, 3), (45, .ifCond .eq 16, 3), (48, .aload_n 0, 1), (49, .aload_n 0, 1), (50, .getfield 405, 3), (53, .iload_n 1, 1), (54, .iload_n 2, 1), (55, .invokevirtual 411, 3), (58, .goto 4, 3), (61, .iconst (-1), 1), (62, .ireturn, 1)] : List (Nat × Instr × Nat)).all (fun q => decide (decode cX12_order q.1 = .ok (q.2.1, q.2.2))) = true := by decide +kernel
theorem dX12_order_41 : decode cX12_order 41 = .ok (.i2l, 1) := all_at dvX12_order_41 0 rfl
theorem dX12_order_42 : decode cX12_order 42 = .ok (.invokestatic 167, 3) := all_at dvX12_order_41 1 rfl
theorem dX12_order_45 : decode cX12_order 45 = .ok (.ifCond .eq 16, 3) := all_at dvX12_order_41 2 rfl
theorem dX12_order_48 : decode cX12_order 48 = .ok (.aload_n 0, 1) := all_at dvX12_order_41 3 rfl
theorem dX12_order_49 : decode cX12_order 49 = .ok (.aload_n 0, 1) := all_at dvX12_order_41 4 rfl
theorem dX12_order_50 : decode cX12_order 50 = .ok (.getfield 405, 3) := all_at dvX12_order_41 5 rfl
theorem dX12_order_53 : decode cX12_order 53 = .ok (.iload_n 1, 1) := all_at dvX12_order_41 6 rfl
theorem dX12_order_54 : decode cX12_order 54 = .ok (.iload_n 2, 1) := all_at dvX12_order_41 7 rfl
theorem dX12_order_55 : decode cX12_order 55 = .ok (.invokevirtual 411, 3) := all_at dvX12_order_41 8 rfl
theorem dX12_order_58 : decode cX12_order 58 = .ok (.goto 4, 3) := all_at dvX12_order_41 9 rfl
theorem dX12_order_61 : decode cX12_order 61 = .ok (.iconst (-1), 1) := all_at dvX12_order_41 10 rfl
theorem dX12_order_62 : decode cX12_order 62 = .ok (.ireturn, 1) := all_at dvX12_order_41 11 rfl
set_option maxRecDepth 100000 in
theorem dvX12_ovenOf_0 : ([(0, .iload_n 1, 1), (1, .iload_n 2, 1), (2, .aload_n 0, 1), (3, .getfield 399, 3), (6, .iconst 1, 1), (7, .isub, 1), (8, .iload_n 3, 1), (9, .isub, 1), (10, .invokestatic 402, 3), (13, .idiv, 1), (14, .iload_n 2, 1), (15, .irem, 1), (16, .ireturn, 1)] : List (Nat × Instr × Nat)).all (fun q => decide (decode cX12_ovenOf q.1 = .ok (q.2.1, q.2.2))) = true := by decide +kernel
theorem dX12_ovenOf_0 : decode cX12_ovenOf 0 = .ok (.iload_n 1, 1) := all_at dvX12_ovenOf_0 0 rfl
theorem dX12_ovenOf_1 : decode cX12_ovenOf 1 = .ok (.iload_n 2, 1) := all_at dvX12_ovenOf_0 1 rfl
theorem dX12_ovenOf_2 : decode cX12_ovenOf 2 = .ok (.aload_n 0, 1) := all_at dvX12_ovenOf_0 2 rfl
theorem dX12_ovenOf_3 : decode cX12_ovenOf 3 = .ok (.getfield 399, 3) := all_at dvX12_ovenOf_0 3 rfl
theorem dX12_ovenOf_6 : decode cX12_ovenOf 6 = .ok (.iconst 1, 1) := all_at dvX12_ovenOf_0 4 rfl
theorem dX12_ovenOf_7 : decode cX12_ovenOf 7 = .ok (.isub, 1) := all_at dvX12_ovenOf_0 5 rfl
theorem dX12_ovenOf_8 : decode cX12_ovenOf 8 = .ok (.iload_n 3, 1) := all_at dvX12_ovenOf_0 6 rfl
theorem dX12_ovenOf_9 : decode cX12_ovenOf 9 = .ok (.isub, 1) := all_at dvX12_ovenOf_0 7 rfl
theorem dX12_ovenOf_10 : decode cX12_ovenOf 10 = .ok (.invokestatic 402, 3) := all_at dvX12_ovenOf_0 8 rfl
theorem dX12_ovenOf_13 : decode cX12_ovenOf 13 = .ok (.idiv, 1) := all_at dvX12_ovenOf_0 9 rfl
theorem dX12_ovenOf_14 : decode cX12_ovenOf 14 = .ok (.iload_n 2, 1) := all_at dvX12_ovenOf_0 10 rfl
theorem dX12_ovenOf_15 : decode cX12_ovenOf 15 = .ok (.irem, 1) := all_at dvX12_ovenOf_0 11 rfl
theorem dX12_ovenOf_16 : decode cX12_ovenOf 16 = .ok (.ireturn, 1) := all_at dvX12_ovenOf_0 12 rfl
set_option maxHeartbeats 4000000 in
set_option maxRecDepth 100000 in
/-- X12_ovenOf -/
theorem c_X12_ovenOf_0 (l : Launch) (dC : Nat → ClassId) (dI : Nat → Nat → Nat) (h : Nat) (g : Nat → Nat → Nat) (ca : Nat → Nat → ClassId) (iv : Nat → Nat → Int32) (lv : Nat → Nat → Int64) (fa : Nat → Nat → Nat → Int32) (la : Nat → Nat → Nat → Int64) (hI : IX iv fa) (w : Int32) (mm : Int32) (k : Int32) (q_12_57 : 1 ≤ (iv 12 57).toInt ∧ (iv 12 57).toInt ≤ 8) (h_w : 0 ≤ w.toInt ∧ w.toInt ≤ 9999) (h_mm : 1 ≤ mm.toInt ∧ mm.toInt ≤ 3) (h_k : 0 ≤ k.toInt ∧ k.toInt ≤ 7) (p_0 : k.toInt + 1 ≤ (iv 12 57).toInt) : Met l yX12_ovenOf (wc yX12_ovenOf cX12_ovenOf 4 (some .int)) ({ frames := 1, cells := 0, slots := 0, locals := 23 } : Room) (pR (dC, dI) classes (WM h g ca iv lv fa la) (TM ca) [.ref h, .int w, .int mm, .int k]) (vp_Si (fun r => 0 ≤ r.toInt ∧ r.toInt ≤ 2)) 0 0 (fun _ => False) := by
  refine Met.ofW (cc := cX12_ovenOf) (maxL := 4) (ret := (some .int)) (by decide) rfl ?_
  intro p e s m args below meth c s₁ B hml hv
  obtain ⟨rfl, hP, hK⟩ := hv
  have hx := B.exec
  have hb := B.bytes
  have hr := B.returns
  have ht := tb_tl (atoms_spec (ws := wc yX12_ovenOf cX12_ovenOf 4 (some .int)) B.pre)
  have hown : s.vm.findClass RX12 = some m.cls := findClass_of_methodNamed B.named
  have hlocks := B.notSynchronized
  have hl := lv_entry [.ref h, .int w, .int mm, .int k] (n := 4) (Nat.le_of_ble_eq_true rfl)
  rw [lg_entry_eq]
  generalize (lg_sl [.ref h, .int w, .int mm, .int k] ++ List.replicate (4 - (lg_sl [.ref h, .int w, .int mm, .int k]).length) Slot.unset).toArray = ls at hl ⊢
  have hl : lv_has ls 4 [(0, .ref h), (1, .int w), (2, .int mm), (3, .int k)] := hl
  refine lv_iload_n hx hb dX12_ovenOf_0 rfl (lv_at hl 1 rfl) ?_
  refine lv_iload_n hx hb dX12_ovenOf_1 rfl (lv_at hl 2 rfl) ?_
  refine lv_aload_n hx hb dX12_ovenOf_2 rfl (lv_at hl 0 rfl) ?_
  have i_12_57 : 0 ≤ (iv 12 57).toInt ∧ (iv 12 57).toInt ≤ 8 := hI.1 12 57
  refine gM_12_57 hx hb ht hown hK hP m_1196 (v := (iv 12 57)) rfl dX12_ovenOf_3 ?_
  refine lv_iconst (v := 1) hx hb dX12_ovenOf_6 (by decide) ?_
  refine lv_isub hx hb dX12_ovenOf_7 ?_
  refine lv_topi (fun v1 ev1 => ?_)
  have tv1 := z_sub ev1 (rfl : ((iv 12 57)).toInt = _) (by decide : (1 : Int32).toInt = 1) (by omega) (by omega)
  refine lv_iload_n hx hb dX12_ovenOf_8 rfl (lv_at hl 3 rfl) ?_
  refine lv_isub hx hb dX12_ovenOf_9 ?_
  refine lv_topi (fun v2 ev2 => ?_)
  have tv2 := z_sub ev2 (rfl : (v1).toInt = _) (rfl : (k).toInt = _) (by omega) (by omega)
  have : 0 ≤ (v2 : Int32).toInt ∧ (v2 : Int32).toInt ≤ 7 := ⟨by omega, by omega⟩
  rcases (by omega : (v2 : Int32).toInt = 0 ∨ (v2 : Int32).toInt = 1 ∨ (v2 : Int32).toInt = 2 ∨ (v2 : Int32).toInt = 3 ∨ (v2 : Int32).toInt = 4 ∨ (v2 : Int32).toInt = 5 ∨ (v2 : Int32).toInt = 6 ∨ (v2 : Int32).toInt = 7) with q3 | q3 | q3 | q3 | q3 | q3 | q3 | q3
  · obtain rfl : v2 = 0 := z_of (by decide) q3
    have : (0 : Int32).toInt = 0 := by decide
    refine vp_callSi (W.runS (As := [.int mm, .int 0]) (rest := [.int w]) ⟨hx, hb, hml, hown, ht⟩ (c_X12_power_0 l dC dI mm ⟨by omega, by omega⟩) (kS 2 ht m_1649 m_1650 m_89 m_1651 rfl rfl hd_X12_power_v ⟨Nat.le_of_ble_eq_true rfl, Nat.le_of_ble_eq_true rfl⟩) (sR noP (hK.sub (tys' := []) [] rfl)) rfl rfl hl.1 rfl (lv_room (Nat.le_of_ble_eq_true rfl)) dX12_ovenOf_10 ⟨Nat.le_of_ble_eq_true rfl, Nat.le_of_ble_eq_true rfl⟩) (fun r4 hr4 => ?_)
    refine lv_idiv hx hb dX12_ovenOf_13 (z_nz (rfl : (r4 : Int32).toInt = _) (by omega)) ?_
    refine lv_topi (fun v5 ev5 => ?_)
    have tv5 := z_divb ev5 (rfl : (w : Int32).toInt = _) (rfl : (r4 : Int32).toInt = _) (by omega) (by omega)
    refine lv_iload_n hx hb dX12_ovenOf_14 rfl (lv_at hl 2 rfl) ?_
    refine lv_irem hx hb dX12_ovenOf_15 (z_nz (rfl : (mm : Int32).toInt = _) (by omega)) ?_
    refine lv_topi (fun v6 ev6 => ?_)
    have tv6 := z_remb ev6 (rfl : (v5 : Int32).toInt = _) (rfl : (mm : Int32).toInt = _) (by omega) (by omega)
    exact W.iret (v := v6) hx hb hr (fun t ht9 hW => ⟨v6, rfl, ⟨by omega, by omega⟩, ht9⟩) (fun q hq => by cases hq) dX12_ovenOf_16
  · obtain rfl : v2 = 1 := z_of (by decide) q3
    have : (1 : Int32).toInt = 1 := by decide
    refine vp_callSi (W.runS (As := [.int mm, .int 1]) (rest := [.int w]) ⟨hx, hb, hml, hown, ht⟩ (c_X12_power_1 l dC dI mm ⟨by omega, by omega⟩) (kS 2 ht m_1649 m_1650 m_89 m_1651 rfl rfl hd_X12_power_v ⟨Nat.le_of_ble_eq_true rfl, Nat.le_of_ble_eq_true rfl⟩) (sR noP (hK.sub (tys' := []) [] rfl)) rfl rfl hl.1 rfl (lv_room (Nat.le_of_ble_eq_true rfl)) dX12_ovenOf_10 ⟨Nat.le_of_ble_eq_true rfl, Nat.le_of_ble_eq_true rfl⟩) (fun r7 hr7 => ?_)
    refine lv_idiv hx hb dX12_ovenOf_13 (z_nz (rfl : (r7 : Int32).toInt = _) (by omega)) ?_
    refine lv_topi (fun v8 ev8 => ?_)
    have tv8 := z_divb ev8 (rfl : (w : Int32).toInt = _) (rfl : (r7 : Int32).toInt = _) (by omega) (by omega)
    refine lv_iload_n hx hb dX12_ovenOf_14 rfl (lv_at hl 2 rfl) ?_
    refine lv_irem hx hb dX12_ovenOf_15 (z_nz (rfl : (mm : Int32).toInt = _) (by omega)) ?_
    refine lv_topi (fun v9 ev9 => ?_)
    have tv9 := z_remb ev9 (rfl : (v8 : Int32).toInt = _) (rfl : (mm : Int32).toInt = _) (by omega) (by omega)
    exact W.iret (v := v9) hx hb hr (fun t ht9 hW => ⟨v9, rfl, ⟨by omega, by omega⟩, ht9⟩) (fun q hq => by cases hq) dX12_ovenOf_16
  · obtain rfl : v2 = 2 := z_of (by decide) q3
    have : (2 : Int32).toInt = 2 := by decide
    refine vp_callSi (W.runS (As := [.int mm, .int 2]) (rest := [.int w]) ⟨hx, hb, hml, hown, ht⟩ (c_X12_power_2 l dC dI mm ⟨by omega, by omega⟩) (kS 2 ht m_1649 m_1650 m_89 m_1651 rfl rfl hd_X12_power_v ⟨Nat.le_of_ble_eq_true rfl, Nat.le_of_ble_eq_true rfl⟩) (sR noP (hK.sub (tys' := []) [] rfl)) rfl rfl hl.1 rfl (lv_room (Nat.le_of_ble_eq_true rfl)) dX12_ovenOf_10 ⟨Nat.le_of_ble_eq_true rfl, Nat.le_of_ble_eq_true rfl⟩) (fun r10 hr10 => ?_)
    refine lv_idiv hx hb dX12_ovenOf_13 (z_nz (rfl : (r10 : Int32).toInt = _) (by omega)) ?_
    refine lv_topi (fun v11 ev11 => ?_)
    have tv11 := z_divb ev11 (rfl : (w : Int32).toInt = _) (rfl : (r10 : Int32).toInt = _) (by omega) (by omega)
    refine lv_iload_n hx hb dX12_ovenOf_14 rfl (lv_at hl 2 rfl) ?_
    refine lv_irem hx hb dX12_ovenOf_15 (z_nz (rfl : (mm : Int32).toInt = _) (by omega)) ?_
    refine lv_topi (fun v12 ev12 => ?_)
    have tv12 := z_remb ev12 (rfl : (v11 : Int32).toInt = _) (rfl : (mm : Int32).toInt = _) (by omega) (by omega)
    exact W.iret (v := v12) hx hb hr (fun t ht9 hW => ⟨v12, rfl, ⟨by omega, by omega⟩, ht9⟩) (fun q hq => by cases hq) dX12_ovenOf_16
  · obtain rfl : v2 = 3 := z_of (by decide) q3
    have : (3 : Int32).toInt = 3 := by decide
    refine vp_callSi (W.runS (As := [.int mm, .int 3]) (rest := [.int w]) ⟨hx, hb, hml, hown, ht⟩ (c_X12_power_3 l dC dI mm ⟨by omega, by omega⟩) (kS 2 ht m_1649 m_1650 m_89 m_1651 rfl rfl hd_X12_power_v ⟨Nat.le_of_ble_eq_true rfl, Nat.le_of_ble_eq_true rfl⟩) (sR noP (hK.sub (tys' := []) [] rfl)) rfl rfl hl.1 rfl (lv_room (Nat.le_of_ble_eq_true rfl)) dX12_ovenOf_10 ⟨Nat.le_of_ble_eq_true rfl, Nat.le_of_ble_eq_true rfl⟩) (fun r13 hr13 => ?_)
    refine lv_idiv hx hb dX12_ovenOf_13 (z_nz (rfl : (r13 : Int32).toInt = _) (by omega)) ?_
    refine lv_topi (fun v14 ev14 => ?_)
    have tv14 := z_divb ev14 (rfl : (w : Int32).toInt = _) (rfl : (r13 : Int32).toInt = _) (by omega) (by omega)
    refine lv_iload_n hx hb dX12_ovenOf_14 rfl (lv_at hl 2 rfl) ?_
    refine lv_irem hx hb dX12_ovenOf_15 (z_nz (rfl : (mm : Int32).toInt = _) (by omega)) ?_
    refine lv_topi (fun v15 ev15 => ?_)
    have tv15 := z_remb ev15 (rfl : (v14 : Int32).toInt = _) (rfl : (mm : Int32).toInt = _) (by omega) (by omega)
    exact W.iret (v := v15) hx hb hr (fun t ht9 hW => ⟨v15, rfl, ⟨by omega, by omega⟩, ht9⟩) (fun q hq => by cases hq) dX12_ovenOf_16
  · obtain rfl : v2 = 4 := z_of (by decide) q3
    have : (4 : Int32).toInt = 4 := by decide
    refine vp_callSi (W.runS (As := [.int mm, .int 4]) (rest := [.int w]) ⟨hx, hb, hml, hown, ht⟩ (c_X12_power_4 l dC dI mm ⟨by omega, by omega⟩) (kS 2 ht m_1649 m_1650 m_89 m_1651 rfl rfl hd_X12_power_v ⟨Nat.le_of_ble_eq_true rfl, Nat.le_of_ble_eq_true rfl⟩) (sR noP (hK.sub (tys' := []) [] rfl)) rfl rfl hl.1 rfl (lv_room (Nat.le_of_ble_eq_true rfl)) dX12_ovenOf_10 ⟨Nat.le_of_ble_eq_true rfl, Nat.le_of_ble_eq_true rfl⟩) (fun r16 hr16 => ?_)
    refine lv_idiv hx hb dX12_ovenOf_13 (z_nz (rfl : (r16 : Int32).toInt = _) (by omega)) ?_
    refine lv_topi (fun v17 ev17 => ?_)
    have tv17 := z_divb ev17 (rfl : (w : Int32).toInt = _) (rfl : (r16 : Int32).toInt = _) (by omega) (by omega)
    refine lv_iload_n hx hb dX12_ovenOf_14 rfl (lv_at hl 2 rfl) ?_
    refine lv_irem hx hb dX12_ovenOf_15 (z_nz (rfl : (mm : Int32).toInt = _) (by omega)) ?_
    refine lv_topi (fun v18 ev18 => ?_)
    have tv18 := z_remb ev18 (rfl : (v17 : Int32).toInt = _) (rfl : (mm : Int32).toInt = _) (by omega) (by omega)
    exact W.iret (v := v18) hx hb hr (fun t ht9 hW => ⟨v18, rfl, ⟨by omega, by omega⟩, ht9⟩) (fun q hq => by cases hq) dX12_ovenOf_16
  · obtain rfl : v2 = 5 := z_of (by decide) q3
    have : (5 : Int32).toInt = 5 := by decide
    refine vp_callSi (W.runS (As := [.int mm, .int 5]) (rest := [.int w]) ⟨hx, hb, hml, hown, ht⟩ (c_X12_power_5 l dC dI mm ⟨by omega, by omega⟩) (kS 2 ht m_1649 m_1650 m_89 m_1651 rfl rfl hd_X12_power_v ⟨Nat.le_of_ble_eq_true rfl, Nat.le_of_ble_eq_true rfl⟩) (sR noP (hK.sub (tys' := []) [] rfl)) rfl rfl hl.1 rfl (lv_room (Nat.le_of_ble_eq_true rfl)) dX12_ovenOf_10 ⟨Nat.le_of_ble_eq_true rfl, Nat.le_of_ble_eq_true rfl⟩) (fun r19 hr19 => ?_)
    refine lv_idiv hx hb dX12_ovenOf_13 (z_nz (rfl : (r19 : Int32).toInt = _) (by omega)) ?_
    refine lv_topi (fun v20 ev20 => ?_)
    have tv20 := z_divb ev20 (rfl : (w : Int32).toInt = _) (rfl : (r19 : Int32).toInt = _) (by omega) (by omega)
    refine lv_iload_n hx hb dX12_ovenOf_14 rfl (lv_at hl 2 rfl) ?_
    refine lv_irem hx hb dX12_ovenOf_15 (z_nz (rfl : (mm : Int32).toInt = _) (by omega)) ?_
    refine lv_topi (fun v21 ev21 => ?_)
    have tv21 := z_remb ev21 (rfl : (v20 : Int32).toInt = _) (rfl : (mm : Int32).toInt = _) (by omega) (by omega)
    exact W.iret (v := v21) hx hb hr (fun t ht9 hW => ⟨v21, rfl, ⟨by omega, by omega⟩, ht9⟩) (fun q hq => by cases hq) dX12_ovenOf_16
  · obtain rfl : v2 = 6 := z_of (by decide) q3
    have : (6 : Int32).toInt = 6 := by decide
    refine vp_callSi (W.runS (As := [.int mm, .int 6]) (rest := [.int w]) ⟨hx, hb, hml, hown, ht⟩ (c_X12_power_6 l dC dI mm ⟨by omega, by omega⟩) (kS 2 ht m_1649 m_1650 m_89 m_1651 rfl rfl hd_X12_power_v ⟨Nat.le_of_ble_eq_true rfl, Nat.le_of_ble_eq_true rfl⟩) (sR noP (hK.sub (tys' := []) [] rfl)) rfl rfl hl.1 rfl (lv_room (Nat.le_of_ble_eq_true rfl)) dX12_ovenOf_10 ⟨Nat.le_of_ble_eq_true rfl, Nat.le_of_ble_eq_true rfl⟩) (fun r22 hr22 => ?_)
    refine lv_idiv hx hb dX12_ovenOf_13 (z_nz (rfl : (r22 : Int32).toInt = _) (by omega)) ?_
    refine lv_topi (fun v23 ev23 => ?_)
    have tv23 := z_divb ev23 (rfl : (w : Int32).toInt = _) (rfl : (r22 : Int32).toInt = _) (by omega) (by omega)
    refine lv_iload_n hx hb dX12_ovenOf_14 rfl (lv_at hl 2 rfl) ?_
    refine lv_irem hx hb dX12_ovenOf_15 (z_nz (rfl : (mm : Int32).toInt = _) (by omega)) ?_
    refine lv_topi (fun v24 ev24 => ?_)
    have tv24 := z_remb ev24 (rfl : (v23 : Int32).toInt = _) (rfl : (mm : Int32).toInt = _) (by omega) (by omega)
    exact W.iret (v := v24) hx hb hr (fun t ht9 hW => ⟨v24, rfl, ⟨by omega, by omega⟩, ht9⟩) (fun q hq => by cases hq) dX12_ovenOf_16
  · obtain rfl : v2 = 7 := z_of (by decide) q3
    have : (7 : Int32).toInt = 7 := by decide
    refine vp_callSi (W.runS (As := [.int mm, .int 7]) (rest := [.int w]) ⟨hx, hb, hml, hown, ht⟩ (c_X12_power_7 l dC dI mm ⟨by omega, by omega⟩) (kS 2 ht m_1649 m_1650 m_89 m_1651 rfl rfl hd_X12_power_v ⟨Nat.le_of_ble_eq_true rfl, Nat.le_of_ble_eq_true rfl⟩) (sR noP (hK.sub (tys' := []) [] rfl)) rfl rfl hl.1 rfl (lv_room (Nat.le_of_ble_eq_true rfl)) dX12_ovenOf_10 ⟨Nat.le_of_ble_eq_true rfl, Nat.le_of_ble_eq_true rfl⟩) (fun r25 hr25 => ?_)
    refine lv_idiv hx hb dX12_ovenOf_13 (z_nz (rfl : (r25 : Int32).toInt = _) (by omega)) ?_
    refine lv_topi (fun v26 ev26 => ?_)
    have tv26 := z_divb ev26 (rfl : (w : Int32).toInt = _) (rfl : (r25 : Int32).toInt = _) (by omega) (by omega)
    refine lv_iload_n hx hb dX12_ovenOf_14 rfl (lv_at hl 2 rfl) ?_
    refine lv_irem hx hb dX12_ovenOf_15 (z_nz (rfl : (mm : Int32).toInt = _) (by omega)) ?_
    refine lv_topi (fun v27 ev27 => ?_)
    have tv27 := z_remb ev27 (rfl : (v26 : Int32).toInt = _) (rfl : (mm : Int32).toInt = _) (by omega) (by omega)
    exact W.iret (v := v27) hx hb hr (fun t ht9 hW => ⟨v27, rfl, ⟨by omega, by omega⟩, ht9⟩) (fun q hq => by cases hq) dX12_ovenOf_16
set_option maxHeartbeats 4000000 in
set_option maxRecDepth 100000 in
/-- X12_ovenOf -/
theorem c_X12_ovenOf (l : Launch) (dC : Nat → ClassId) (dI : Nat → Nat → Nat) (h : Nat) (g : Nat → Nat → Nat) (ca : Nat → Nat → ClassId) (iv : Nat → Nat → Int32) (lv : Nat → Nat → Int64) (fa : Nat → Nat → Nat → Int32) (la : Nat → Nat → Nat → Int64) (hI : IX iv fa) (w : Int32) (mm : Int32) (k : Int32) (q_12_57 : 1 ≤ (iv 12 57).toInt ∧ (iv 12 57).toInt ≤ 8) (h_mm : 1 ≤ mm.toInt ∧ mm.toInt ≤ 3) (h_k : 0 ≤ k.toInt ∧ k.toInt ≤ 7) (p_0 : k.toInt + 1 ≤ (iv 12 57).toInt) : Met l yX12_ovenOf (wc yX12_ovenOf cX12_ovenOf 4 (some .int)) ({ frames := 1, cells := 0, slots := 0, locals := 23 } : Room) (pR (dC, dI) classes (WM h g ca iv lv fa la) (TM ca) [.ref h, .int w, .int mm, .int k]) (vp_Si (fun r => True)) 0 0 (fun _ => False) := by
  refine Met.ofW (cc := cX12_ovenOf) (maxL := 4) (ret := (some .int)) (by decide) rfl ?_
  intro p e s m args below meth c s₁ B hml hv
  obtain ⟨rfl, hP, hK⟩ := hv
  have hx := B.exec
  have hb := B.bytes
  have hr := B.returns
  have ht := tb_tl (atoms_spec (ws := wc yX12_ovenOf cX12_ovenOf 4 (some .int)) B.pre)
  have hown : s.vm.findClass RX12 = some m.cls := findClass_of_methodNamed B.named
  have hlocks := B.notSynchronized
  have hl := lv_entry [.ref h, .int w, .int mm, .int k] (n := 4) (Nat.le_of_ble_eq_true rfl)
  rw [lg_entry_eq]
  generalize (lg_sl [.ref h, .int w, .int mm, .int k] ++ List.replicate (4 - (lg_sl [.ref h, .int w, .int mm, .int k]).length) Slot.unset).toArray = ls at hl ⊢
  have hl : lv_has ls 4 [(0, .ref h), (1, .int w), (2, .int mm), (3, .int k)] := hl
  refine lv_iload_n hx hb dX12_ovenOf_0 rfl (lv_at hl 1 rfl) ?_
  refine lv_iload_n hx hb dX12_ovenOf_1 rfl (lv_at hl 2 rfl) ?_
  refine lv_aload_n hx hb dX12_ovenOf_2 rfl (lv_at hl 0 rfl) ?_
  have i_12_57 : 0 ≤ (iv 12 57).toInt ∧ (iv 12 57).toInt ≤ 8 := hI.1 12 57
  refine gM_12_57 hx hb ht hown hK hP m_1196 (v := (iv 12 57)) rfl dX12_ovenOf_3 ?_
  refine lv_iconst (v := 1) hx hb dX12_ovenOf_6 (by decide) ?_
  refine lv_isub hx hb dX12_ovenOf_7 ?_
  refine lv_topi (fun v1 ev1 => ?_)
  have tv1 := z_sub ev1 (rfl : ((iv 12 57)).toInt = _) (by decide : (1 : Int32).toInt = 1) (by omega) (by omega)
  refine lv_iload_n hx hb dX12_ovenOf_8 rfl (lv_at hl 3 rfl) ?_
  refine lv_isub hx hb dX12_ovenOf_9 ?_
  refine lv_topi (fun v2 ev2 => ?_)
  have tv2 := z_sub ev2 (rfl : (v1).toInt = _) (rfl : (k).toInt = _) (by omega) (by omega)
  have : 0 ≤ (v2 : Int32).toInt ∧ (v2 : Int32).toInt ≤ 7 := ⟨by omega, by omega⟩
  rcases (by omega : (v2 : Int32).toInt = 0 ∨ (v2 : Int32).toInt = 1 ∨ (v2 : Int32).toInt = 2 ∨ (v2 : Int32).toInt = 3 ∨ (v2 : Int32).toInt = 4 ∨ (v2 : Int32).toInt = 5 ∨ (v2 : Int32).toInt = 6 ∨ (v2 : Int32).toInt = 7) with q3 | q3 | q3 | q3 | q3 | q3 | q3 | q3
  · obtain rfl : v2 = 0 := z_of (by decide) q3
    have : (0 : Int32).toInt = 0 := by decide
    refine vp_callSi (W.runS (As := [.int mm, .int 0]) (rest := [.int w]) ⟨hx, hb, hml, hown, ht⟩ (c_X12_power_0 l dC dI mm ⟨by omega, by omega⟩) (kS 2 ht m_1649 m_1650 m_89 m_1651 rfl rfl hd_X12_power_v ⟨Nat.le_of_ble_eq_true rfl, Nat.le_of_ble_eq_true rfl⟩) (sR noP (hK.sub (tys' := []) [] rfl)) rfl rfl hl.1 rfl (lv_room (Nat.le_of_ble_eq_true rfl)) dX12_ovenOf_10 ⟨Nat.le_of_ble_eq_true rfl, Nat.le_of_ble_eq_true rfl⟩) (fun r4 hr4 => ?_)
    refine lv_idiv hx hb dX12_ovenOf_13 (z_nz (rfl : (r4 : Int32).toInt = _) (by omega)) ?_
    refine lv_topi (fun v5 ev5 => ?_)
    refine lv_iload_n hx hb dX12_ovenOf_14 rfl (lv_at hl 2 rfl) ?_
    refine lv_irem hx hb dX12_ovenOf_15 (z_nz (rfl : (mm : Int32).toInt = _) (by omega)) ?_
    refine lv_topi (fun v6 ev6 => ?_)
    exact W.iret (v := v6) hx hb hr (fun t ht9 hW => ⟨v6, rfl, trivial, ht9⟩) (fun q hq => by cases hq) dX12_ovenOf_16
  · obtain rfl : v2 = 1 := z_of (by decide) q3
    have : (1 : Int32).toInt = 1 := by decide
    refine vp_callSi (W.runS (As := [.int mm, .int 1]) (rest := [.int w]) ⟨hx, hb, hml, hown, ht⟩ (c_X12_power_1 l dC dI mm ⟨by omega, by omega⟩) (kS 2 ht m_1649 m_1650 m_89 m_1651 rfl rfl hd_X12_power_v ⟨Nat.le_of_ble_eq_true rfl, Nat.le_of_ble_eq_true rfl⟩) (sR noP (hK.sub (tys' := []) [] rfl)) rfl rfl hl.1 rfl (lv_room (Nat.le_of_ble_eq_true rfl)) dX12_ovenOf_10 ⟨Nat.le_of_ble_eq_true rfl, Nat.le_of_ble_eq_true rfl⟩) (fun r7 hr7 => ?_)
    refine lv_idiv hx hb dX12_ovenOf_13 (z_nz (rfl : (r7 : Int32).toInt = _) (by omega)) ?_
    refine lv_topi (fun v8 ev8 => ?_)
    refine lv_iload_n hx hb dX12_ovenOf_14 rfl (lv_at hl 2 rfl) ?_
    refine lv_irem hx hb dX12_ovenOf_15 (z_nz (rfl : (mm : Int32).toInt = _) (by omega)) ?_
    refine lv_topi (fun v9 ev9 => ?_)
    exact W.iret (v := v9) hx hb hr (fun t ht9 hW => ⟨v9, rfl, trivial, ht9⟩) (fun q hq => by cases hq) dX12_ovenOf_16
  · obtain rfl : v2 = 2 := z_of (by decide) q3
    have : (2 : Int32).toInt = 2 := by decide
    refine vp_callSi (W.runS (As := [.int mm, .int 2]) (rest := [.int w]) ⟨hx, hb, hml, hown, ht⟩ (c_X12_power_2 l dC dI mm ⟨by omega, by omega⟩) (kS 2 ht m_1649 m_1650 m_89 m_1651 rfl rfl hd_X12_power_v ⟨Nat.le_of_ble_eq_true rfl, Nat.le_of_ble_eq_true rfl⟩) (sR noP (hK.sub (tys' := []) [] rfl)) rfl rfl hl.1 rfl (lv_room (Nat.le_of_ble_eq_true rfl)) dX12_ovenOf_10 ⟨Nat.le_of_ble_eq_true rfl, Nat.le_of_ble_eq_true rfl⟩) (fun r10 hr10 => ?_)
    refine lv_idiv hx hb dX12_ovenOf_13 (z_nz (rfl : (r10 : Int32).toInt = _) (by omega)) ?_
    refine lv_topi (fun v11 ev11 => ?_)
    refine lv_iload_n hx hb dX12_ovenOf_14 rfl (lv_at hl 2 rfl) ?_
    refine lv_irem hx hb dX12_ovenOf_15 (z_nz (rfl : (mm : Int32).toInt = _) (by omega)) ?_
    refine lv_topi (fun v12 ev12 => ?_)
    exact W.iret (v := v12) hx hb hr (fun t ht9 hW => ⟨v12, rfl, trivial, ht9⟩) (fun q hq => by cases hq) dX12_ovenOf_16
  · obtain rfl : v2 = 3 := z_of (by decide) q3
    have : (3 : Int32).toInt = 3 := by decide
    refine vp_callSi (W.runS (As := [.int mm, .int 3]) (rest := [.int w]) ⟨hx, hb, hml, hown, ht⟩ (c_X12_power_3 l dC dI mm ⟨by omega, by omega⟩) (kS 2 ht m_1649 m_1650 m_89 m_1651 rfl rfl hd_X12_power_v ⟨Nat.le_of_ble_eq_true rfl, Nat.le_of_ble_eq_true rfl⟩) (sR noP (hK.sub (tys' := []) [] rfl)) rfl rfl hl.1 rfl (lv_room (Nat.le_of_ble_eq_true rfl)) dX12_ovenOf_10 ⟨Nat.le_of_ble_eq_true rfl, Nat.le_of_ble_eq_true rfl⟩) (fun r13 hr13 => ?_)
    refine lv_idiv hx hb dX12_ovenOf_13 (z_nz (rfl : (r13 : Int32).toInt = _) (by omega)) ?_
    refine lv_topi (fun v14 ev14 => ?_)
    refine lv_iload_n hx hb dX12_ovenOf_14 rfl (lv_at hl 2 rfl) ?_
    refine lv_irem hx hb dX12_ovenOf_15 (z_nz (rfl : (mm : Int32).toInt = _) (by omega)) ?_
    refine lv_topi (fun v15 ev15 => ?_)
    exact W.iret (v := v15) hx hb hr (fun t ht9 hW => ⟨v15, rfl, trivial, ht9⟩) (fun q hq => by cases hq) dX12_ovenOf_16
  · obtain rfl : v2 = 4 := z_of (by decide) q3
    have : (4 : Int32).toInt = 4 := by decide
    refine vp_callSi (W.runS (As := [.int mm, .int 4]) (rest := [.int w]) ⟨hx, hb, hml, hown, ht⟩ (c_X12_power_4 l dC dI mm ⟨by omega, by omega⟩) (kS 2 ht m_1649 m_1650 m_89 m_1651 rfl rfl hd_X12_power_v ⟨Nat.le_of_ble_eq_true rfl, Nat.le_of_ble_eq_true rfl⟩) (sR noP (hK.sub (tys' := []) [] rfl)) rfl rfl hl.1 rfl (lv_room (Nat.le_of_ble_eq_true rfl)) dX12_ovenOf_10 ⟨Nat.le_of_ble_eq_true rfl, Nat.le_of_ble_eq_true rfl⟩) (fun r16 hr16 => ?_)
    refine lv_idiv hx hb dX12_ovenOf_13 (z_nz (rfl : (r16 : Int32).toInt = _) (by omega)) ?_
    refine lv_topi (fun v17 ev17 => ?_)
    refine lv_iload_n hx hb dX12_ovenOf_14 rfl (lv_at hl 2 rfl) ?_
    refine lv_irem hx hb dX12_ovenOf_15 (z_nz (rfl : (mm : Int32).toInt = _) (by omega)) ?_
    refine lv_topi (fun v18 ev18 => ?_)
    exact W.iret (v := v18) hx hb hr (fun t ht9 hW => ⟨v18, rfl, trivial, ht9⟩) (fun q hq => by cases hq) dX12_ovenOf_16
  · obtain rfl : v2 = 5 := z_of (by decide) q3
    have : (5 : Int32).toInt = 5 := by decide
    refine vp_callSi (W.runS (As := [.int mm, .int 5]) (rest := [.int w]) ⟨hx, hb, hml, hown, ht⟩ (c_X12_power_5 l dC dI mm ⟨by omega, by omega⟩) (kS 2 ht m_1649 m_1650 m_89 m_1651 rfl rfl hd_X12_power_v ⟨Nat.le_of_ble_eq_true rfl, Nat.le_of_ble_eq_true rfl⟩) (sR noP (hK.sub (tys' := []) [] rfl)) rfl rfl hl.1 rfl (lv_room (Nat.le_of_ble_eq_true rfl)) dX12_ovenOf_10 ⟨Nat.le_of_ble_eq_true rfl, Nat.le_of_ble_eq_true rfl⟩) (fun r19 hr19 => ?_)
    refine lv_idiv hx hb dX12_ovenOf_13 (z_nz (rfl : (r19 : Int32).toInt = _) (by omega)) ?_
    refine lv_topi (fun v20 ev20 => ?_)
    refine lv_iload_n hx hb dX12_ovenOf_14 rfl (lv_at hl 2 rfl) ?_
    refine lv_irem hx hb dX12_ovenOf_15 (z_nz (rfl : (mm : Int32).toInt = _) (by omega)) ?_
    refine lv_topi (fun v21 ev21 => ?_)
    exact W.iret (v := v21) hx hb hr (fun t ht9 hW => ⟨v21, rfl, trivial, ht9⟩) (fun q hq => by cases hq) dX12_ovenOf_16
  · obtain rfl : v2 = 6 := z_of (by decide) q3
    have : (6 : Int32).toInt = 6 := by decide
    refine vp_callSi (W.runS (As := [.int mm, .int 6]) (rest := [.int w]) ⟨hx, hb, hml, hown, ht⟩ (c_X12_power_6 l dC dI mm ⟨by omega, by omega⟩) (kS 2 ht m_1649 m_1650 m_89 m_1651 rfl rfl hd_X12_power_v ⟨Nat.le_of_ble_eq_true rfl, Nat.le_of_ble_eq_true rfl⟩) (sR noP (hK.sub (tys' := []) [] rfl)) rfl rfl hl.1 rfl (lv_room (Nat.le_of_ble_eq_true rfl)) dX12_ovenOf_10 ⟨Nat.le_of_ble_eq_true rfl, Nat.le_of_ble_eq_true rfl⟩) (fun r22 hr22 => ?_)
    refine lv_idiv hx hb dX12_ovenOf_13 (z_nz (rfl : (r22 : Int32).toInt = _) (by omega)) ?_
    refine lv_topi (fun v23 ev23 => ?_)
    refine lv_iload_n hx hb dX12_ovenOf_14 rfl (lv_at hl 2 rfl) ?_
    refine lv_irem hx hb dX12_ovenOf_15 (z_nz (rfl : (mm : Int32).toInt = _) (by omega)) ?_
    refine lv_topi (fun v24 ev24 => ?_)
    exact W.iret (v := v24) hx hb hr (fun t ht9 hW => ⟨v24, rfl, trivial, ht9⟩) (fun q hq => by cases hq) dX12_ovenOf_16
  · obtain rfl : v2 = 7 := z_of (by decide) q3
    have : (7 : Int32).toInt = 7 := by decide
    refine vp_callSi (W.runS (As := [.int mm, .int 7]) (rest := [.int w]) ⟨hx, hb, hml, hown, ht⟩ (c_X12_power_7 l dC dI mm ⟨by omega, by omega⟩) (kS 2 ht m_1649 m_1650 m_89 m_1651 rfl rfl hd_X12_power_v ⟨Nat.le_of_ble_eq_true rfl, Nat.le_of_ble_eq_true rfl⟩) (sR noP (hK.sub (tys' := []) [] rfl)) rfl rfl hl.1 rfl (lv_room (Nat.le_of_ble_eq_true rfl)) dX12_ovenOf_10 ⟨Nat.le_of_ble_eq_true rfl, Nat.le_of_ble_eq_true rfl⟩) (fun r25 hr25 => ?_)
    refine lv_idiv hx hb dX12_ovenOf_13 (z_nz (rfl : (r25 : Int32).toInt = _) (by omega)) ?_
    refine lv_topi (fun v26 ev26 => ?_)
    refine lv_iload_n hx hb dX12_ovenOf_14 rfl (lv_at hl 2 rfl) ?_
    refine lv_irem hx hb dX12_ovenOf_15 (z_nz (rfl : (mm : Int32).toInt = _) (by omega)) ?_
    refine lv_topi (fun v27 ev27 => ?_)
    exact W.iret (v := v27) hx hb hr (fun t ht9 hW => ⟨v27, rfl, trivial, ht9⟩) (fun q hq => by cases hq) dX12_ovenOf_16
set_option maxHeartbeats 4000000 in
set_option maxRecDepth 100000 in
/-- X12_findOrder -/
theorem c_X12_findOrder (l : Launch) (dC : Nat → ClassId) (dI : Nat → Nat → Nat) (sz : Nat) (h : Nat) (g : Nat → Nat → Nat) (ca : Nat → Nat → ClassId) (iv : Nat → Nat → Int32) (lv : Nat → Nat → Int64) (fa : Nat → Nat → Nat → Int32) (la : Nat → Nat → Nat → Int64) (hI : IX iv fa) (mm : Int32) (h_mm : 1 ≤ mm.toInt ∧ mm.toInt ≤ 3) : Met l yX12_findOrder (wc yX12_findOrder cX12_findOrder 7 none) ({ frames := 2, cells := 0, slots := 0, locals := 46 } : Room) (pW (dC, dI) classes (WM h g ca iv lv fa la) (TM ca) sz [.ref h, .int mm]) (va_Qv (fun (u : SS) => ∃ (na_12_59 : Nat → Int32) (ni_12_60 : Int32) (ni_12_61 : Int32), u = ((u2 (u2 iv 12 60 ni_12_60) 12 61 ni_12_61), lv, (u2 fa 12 59 na_12_59), la)) (bM (dC, dI) h g ca (va_A (WM h g ca iv lv fa la) sz)) (va_A (WM h g ca iv lv fa la) sz)) 0 0 (va_A (WM h g ca iv lv fa la) sz) := by
  refine Met.ofW (cc := cX12_findOrder) (maxL := 7) (ret := none) (by decide) rfl ?_
  intro p e s m args below meth c s₁ B hml hv
  obtain ⟨rfl, hsz, hP, hK, hD0⟩ := hv
  have hx := B.exec
  have hb := B.bytes
  have hr := B.returns
  have ht := tb_tl (atoms_spec (ws := wc yX12_findOrder cX12_findOrder 7 none) B.pre)
  have hown : s.vm.findClass RX12 = some m.cls := findClass_of_methodNamed B.named
  have hlocks := B.notSynchronized
  subst hsz
  have hD := hD0.self (sz := s.heap.size)
  generalize hAe : va_A (WM h g ca iv lv fa la) s.heap.size = A at hD ⊢
  have hA : ∀ q : Nat, s.heap.size ≤ q → A q := fun q h => by rw [← hAe]; exact Or.inr h
  have hS : va_S A s.heap s.heap [] := va_S.rf
  have hl := lv_entry [.ref h, .int mm] (n := 7) (Nat.le_of_ble_eq_true rfl)
  rw [lg_entry_eq]
  generalize (lg_sl [.ref h, .int mm] ++ List.replicate (7 - (lg_sl [.ref h, .int mm]).length) Slot.unset).toArray = ls at hl ⊢
  have hl : lv_has ls 7 [(0, .ref h), (1, .int mm)] := hl
  refine lv_aload_n hx hb dX12_findOrder_0 rfl (lv_at hl 0 rfl) ?_
  refine lv_iconst (v := (-1)) hx hb dX12_findOrder_1 (by decide) ?_
  refine pM_12_60 (v := (-1)) hx hb ht hown hK hP hD hS m_1199 dX12_findOrder_2 (fun H locs hP hD hS => ?_)
  refine lv_aload_n hx hb dX12_findOrder_5 rfl (lv_at hl 0 rfl) ?_
  refine lv_iconst (v := 0) hx hb dX12_findOrder_6 (by decide) ?_
  refine pM_12_61 (v := 0) hx hb ht hown hK hP hD hS m_1200 dX12_findOrder_7 (fun H locs hP hD hS => ?_)
  refine lv_iload_n hx hb dX12_findOrder_10 rfl (lv_at hl 1 rfl) ?_
  refine lv_aload_n hx hb dX12_findOrder_11 rfl (lv_at hl 0 rfl) ?_
  have i_12_57 : 0 ≤ (iv 12 57).toInt ∧ (iv 12 57).toInt ≤ 8 := hI.1 12 57
  refine gM_12_57 hx hb ht hown hK hP m_1196 (v := (iv 12 57)) rfl dX12_findOrder_12 ?_
  rcases (by omega : ((iv 12 57) : Int32).toInt = 0 ∨ ((iv 12 57) : Int32).toInt = 1 ∨ ((iv 12 57) : Int32).toInt = 2 ∨ ((iv 12 57) : Int32).toInt = 3 ∨ ((iv 12 57) : Int32).toInt = 4 ∨ ((iv 12 57) : Int32).toInt = 5 ∨ ((iv 12 57) : Int32).toInt = 6 ∨ ((iv 12 57) : Int32).toInt = 7 ∨ ((iv 12 57) : Int32).toInt = 8) with q1 | q1 | q1 | q1 | q1 | q1 | q1 | q1 | q1
  · have hq8 : (iv 12 57) = 0 := z_of (by decide) q1
    rw [hq8]
    have : (0 : Int32).toInt = 0 := by decide
    refine vp_callSi (W.runS (As := [.int mm, .int 0]) (rest := []) ⟨hx, hb, hml, hown, ht⟩ (c_X12_power_0 l dC dI mm ⟨by omega, by omega⟩) (kS 2 ht m_1649 m_1650 m_89 m_1651 rfl rfl hd_X12_power_v ⟨Nat.le_of_ble_eq_true rfl, Nat.le_of_ble_eq_true rfl⟩) (sR noP (hK.sub (tys' := []) [] rfl)) rfl rfl hl.1 rfl (lv_room (Nat.le_of_ble_eq_true rfl)) dX12_findOrder_15 ⟨Nat.le_of_ble_eq_true rfl, Nat.le_of_ble_eq_true rfl⟩) (fun r2 hr2 => ?_)
    refine lv_istore_n (lv' := [(2, .int r2), (0, .ref h), (1, .int mm)]) hx hb dX12_findOrder_18 rfl hl (by decide) rfl (fun ls hl => ?_)
    refine lv_iconst (v := 0) hx hb dX12_findOrder_19 (by decide) ?_
    refine lv_istore_n (lv' := [(3, .int 0), (2, .int r2), (0, .ref h), (1, .int mm)]) hx hb dX12_findOrder_20 rfl hl (by decide) rfl (fun ls hl => ?_)
    have lp674 : ∀ (nn674 : Nat) (x673_3 : Int32) (w673_i_12_60 : Int32) (w673_i_12_61 : Int32) (w673_a_12_59 : Nat → Int32), 0 ≤ x673_3.toInt ∧ x673_3.toInt ≤ 1 → (∀ j, inb (bA 12 59 j) (w673_a_12_59 j)) → 1 - x673_3.toInt < (nn674 : Int) → ∀ (H : Heap) (locs : List Loc), ∀ (ls : Array Slot), va_P (dC, dI) classes (WM h g ca (u2 (u2 iv 12 60 w673_i_12_60) 12 61 w673_i_12_61) lv (u2 fa 12 59 w673_a_12_59) la) H → va_D A (WM h g ca (u2 (u2 iv 12 60 w673_i_12_60) 12 61 w673_i_12_61) lv (u2 fa 12 59 w673_a_12_59) la) → va_S A s.heap H locs → lv_has ls 7 [(3, .int x673_3), (2, .int r2), (0, .ref h), (1, .int mm)] → W p l e ({ frames := 2, cells := 0, slots := 0, locals := 46 } : Room) s m ([.ref h, .int mm] : List Value).toArray below meth c H locs 0 0 (MQ below (va_Qv (fun (u : SS) => ∃ (na_12_59 : Nat → Int32) (ni_12_60 : Int32) (ni_12_61 : Int32), u = ((u2 (u2 iv 12 60 ni_12_60) 12 61 ni_12_61), lv, (u2 fa 12 59 na_12_59), la)) (bM (dC, dI) h g ca A) A) ([.ref h, .int mm] : List Value).toArray s 0 0 A) (F0 m 21 ls []) := by
      intro nn674
      induction nn674 with
      | zero => intro x673_3 w673_i_12_60 w673_i_12_61 w673_a_12_59 hx673_3 hw673_a_12_59 hm674; exfalso; omega
      | succ nn674 ih674 =>
        intro x673_3 w673_i_12_60 w673_i_12_61 w673_a_12_59 hx673_3 hw673_a_12_59 hm674 H locs ls hP hD hS hl
        refine lv_iload_n hx hb dX12_findOrder_21 rfl (lv_at hl 0 rfl) ?_
        refine lv_iload_n hx hb dX12_findOrder_22 rfl (lv_at hl 1 rfl) ?_
        refine lv_icmp_ge (tgt := 156) hx hb dX12_findOrder_23 (by decide) (fun c675 => ?_) (fun c675 => ?_)
        · have fc675 := z_le (rfl : (r2).toInt = _) (rfl : (x673_3).toInt = _) c675
          have hP9 : va_P (dC, dI) classes (WM h g ca (u2 (u2 iv 12 60 w673_i_12_60) 12 61 w673_i_12_61) lv (u2 fa 12 59 w673_a_12_59) la) H := hP
          have hD9 : va_D A (WM h g ca (u2 (u2 iv 12 60 w673_i_12_60) 12 61 w673_i_12_61) lv (u2 fa 12 59 w673_a_12_59) la) := hD
          exact W.vret hx hb hr (fun t ht9 hW => ⟨⟨((u2 (u2 iv 12 60 w673_i_12_60) 12 61 w673_i_12_61), lv, (u2 fa 12 59 w673_a_12_59), la), rfl, ⟨w673_a_12_59, w673_i_12_60, w673_i_12_61, rfl⟩, by rw [ht9]; exact hP9, hD9⟩, hS.F ht9⟩) hS.2.2 dX12_findOrder_156
        · have fc675 := z_nle (rfl : (r2).toInt = _) (rfl : (x673_3).toInt = _) c675
          refine lv_iconst (v := 0) hx hb dX12_findOrder_26 (by decide) ?_
          refine lv_istore (lv' := [(4, .int 0), (3, .int x673_3), (2, .int r2), (0, .ref h), (1, .int mm)]) hx hb dX12_findOrder_27 hl (by decide) rfl (fun ls hl => ?_)
          have lp864 : ∀ (nn864 : Nat) (x863_4 : Int32) (w863_a_12_59 : Nat → Int32), 0 ≤ x863_4.toInt ∧ x863_4.toInt ≤ 3 → (∀ j, inb (bA 12 59 j) (w863_a_12_59 j)) → 3 - x863_4.toInt < (nn864 : Int) → ∀ (H : Heap) (locs : List Loc), ∀ (ls : Array Slot), va_P (dC, dI) classes (WM h g ca (u2 (u2 iv 12 60 w673_i_12_60) 12 61 w673_i_12_61) lv (u2 fa 12 59 w863_a_12_59) la) H → va_D A (WM h g ca (u2 (u2 iv 12 60 w673_i_12_60) 12 61 w673_i_12_61) lv (u2 fa 12 59 w863_a_12_59) la) → va_S A s.heap H locs → lv_has ls 7 [(4, .int x863_4), (3, .int x673_3), (2, .int r2), (0, .ref h), (1, .int mm)] → W p l e ({ frames := 2, cells := 0, slots := 0, locals := 46 } : Room) s m ([.ref h, .int mm] : List Value).toArray below meth c H locs 0 0 (MQ below (va_Qv (fun (u : SS) => ∃ (na_12_59 : Nat → Int32) (ni_12_60 : Int32) (ni_12_61 : Int32), u = ((u2 (u2 iv 12 60 ni_12_60) 12 61 ni_12_61), lv, (u2 fa 12 59 na_12_59), la)) (bM (dC, dI) h g ca A) A) ([.ref h, .int mm] : List Value).toArray s 0 0 A) (F0 m 29 ls []) := by
            intro nn864
            induction nn864 with
            | zero => intro x863_4 w863_a_12_59 hx863_4 hw863_a_12_59 hm864; exfalso; omega
            | succ nn864 ih864 =>
              intro x863_4 w863_a_12_59 hx863_4 hw863_a_12_59 hm864 H locs ls hP hD hS hl
              refine lv_iload hx hb dX12_findOrder_29 (lv_at hl 0 rfl) ?_
              refine lv_iconst (v := 3) hx hb dX12_findOrder_31 (by decide) ?_
              refine lv_icmp_ge (tgt := 49) hx hb dX12_findOrder_32 (by decide) (fun c865 => ?_) (fun c865 => ?_)
              · have fc865 := z_le (by decide : (3 : Int32).toInt = 3) (rfl : (x863_4).toInt = _) c865
                refine lv_iconst (v := 0) hx hb dX12_findOrder_49 (by decide) ?_
                refine lv_istore (lv' := [(4, .int 0), (3, .int x673_3), (2, .int r2), (0, .ref h), (1, .int mm)]) hx hb dX12_findOrder_50 hl (by decide) rfl (fun ls hl => ?_)
                refine lv_iconst (v := 0) hx hb dX12_findOrder_52 (by decide) ?_
                refine lv_istore (lv' := [(5, .int 0), (4, .int 0), (3, .int x673_3), (2, .int r2), (0, .ref h), (1, .int mm)]) hx hb dX12_findOrder_53 hl (by decide) rfl (fun ls hl => ?_)
                have lp1020 : ∀ (nn1020 : Nat) (x1019_5 : Int32) (x1019_4 : Int32) (w1019_a_12_59 : Nat → Int32), 0 ≤ x1019_5.toInt ∧ x1019_5.toInt ≤ 8 → 0 ≤ x1019_4.toInt → (∀ j, inb (bA 12 59 j) (w1019_a_12_59 j)) → 8 - x1019_5.toInt < (nn1020 : Int) → ∀ (H : Heap) (locs : List Loc), ∀ (ls : Array Slot), va_P (dC, dI) classes (WM h g ca (u2 (u2 iv 12 60 w673_i_12_60) 12 61 w673_i_12_61) lv (u2 fa 12 59 w1019_a_12_59) la) H → va_D A (WM h g ca (u2 (u2 iv 12 60 w673_i_12_60) 12 61 w673_i_12_61) lv (u2 fa 12 59 w1019_a_12_59) la) → va_S A s.heap H locs → lv_has ls 7 [(5, .int x1019_5), (4, .int x1019_4), (3, .int x673_3), (2, .int r2), (0, .ref h), (1, .int mm)] → W p l e ({ frames := 2, cells := 0, slots := 0, locals := 46 } : Room) s m ([.ref h, .int mm] : List Value).toArray below meth c H locs 0 0 (MQ below (va_Qv (fun (u : SS) => ∃ (na_12_59 : Nat → Int32) (ni_12_60 : Int32) (ni_12_61 : Int32), u = ((u2 (u2 iv 12 60 ni_12_60) 12 61 ni_12_61), lv, (u2 fa 12 59 na_12_59), la)) (bM (dC, dI) h g ca A) A) ([.ref h, .int mm] : List Value).toArray s 0 0 A) (F0 m 55 ls []) := by
                  intro nn1020
                  induction nn1020 with
                  | zero => intro x1019_5 x1019_4 w1019_a_12_59 hx1019_5 hx1019_4 hw1019_a_12_59 hm1020; exfalso; omega
                  | succ nn1020 ih1020 =>
                    intro x1019_5 x1019_4 w1019_a_12_59 hx1019_5 hx1019_4 hw1019_a_12_59 hm1020 H locs ls hP hD hS hl
                    refine lv_iload hx hb dX12_findOrder_55 (lv_at hl 0 rfl) ?_
                    refine lv_aload_n hx hb dX12_findOrder_57 rfl (lv_at hl 4 rfl) ?_
                    refine gM_12_57 hx hb ht hown hK hP m_1196 (v := (iv 12 57)) rfl dX12_findOrder_58 ?_
                    refine lv_icmp_ge (tgt := 123) hx hb dX12_findOrder_61 (by decide) (fun c1021 => ?_) (fun c1021 => ?_)
                    · have fc1021 := z_le (rfl : ((iv 12 57)).toInt = _) (rfl : (x1019_5).toInt = _) c1021
                      refine lv_aload_n hx hb dX12_findOrder_123 rfl (lv_at hl 4 rfl) ?_
                      refine gM_12_60 hx hb ht hown hK hP m_1199 (v := w673_i_12_60) rfl dX12_findOrder_124 ?_
                      refine lv_if_lt (tgt := 139) hx hb dX12_findOrder_127 (by decide) (fun c1022 => ?_) (fun c1022 => ?_)
                      · have fc1022 := z_lt (rfl : (w673_i_12_60).toInt = _) (by decide : (0 : Int32).toInt = 0) c1022
                        refine lv_aload_n hx hb dX12_findOrder_139 rfl (lv_at hl 4 rfl) ?_
                        refine lv_iload_n hx hb dX12_findOrder_140 rfl (lv_at hl 2 rfl) ?_
                        refine pM_12_60 (v := x673_3) hx hb ht hown hK hP hD hS m_1199 dX12_findOrder_141 (fun H locs hP hD hS => ?_)
                        have hP : va_P (dC, dI) classes (WM h g ca (u2 (u2 iv 12 60 x673_3) 12 61 w673_i_12_61) lv (u2 fa 12 59 w1019_a_12_59) la) H := hP
                        have hD : va_D A (WM h g ca (u2 (u2 iv 12 60 x673_3) 12 61 w673_i_12_61) lv (u2 fa 12 59 w1019_a_12_59) la) := hD
                        refine lv_aload_n hx hb dX12_findOrder_144 rfl (lv_at hl 4 rfl) ?_
                        refine lv_iload hx hb dX12_findOrder_145 (lv_at hl 1 rfl) ?_
                        refine pM_12_61 (v := x1019_4) hx hb ht hown hK hP hD hS m_1200 dX12_findOrder_147 (fun H locs hP hD hS => ?_)
                        have hP : va_P (dC, dI) classes (WM h g ca (u2 (u2 iv 12 60 x673_3) 12 61 x1019_4) lv (u2 fa 12 59 w1019_a_12_59) la) H := hP
                        have hD : va_D A (WM h g ca (u2 (u2 iv 12 60 x673_3) 12 61 x1019_4) lv (u2 fa 12 59 w1019_a_12_59) la) := hD
                        obtain ⟨v1023, ev1023⟩ : ∃ y : Int32, y = x673_3 + 1 := ⟨_, rfl⟩
                        have tv1023 := z_add ev1023 rfl (by decide : (1 : Int32).toInt = 1) (by omega) (by omega)
                        refine lv_iinc (v := v1023) (lv' := [(3, .int v1023), (5, .int x1019_5), (4, .int x1019_4), (2, .int r2), (0, .ref h), (1, .int mm)]) hx hb dX12_findOrder_150 hl (k := 2) rfl (by rw [ev1023]; rfl) (by decide) rfl (fun ls hl => ?_)
                        refine lv_goto (tgt := 21) hx hb dX12_findOrder_153 (by decide) ?_
                        exact ih674 v1023 x673_3 x1019_4 w1019_a_12_59 ⟨by omega, by omega⟩ hw1019_a_12_59 (by omega) _ _ ls hP hD hS (lv_sub hl [0, 3, 4, 5] rfl)
                      · have fc1022 := z_nlt (rfl : (w673_i_12_60).toInt = _) (by decide : (0 : Int32).toInt = 0) c1022
                        refine lv_iload hx hb dX12_findOrder_130 (lv_at hl 1 rfl) ?_
                        refine lv_aload_n hx hb dX12_findOrder_132 rfl (lv_at hl 4 rfl) ?_
                        refine gM_12_61 hx hb ht hown hK hP m_1200 (v := w673_i_12_61) rfl dX12_findOrder_133 ?_
                        refine lv_icmp_ge (tgt := 150) hx hb dX12_findOrder_136 (by decide) (fun c1024 => ?_) (fun c1024 => ?_)
                        · have fc1024 := z_le (rfl : (w673_i_12_61).toInt = _) (rfl : (x1019_4).toInt = _) c1024
                          obtain ⟨v1025, ev1025⟩ : ∃ y : Int32, y = x673_3 + 1 := ⟨_, rfl⟩
                          have tv1025 := z_add ev1025 rfl (by decide : (1 : Int32).toInt = 1) (by omega) (by omega)
                          refine lv_iinc (v := v1025) (lv' := [(3, .int v1025), (5, .int x1019_5), (4, .int x1019_4), (2, .int r2), (0, .ref h), (1, .int mm)]) hx hb dX12_findOrder_150 hl (k := 2) rfl (by rw [ev1025]; rfl) (by decide) rfl (fun ls hl => ?_)
                          refine lv_goto (tgt := 21) hx hb dX12_findOrder_153 (by decide) ?_
                          exact ih674 v1025 w673_i_12_60 w673_i_12_61 w1019_a_12_59 ⟨by omega, by omega⟩ hw1019_a_12_59 (by omega) _ _ ls hP hD hS (lv_sub hl [0, 3, 4, 5] rfl)
                        · have fc1024 := z_nle (rfl : (w673_i_12_61).toInt = _) (rfl : (x1019_4).toInt = _) c1024
                          refine lv_aload_n hx hb dX12_findOrder_139 rfl (lv_at hl 4 rfl) ?_
                          refine lv_iload_n hx hb dX12_findOrder_140 rfl (lv_at hl 2 rfl) ?_
                          refine pM_12_60 (v := x673_3) hx hb ht hown hK hP hD hS m_1199 dX12_findOrder_141 (fun H locs hP hD hS => ?_)
                          have hP : va_P (dC, dI) classes (WM h g ca (u2 (u2 iv 12 60 x673_3) 12 61 w673_i_12_61) lv (u2 fa 12 59 w1019_a_12_59) la) H := hP
                          have hD : va_D A (WM h g ca (u2 (u2 iv 12 60 x673_3) 12 61 w673_i_12_61) lv (u2 fa 12 59 w1019_a_12_59) la) := hD
                          refine lv_aload_n hx hb dX12_findOrder_144 rfl (lv_at hl 4 rfl) ?_
                          refine lv_iload hx hb dX12_findOrder_145 (lv_at hl 1 rfl) ?_
                          refine pM_12_61 (v := x1019_4) hx hb ht hown hK hP hD hS m_1200 dX12_findOrder_147 (fun H locs hP hD hS => ?_)
                          have hP : va_P (dC, dI) classes (WM h g ca (u2 (u2 iv 12 60 x673_3) 12 61 x1019_4) lv (u2 fa 12 59 w1019_a_12_59) la) H := hP
                          have hD : va_D A (WM h g ca (u2 (u2 iv 12 60 x673_3) 12 61 x1019_4) lv (u2 fa 12 59 w1019_a_12_59) la) := hD
                          obtain ⟨v1026, ev1026⟩ : ∃ y : Int32, y = x673_3 + 1 := ⟨_, rfl⟩
                          have tv1026 := z_add ev1026 rfl (by decide : (1 : Int32).toInt = 1) (by omega) (by omega)
                          refine lv_iinc (v := v1026) (lv' := [(3, .int v1026), (5, .int x1019_5), (4, .int x1019_4), (2, .int r2), (0, .ref h), (1, .int mm)]) hx hb dX12_findOrder_150 hl (k := 2) rfl (by rw [ev1026]; rfl) (by decide) rfl (fun ls hl => ?_)
                          refine lv_goto (tgt := 21) hx hb dX12_findOrder_153 (by decide) ?_
                          exact ih674 v1026 x673_3 x1019_4 w1019_a_12_59 ⟨by omega, by omega⟩ hw1019_a_12_59 (by omega) _ _ ls hP hD hS (lv_sub hl [0, 3, 4, 5] rfl)
                    · have fc1021 := z_nle (rfl : ((iv 12 57)).toInt = _) (rfl : (x1019_5).toInt = _) c1021
                      refine lv_aload_n hx hb dX12_findOrder_64 rfl (lv_at hl 4 rfl) ?_
                      refine lv_iload_n hx hb dX12_findOrder_65 rfl (lv_at hl 2 rfl) ?_
                      refine lv_iload_n hx hb dX12_findOrder_66 rfl (lv_at hl 5 rfl) ?_
                      refine lv_iload hx hb dX12_findOrder_67 (lv_at hl 0 rfl) ?_
                      refine vp_callSi (W.runV (As := [.int x673_3, .int mm, .int x1019_5]) (rest := []) ⟨hx, hb, hml, hown, ht⟩ (c_X12_ovenOf_0 l dC dI h g ca (u2 (u2 iv 12 60 w673_i_12_60) 12 61 w673_i_12_61) lv (u2 fa 12 59 w1019_a_12_59) la (IX_a (c := 12) (k := 59) (IX_i (c := 12) (k := 61) (IX_i (c := 12) (k := 60) hI (full_i _)) (full_i _)) hw1019_a_12_59) x673_3 mm x1019_5 (show 1 ≤ ((iv 12 57) : Int32).toInt ∧ ((iv 12 57) : Int32).toInt ≤ 8 from ⟨by omega, by omega⟩) ⟨by omega, by omega⟩ ⟨by omega, by omega⟩ ⟨by omega, by omega⟩ (show (x1019_5 : Int32).toInt + 1 ≤ ((iv 12 57) : Int32).toInt from by omega)) (kV 3 ht m_1652 m_1654 m_70 m_89 m_1655 rfl rfl hd_X12_ovenOf_v ⟨Nat.le_of_ble_eq_true rfl, Nat.le_of_ble_eq_true rfl⟩) (vR hP hK (rM_12 hK hP)) rfl rfl hl.1 rfl (lv_room (Nat.le_of_ble_eq_true rfl)) dX12_findOrder_69 ⟨Nat.le_of_ble_eq_true rfl, Nat.le_of_ble_eq_true rfl⟩) (fun r1027 hr1027 => ?_)
                      refine lv_istore (lv' := [(6, .int r1027), (5, .int x1019_5), (4, .int x1019_4), (3, .int x673_3), (2, .int r2), (0, .ref h), (1, .int mm)]) hx hb dX12_findOrder_72 hl (by decide) rfl (fun ls hl => ?_)
                      refine lv_aload_n hx hb dX12_findOrder_74 rfl (lv_at hl 5 rfl) ?_
                      refine gM_12_59 hx hb ht hown hK hP m_1198 dX12_findOrder_75 ?_
                      refine lv_iload hx hb dX12_findOrder_78 (lv_at hl 0 rfl) ?_
                      refine lv_dup2_11 hx hb dX12_findOrder_80 rfl rfl ?_
                      refine lM_12_59 hx hb hK hP (f := w1019_a_12_59) rfl (vp_in_iff.mpr ⟨by omega, by omega⟩) dX12_findOrder_81 ?_
                      refine lv_topi (fun v1028 ev1028 => ?_)
                      refine lv_aload_n hx hb dX12_findOrder_82 rfl (lv_at hl 5 rfl) ?_
                      refine gM_12_58 hx hb ht hown hK hP m_1197 dX12_findOrder_83 ?_
                      refine lv_iload hx hb dX12_findOrder_86 (lv_at hl 1 rfl) ?_
                      refine lM_12_58 hx hb hK hP (f := (fa 12 58)) rfl (vp_in_iff.mpr ⟨by omega, by omega⟩) dX12_findOrder_88 ?_
                      refine lv_topi (fun v1029 ev1029 => ?_)
                      refine lv_iadd hx hb dX12_findOrder_89 ?_
                      refine lv_topi (fun v1030 ev1030 => ?_)
                      refine tM_12_59 hx hb hK hP hD hS (f0 := w1019_a_12_59) rfl (i := r1027) (x := v1030) (vp_in_iff.mpr ⟨by omega, by omega⟩) dX12_findOrder_90 (fun f1031 ef1031 H locs hP hD hS => ?_)
                      have hf1031 : ∀ j, inb (bA 12 59 j) (f1031 j) := fun j => full_i _
                      have hP : va_P (dC, dI) classes (WM h g ca (u2 (u2 iv 12 60 w673_i_12_60) 12 61 w673_i_12_61) lv (u2 fa 12 59 f1031) la) H := hP
                      have hD : va_D A (WM h g ca (u2 (u2 iv 12 60 w673_i_12_60) 12 61 w673_i_12_61) lv (u2 fa 12 59 f1031) la) := hD
                      refine lv_aload_n hx hb dX12_findOrder_91 rfl (lv_at hl 5 rfl) ?_
                      refine gM_12_59 hx hb ht hown hK hP m_1198 dX12_findOrder_92 ?_
                      refine lv_iload hx hb dX12_findOrder_95 (lv_at hl 0 rfl) ?_
                      refine lM_12_59 hx hb hK hP (f := f1031) rfl (vp_in_iff.mpr ⟨by omega, by omega⟩) dX12_findOrder_97 ?_
                      refine lv_topi (fun v1032 ev1032 => ?_)
                      refine lv_iload hx hb dX12_findOrder_98 (lv_at hl 2 rfl) ?_
                      refine lv_icmp_le (tgt := 113) hx hb dX12_findOrder_100 (by decide) (fun c1033 => ?_) (fun c1033 => ?_)
                      · have fc1033 := z_le (rfl : (v1032).toInt = _) (rfl : (x1019_4).toInt = _) c1033
                        refine lv_iload hx hb dX12_findOrder_113 (lv_at hl 2 rfl) ?_
                        refine lv_istore (lv' := [(4, .int x1019_4), (6, .int r1027), (5, .int x1019_5), (3, .int x673_3), (2, .int r2), (0, .ref h), (1, .int mm)]) hx hb dX12_findOrder_115 hl (by decide) rfl (fun ls hl => ?_)
                        obtain ⟨v1034, ev1034⟩ : ∃ y : Int32, y = x1019_5 + 1 := ⟨_, rfl⟩
                        have tv1034 := z_add ev1034 rfl (by decide : (1 : Int32).toInt = 1) (by omega) (by omega)
                        refine lv_iinc (v := v1034) (lv' := [(5, .int v1034), (4, .int x1019_4), (6, .int r1027), (3, .int x673_3), (2, .int r2), (0, .ref h), (1, .int mm)]) hx hb dX12_findOrder_117 hl (k := 2) rfl (by rw [ev1034]; rfl) (by decide) rfl (fun ls hl => ?_)
                        refine lv_goto (tgt := 55) hx hb dX12_findOrder_120 (by decide) ?_
                        exact ih1020 v1034 x1019_4 f1031 ⟨by omega, by omega⟩ (by omega) hf1031 (by omega) _ _ ls hP hD hS (lv_sub hl [0, 1, 3, 4, 5, 6] rfl)
                      · have fc1033 := z_nle (rfl : (v1032).toInt = _) (rfl : (x1019_4).toInt = _) c1033
                        refine lv_aload_n hx hb dX12_findOrder_103 rfl (lv_at hl 5 rfl) ?_
                        refine gM_12_59 hx hb ht hown hK hP m_1198 dX12_findOrder_104 ?_
                        refine lv_iload hx hb dX12_findOrder_107 (lv_at hl 0 rfl) ?_
                        refine lM_12_59 hx hb hK hP (f := f1031) rfl (vp_in_iff.mpr ⟨by omega, by omega⟩) dX12_findOrder_109 ?_
                        refine lv_topi (fun v1035 ev1035 => ?_)
                        obtain rfl : v1032 = v1035 := ev1032.trans ev1035.symm
                        refine lv_goto (tgt := 115) hx hb dX12_findOrder_110 (by decide) ?_
                        refine lv_istore (lv' := [(4, .int v1032), (6, .int r1027), (5, .int x1019_5), (3, .int x673_3), (2, .int r2), (0, .ref h), (1, .int mm)]) hx hb dX12_findOrder_115 hl (by decide) rfl (fun ls hl => ?_)
                        obtain ⟨v1036, ev1036⟩ : ∃ y : Int32, y = x1019_5 + 1 := ⟨_, rfl⟩
                        have tv1036 := z_add ev1036 rfl (by decide : (1 : Int32).toInt = 1) (by omega) (by omega)
                        refine lv_iinc (v := v1036) (lv' := [(5, .int v1036), (4, .int v1032), (6, .int r1027), (3, .int x673_3), (2, .int r2), (0, .ref h), (1, .int mm)]) hx hb dX12_findOrder_117 hl (k := 2) rfl (by rw [ev1036]; rfl) (by decide) rfl (fun ls hl => ?_)
                        refine lv_goto (tgt := 55) hx hb dX12_findOrder_120 (by decide) ?_
                        exact ih1020 v1036 v1032 f1031 ⟨by omega, by omega⟩ (by omega) hf1031 (by omega) _ _ ls hP hD hS (lv_sub hl [0, 1, 3, 4, 5, 6] rfl)
                exact lp1020 9 0 0 w863_a_12_59 ⟨by decide, by decide⟩ (by decide) hw863_a_12_59 (by first | decide | omega) _ _ ls hP hD hS (lv_sub hl [0, 1, 2, 3, 4, 5] rfl)
              · have fc865 := z_nle (by decide : (3 : Int32).toInt = 3) (rfl : (x863_4).toInt = _) c865
                refine lv_aload_n hx hb dX12_findOrder_35 rfl (lv_at hl 3 rfl) ?_
                refine gM_12_59 hx hb ht hown hK hP m_1198 dX12_findOrder_36 ?_
                refine lv_iload hx hb dX12_findOrder_39 (lv_at hl 0 rfl) ?_
                refine lv_iconst (v := 0) hx hb dX12_findOrder_41 (by decide) ?_
                refine tM_12_59 hx hb hK hP hD hS (f0 := w863_a_12_59) rfl (i := x863_4) (x := 0) (vp_in_iff.mpr ⟨by omega, by omega⟩) dX12_findOrder_42 (fun f1037 ef1037 H locs hP hD hS => ?_)
                have hf1037 : ∀ j, inb (bA 12 59 j) (f1037 j) := fun j => full_i _
                have hP : va_P (dC, dI) classes (WM h g ca (u2 (u2 iv 12 60 w673_i_12_60) 12 61 w673_i_12_61) lv (u2 fa 12 59 f1037) la) H := hP
                have hD : va_D A (WM h g ca (u2 (u2 iv 12 60 w673_i_12_60) 12 61 w673_i_12_61) lv (u2 fa 12 59 f1037) la) := hD
                obtain ⟨v1038, ev1038⟩ : ∃ y : Int32, y = x863_4 + 1 := ⟨_, rfl⟩
                have tv1038 := z_add ev1038 rfl (by decide : (1 : Int32).toInt = 1) (by omega) (by omega)
                refine lv_iinc (v := v1038) (lv' := [(4, .int v1038), (3, .int x673_3), (2, .int r2), (0, .ref h), (1, .int mm)]) hx hb dX12_findOrder_43 hl (k := 0) rfl (by rw [ev1038]; rfl) (by decide) rfl (fun ls hl => ?_)
                refine lv_goto (tgt := 29) hx hb dX12_findOrder_46 (by decide) ?_
                exact ih864 v1038 f1037 ⟨by omega, by omega⟩ hf1037 (by omega) _ _ ls hP hD hS (lv_sub hl [0, 1, 2, 3, 4] rfl)
          exact lp864 4 0 w673_a_12_59 ⟨by decide, by decide⟩ hw673_a_12_59 (by first | decide | omega) _ _ ls hP hD hS (lv_sub hl [0, 1, 2, 3, 4] rfl)
    exact lp674 2 0 (-1) 0 (fa 12 59) ⟨by decide, by decide⟩ (hI.2 12 59) (by first | decide | omega) _ _ ls hP hD hS (lv_sub hl [0, 1, 2, 3] rfl)
  · have hq8 : (iv 12 57) = 1 := z_of (by decide) q1
    rw [hq8]
    have : (1 : Int32).toInt = 1 := by decide
    refine vp_callSi (W.runS (As := [.int mm, .int 1]) (rest := []) ⟨hx, hb, hml, hown, ht⟩ (c_X12_power_1 l dC dI mm ⟨by omega, by omega⟩) (kS 2 ht m_1649 m_1650 m_89 m_1651 rfl rfl hd_X12_power_v ⟨Nat.le_of_ble_eq_true rfl, Nat.le_of_ble_eq_true rfl⟩) (sR noP (hK.sub (tys' := []) [] rfl)) rfl rfl hl.1 rfl (lv_room (Nat.le_of_ble_eq_true rfl)) dX12_findOrder_15 ⟨Nat.le_of_ble_eq_true rfl, Nat.le_of_ble_eq_true rfl⟩) (fun r1039 hr1039 => ?_)
    refine lv_istore_n (lv' := [(2, .int r1039), (0, .ref h), (1, .int mm)]) hx hb dX12_findOrder_18 rfl hl (by decide) rfl (fun ls hl => ?_)
    refine lv_iconst (v := 0) hx hb dX12_findOrder_19 (by decide) ?_
    refine lv_istore_n (lv' := [(3, .int 0), (2, .int r1039), (0, .ref h), (1, .int mm)]) hx hb dX12_findOrder_20 rfl hl (by decide) rfl (fun ls hl => ?_)
    have lp2441 : ∀ (nn2441 : Nat) (x2440_3 : Int32) (w2440_i_12_60 : Int32) (w2440_i_12_61 : Int32) (w2440_a_12_59 : Nat → Int32), 0 ≤ x2440_3.toInt ∧ x2440_3.toInt ≤ 3 → (∀ j, inb (bA 12 59 j) (w2440_a_12_59 j)) → 3 - x2440_3.toInt < (nn2441 : Int) → ∀ (H : Heap) (locs : List Loc), ∀ (ls : Array Slot), va_P (dC, dI) classes (WM h g ca (u2 (u2 iv 12 60 w2440_i_12_60) 12 61 w2440_i_12_61) lv (u2 fa 12 59 w2440_a_12_59) la) H → va_D A (WM h g ca (u2 (u2 iv 12 60 w2440_i_12_60) 12 61 w2440_i_12_61) lv (u2 fa 12 59 w2440_a_12_59) la) → va_S A s.heap H locs → lv_has ls 7 [(3, .int x2440_3), (2, .int r1039), (0, .ref h), (1, .int mm)] → W p l e ({ frames := 2, cells := 0, slots := 0, locals := 46 } : Room) s m ([.ref h, .int mm] : List Value).toArray below meth c H locs 0 0 (MQ below (va_Qv (fun (u : SS) => ∃ (na_12_59 : Nat → Int32) (ni_12_60 : Int32) (ni_12_61 : Int32), u = ((u2 (u2 iv 12 60 ni_12_60) 12 61 ni_12_61), lv, (u2 fa 12 59 na_12_59), la)) (bM (dC, dI) h g ca A) A) ([.ref h, .int mm] : List Value).toArray s 0 0 A) (F0 m 21 ls []) := by
      intro nn2441
      induction nn2441 with
      | zero => intro x2440_3 w2440_i_12_60 w2440_i_12_61 w2440_a_12_59 hx2440_3 hw2440_a_12_59 hm2441; exfalso; omega
      | succ nn2441 ih2441 =>
        intro x2440_3 w2440_i_12_60 w2440_i_12_61 w2440_a_12_59 hx2440_3 hw2440_a_12_59 hm2441 H locs ls hP hD hS hl
        refine lv_iload_n hx hb dX12_findOrder_21 rfl (lv_at hl 0 rfl) ?_
        refine lv_iload_n hx hb dX12_findOrder_22 rfl (lv_at hl 1 rfl) ?_
        refine lv_icmp_ge (tgt := 156) hx hb dX12_findOrder_23 (by decide) (fun c2442 => ?_) (fun c2442 => ?_)
        · have fc2442 := z_le (rfl : (r1039).toInt = _) (rfl : (x2440_3).toInt = _) c2442
          have hP9 : va_P (dC, dI) classes (WM h g ca (u2 (u2 iv 12 60 w2440_i_12_60) 12 61 w2440_i_12_61) lv (u2 fa 12 59 w2440_a_12_59) la) H := hP
          have hD9 : va_D A (WM h g ca (u2 (u2 iv 12 60 w2440_i_12_60) 12 61 w2440_i_12_61) lv (u2 fa 12 59 w2440_a_12_59) la) := hD
          exact W.vret hx hb hr (fun t ht9 hW => ⟨⟨((u2 (u2 iv 12 60 w2440_i_12_60) 12 61 w2440_i_12_61), lv, (u2 fa 12 59 w2440_a_12_59), la), rfl, ⟨w2440_a_12_59, w2440_i_12_60, w2440_i_12_61, rfl⟩, by rw [ht9]; exact hP9, hD9⟩, hS.F ht9⟩) hS.2.2 dX12_findOrder_156
        · have fc2442 := z_nle (rfl : (r1039).toInt = _) (rfl : (x2440_3).toInt = _) c2442
          refine lv_iconst (v := 0) hx hb dX12_findOrder_26 (by decide) ?_
          refine lv_istore (lv' := [(4, .int 0), (3, .int x2440_3), (2, .int r1039), (0, .ref h), (1, .int mm)]) hx hb dX12_findOrder_27 hl (by decide) rfl (fun ls hl => ?_)
          have lp2631 : ∀ (nn2631 : Nat) (x2630_4 : Int32) (w2630_a_12_59 : Nat → Int32), 0 ≤ x2630_4.toInt ∧ x2630_4.toInt ≤ 3 → (∀ j, inb (bA 12 59 j) (w2630_a_12_59 j)) → 3 - x2630_4.toInt < (nn2631 : Int) → ∀ (H : Heap) (locs : List Loc), ∀ (ls : Array Slot), va_P (dC, dI) classes (WM h g ca (u2 (u2 iv 12 60 w2440_i_12_60) 12 61 w2440_i_12_61) lv (u2 fa 12 59 w2630_a_12_59) la) H → va_D A (WM h g ca (u2 (u2 iv 12 60 w2440_i_12_60) 12 61 w2440_i_12_61) lv (u2 fa 12 59 w2630_a_12_59) la) → va_S A s.heap H locs → lv_has ls 7 [(4, .int x2630_4), (3, .int x2440_3), (2, .int r1039), (0, .ref h), (1, .int mm)] → W p l e ({ frames := 2, cells := 0, slots := 0, locals := 46 } : Room) s m ([.ref h, .int mm] : List Value).toArray below meth c H locs 0 0 (MQ below (va_Qv (fun (u : SS) => ∃ (na_12_59 : Nat → Int32) (ni_12_60 : Int32) (ni_12_61 : Int32), u = ((u2 (u2 iv 12 60 ni_12_60) 12 61 ni_12_61), lv, (u2 fa 12 59 na_12_59), la)) (bM (dC, dI) h g ca A) A) ([.ref h, .int mm] : List Value).toArray s 0 0 A) (F0 m 29 ls []) := by
            intro nn2631
            induction nn2631 with
            | zero => intro x2630_4 w2630_a_12_59 hx2630_4 hw2630_a_12_59 hm2631; exfalso; omega
            | succ nn2631 ih2631 =>
              intro x2630_4 w2630_a_12_59 hx2630_4 hw2630_a_12_59 hm2631 H locs ls hP hD hS hl
              refine lv_iload hx hb dX12_findOrder_29 (lv_at hl 0 rfl) ?_
              refine lv_iconst (v := 3) hx hb dX12_findOrder_31 (by decide) ?_
              refine lv_icmp_ge (tgt := 49) hx hb dX12_findOrder_32 (by decide) (fun c2632 => ?_) (fun c2632 => ?_)
              · have fc2632 := z_le (by decide : (3 : Int32).toInt = 3) (rfl : (x2630_4).toInt = _) c2632
                refine lv_iconst (v := 0) hx hb dX12_findOrder_49 (by decide) ?_
                refine lv_istore (lv' := [(4, .int 0), (3, .int x2440_3), (2, .int r1039), (0, .ref h), (1, .int mm)]) hx hb dX12_findOrder_50 hl (by decide) rfl (fun ls hl => ?_)
                refine lv_iconst (v := 0) hx hb dX12_findOrder_52 (by decide) ?_
                refine lv_istore (lv' := [(5, .int 0), (4, .int 0), (3, .int x2440_3), (2, .int r1039), (0, .ref h), (1, .int mm)]) hx hb dX12_findOrder_53 hl (by decide) rfl (fun ls hl => ?_)
                have lp2787 : ∀ (nn2787 : Nat) (x2786_5 : Int32) (x2786_4 : Int32) (w2786_a_12_59 : Nat → Int32), 0 ≤ x2786_5.toInt ∧ x2786_5.toInt ≤ 8 → 0 ≤ x2786_4.toInt → (∀ j, inb (bA 12 59 j) (w2786_a_12_59 j)) → 8 - x2786_5.toInt < (nn2787 : Int) → ∀ (H : Heap) (locs : List Loc), ∀ (ls : Array Slot), va_P (dC, dI) classes (WM h g ca (u2 (u2 iv 12 60 w2440_i_12_60) 12 61 w2440_i_12_61) lv (u2 fa 12 59 w2786_a_12_59) la) H → va_D A (WM h g ca (u2 (u2 iv 12 60 w2440_i_12_60) 12 61 w2440_i_12_61) lv (u2 fa 12 59 w2786_a_12_59) la) → va_S A s.heap H locs → lv_has ls 7 [(5, .int x2786_5), (4, .int x2786_4), (3, .int x2440_3), (2, .int r1039), (0, .ref h), (1, .int mm)] → W p l e ({ frames := 2, cells := 0, slots := 0, locals := 46 } : Room) s m ([.ref h, .int mm] : List Value).toArray below meth c H locs 0 0 (MQ below (va_Qv (fun (u : SS) => ∃ (na_12_59 : Nat → Int32) (ni_12_60 : Int32) (ni_12_61 : Int32), u = ((u2 (u2 iv 12 60 ni_12_60) 12 61 ni_12_61), lv, (u2 fa 12 59 na_12_59), la)) (bM (dC, dI) h g ca A) A) ([.ref h, .int mm] : List Value).toArray s 0 0 A) (F0 m 55 ls []) := by
                  intro nn2787
                  induction nn2787 with
                  | zero => intro x2786_5 x2786_4 w2786_a_12_59 hx2786_5 hx2786_4 hw2786_a_12_59 hm2787; exfalso; omega
                  | succ nn2787 ih2787 =>
                    intro x2786_5 x2786_4 w2786_a_12_59 hx2786_5 hx2786_4 hw2786_a_12_59 hm2787 H locs ls hP hD hS hl
                    refine lv_iload hx hb dX12_findOrder_55 (lv_at hl 0 rfl) ?_
                    refine lv_aload_n hx hb dX12_findOrder_57 rfl (lv_at hl 4 rfl) ?_
                    refine gM_12_57 hx hb ht hown hK hP m_1196 (v := (iv 12 57)) rfl dX12_findOrder_58 ?_
                    refine lv_icmp_ge (tgt := 123) hx hb dX12_findOrder_61 (by decide) (fun c2788 => ?_) (fun c2788 => ?_)
                    · have fc2788 := z_le (rfl : ((iv 12 57)).toInt = _) (rfl : (x2786_5).toInt = _) c2788
                      refine lv_aload_n hx hb dX12_findOrder_123 rfl (lv_at hl 4 rfl) ?_
                      refine gM_12_60 hx hb ht hown hK hP m_1199 (v := w2440_i_12_60) rfl dX12_findOrder_124 ?_
                      refine lv_if_lt (tgt := 139) hx hb dX12_findOrder_127 (by decide) (fun c2789 => ?_) (fun c2789 => ?_)
                      · have fc2789 := z_lt (rfl : (w2440_i_12_60).toInt = _) (by decide : (0 : Int32).toInt = 0) c2789
                        refine lv_aload_n hx hb dX12_findOrder_139 rfl (lv_at hl 4 rfl) ?_
                        refine lv_iload_n hx hb dX12_findOrder_140 rfl (lv_at hl 2 rfl) ?_
                        refine pM_12_60 (v := x2440_3) hx hb ht hown hK hP hD hS m_1199 dX12_findOrder_141 (fun H locs hP hD hS => ?_)
                        have hP : va_P (dC, dI) classes (WM h g ca (u2 (u2 iv 12 60 x2440_3) 12 61 w2440_i_12_61) lv (u2 fa 12 59 w2786_a_12_59) la) H := hP
                        have hD : va_D A (WM h g ca (u2 (u2 iv 12 60 x2440_3) 12 61 w2440_i_12_61) lv (u2 fa 12 59 w2786_a_12_59) la) := hD
                        refine lv_aload_n hx hb dX12_findOrder_144 rfl (lv_at hl 4 rfl) ?_
                        refine lv_iload hx hb dX12_findOrder_145 (lv_at hl 1 rfl) ?_
                        refine pM_12_61 (v := x2786_4) hx hb ht hown hK hP hD hS m_1200 dX12_findOrder_147 (fun H locs hP hD hS => ?_)
                        have hP : va_P (dC, dI) classes (WM h g ca (u2 (u2 iv 12 60 x2440_3) 12 61 x2786_4) lv (u2 fa 12 59 w2786_a_12_59) la) H := hP
                        have hD : va_D A (WM h g ca (u2 (u2 iv 12 60 x2440_3) 12 61 x2786_4) lv (u2 fa 12 59 w2786_a_12_59) la) := hD
                        obtain ⟨v2790, ev2790⟩ : ∃ y : Int32, y = x2440_3 + 1 := ⟨_, rfl⟩
                        have tv2790 := z_add ev2790 rfl (by decide : (1 : Int32).toInt = 1) (by omega) (by omega)
                        refine lv_iinc (v := v2790) (lv' := [(3, .int v2790), (5, .int x2786_5), (4, .int x2786_4), (2, .int r1039), (0, .ref h), (1, .int mm)]) hx hb dX12_findOrder_150 hl (k := 2) rfl (by rw [ev2790]; rfl) (by decide) rfl (fun ls hl => ?_)
                        refine lv_goto (tgt := 21) hx hb dX12_findOrder_153 (by decide) ?_
                        exact ih2441 v2790 x2440_3 x2786_4 w2786_a_12_59 ⟨by omega, by omega⟩ hw2786_a_12_59 (by omega) _ _ ls hP hD hS (lv_sub hl [0, 3, 4, 5] rfl)
                      · have fc2789 := z_nlt (rfl : (w2440_i_12_60).toInt = _) (by decide : (0 : Int32).toInt = 0) c2789
                        refine lv_iload hx hb dX12_findOrder_130 (lv_at hl 1 rfl) ?_
                        refine lv_aload_n hx hb dX12_findOrder_132 rfl (lv_at hl 4 rfl) ?_
                        refine gM_12_61 hx hb ht hown hK hP m_1200 (v := w2440_i_12_61) rfl dX12_findOrder_133 ?_
                        refine lv_icmp_ge (tgt := 150) hx hb dX12_findOrder_136 (by decide) (fun c2791 => ?_) (fun c2791 => ?_)
                        · have fc2791 := z_le (rfl : (w2440_i_12_61).toInt = _) (rfl : (x2786_4).toInt = _) c2791
                          obtain ⟨v2792, ev2792⟩ : ∃ y : Int32, y = x2440_3 + 1 := ⟨_, rfl⟩
                          have tv2792 := z_add ev2792 rfl (by decide : (1 : Int32).toInt = 1) (by omega) (by omega)
                          refine lv_iinc (v := v2792) (lv' := [(3, .int v2792), (5, .int x2786_5), (4, .int x2786_4), (2, .int r1039), (0, .ref h), (1, .int mm)]) hx hb dX12_findOrder_150 hl (k := 2) rfl (by rw [ev2792]; rfl) (by decide) rfl (fun ls hl => ?_)
                          refine lv_goto (tgt := 21) hx hb dX12_findOrder_153 (by decide) ?_
                          exact ih2441 v2792 w2440_i_12_60 w2440_i_12_61 w2786_a_12_59 ⟨by omega, by omega⟩ hw2786_a_12_59 (by omega) _ _ ls hP hD hS (lv_sub hl [0, 3, 4, 5] rfl)
                        · have fc2791 := z_nle (rfl : (w2440_i_12_61).toInt = _) (rfl : (x2786_4).toInt = _) c2791
                          refine lv_aload_n hx hb dX12_findOrder_139 rfl (lv_at hl 4 rfl) ?_
                          refine lv_iload_n hx hb dX12_findOrder_140 rfl (lv_at hl 2 rfl) ?_
                          refine pM_12_60 (v := x2440_3) hx hb ht hown hK hP hD hS m_1199 dX12_findOrder_141 (fun H locs hP hD hS => ?_)
                          have hP : va_P (dC, dI) classes (WM h g ca (u2 (u2 iv 12 60 x2440_3) 12 61 w2440_i_12_61) lv (u2 fa 12 59 w2786_a_12_59) la) H := hP
                          have hD : va_D A (WM h g ca (u2 (u2 iv 12 60 x2440_3) 12 61 w2440_i_12_61) lv (u2 fa 12 59 w2786_a_12_59) la) := hD
                          refine lv_aload_n hx hb dX12_findOrder_144 rfl (lv_at hl 4 rfl) ?_
                          refine lv_iload hx hb dX12_findOrder_145 (lv_at hl 1 rfl) ?_
                          refine pM_12_61 (v := x2786_4) hx hb ht hown hK hP hD hS m_1200 dX12_findOrder_147 (fun H locs hP hD hS => ?_)
                          have hP : va_P (dC, dI) classes (WM h g ca (u2 (u2 iv 12 60 x2440_3) 12 61 x2786_4) lv (u2 fa 12 59 w2786_a_12_59) la) H := hP
                          have hD : va_D A (WM h g ca (u2 (u2 iv 12 60 x2440_3) 12 61 x2786_4) lv (u2 fa 12 59 w2786_a_12_59) la) := hD
                          obtain ⟨v2793, ev2793⟩ : ∃ y : Int32, y = x2440_3 + 1 := ⟨_, rfl⟩
                          have tv2793 := z_add ev2793 rfl (by decide : (1 : Int32).toInt = 1) (by omega) (by omega)
                          refine lv_iinc (v := v2793) (lv' := [(3, .int v2793), (5, .int x2786_5), (4, .int x2786_4), (2, .int r1039), (0, .ref h), (1, .int mm)]) hx hb dX12_findOrder_150 hl (k := 2) rfl (by rw [ev2793]; rfl) (by decide) rfl (fun ls hl => ?_)
                          refine lv_goto (tgt := 21) hx hb dX12_findOrder_153 (by decide) ?_
                          exact ih2441 v2793 x2440_3 x2786_4 w2786_a_12_59 ⟨by omega, by omega⟩ hw2786_a_12_59 (by omega) _ _ ls hP hD hS (lv_sub hl [0, 3, 4, 5] rfl)
                    · have fc2788 := z_nle (rfl : ((iv 12 57)).toInt = _) (rfl : (x2786_5).toInt = _) c2788
                      refine lv_aload_n hx hb dX12_findOrder_64 rfl (lv_at hl 4 rfl) ?_
                      refine lv_iload_n hx hb dX12_findOrder_65 rfl (lv_at hl 2 rfl) ?_
                      refine lv_iload_n hx hb dX12_findOrder_66 rfl (lv_at hl 5 rfl) ?_
                      refine lv_iload hx hb dX12_findOrder_67 (lv_at hl 0 rfl) ?_
                      refine vp_callSi (W.runV (As := [.int x2440_3, .int mm, .int x2786_5]) (rest := []) ⟨hx, hb, hml, hown, ht⟩ (c_X12_ovenOf_0 l dC dI h g ca (u2 (u2 iv 12 60 w2440_i_12_60) 12 61 w2440_i_12_61) lv (u2 fa 12 59 w2786_a_12_59) la (IX_a (c := 12) (k := 59) (IX_i (c := 12) (k := 61) (IX_i (c := 12) (k := 60) hI (full_i _)) (full_i _)) hw2786_a_12_59) x2440_3 mm x2786_5 (show 1 ≤ ((iv 12 57) : Int32).toInt ∧ ((iv 12 57) : Int32).toInt ≤ 8 from ⟨by omega, by omega⟩) ⟨by omega, by omega⟩ ⟨by omega, by omega⟩ ⟨by omega, by omega⟩ (show (x2786_5 : Int32).toInt + 1 ≤ ((iv 12 57) : Int32).toInt from by omega)) (kV 3 ht m_1652 m_1654 m_70 m_89 m_1655 rfl rfl hd_X12_ovenOf_v ⟨Nat.le_of_ble_eq_true rfl, Nat.le_of_ble_eq_true rfl⟩) (vR hP hK (rM_12 hK hP)) rfl rfl hl.1 rfl (lv_room (Nat.le_of_ble_eq_true rfl)) dX12_findOrder_69 ⟨Nat.le_of_ble_eq_true rfl, Nat.le_of_ble_eq_true rfl⟩) (fun r2794 hr2794 => ?_)
                      refine lv_istore (lv' := [(6, .int r2794), (5, .int x2786_5), (4, .int x2786_4), (3, .int x2440_3), (2, .int r1039), (0, .ref h), (1, .int mm)]) hx hb dX12_findOrder_72 hl (by decide) rfl (fun ls hl => ?_)
                      refine lv_aload_n hx hb dX12_findOrder_74 rfl (lv_at hl 5 rfl) ?_
                      refine gM_12_59 hx hb ht hown hK hP m_1198 dX12_findOrder_75 ?_
                      refine lv_iload hx hb dX12_findOrder_78 (lv_at hl 0 rfl) ?_
                      refine lv_dup2_11 hx hb dX12_findOrder_80 rfl rfl ?_
                      refine lM_12_59 hx hb hK hP (f := w2786_a_12_59) rfl (vp_in_iff.mpr ⟨by omega, by omega⟩) dX12_findOrder_81 ?_
                      refine lv_topi (fun v2795 ev2795 => ?_)
                      refine lv_aload_n hx hb dX12_findOrder_82 rfl (lv_at hl 5 rfl) ?_
                      refine gM_12_58 hx hb ht hown hK hP m_1197 dX12_findOrder_83 ?_
                      refine lv_iload hx hb dX12_findOrder_86 (lv_at hl 1 rfl) ?_
                      refine lM_12_58 hx hb hK hP (f := (fa 12 58)) rfl (vp_in_iff.mpr ⟨by omega, by omega⟩) dX12_findOrder_88 ?_
                      refine lv_topi (fun v2796 ev2796 => ?_)
                      refine lv_iadd hx hb dX12_findOrder_89 ?_
                      refine lv_topi (fun v2797 ev2797 => ?_)
                      refine tM_12_59 hx hb hK hP hD hS (f0 := w2786_a_12_59) rfl (i := r2794) (x := v2797) (vp_in_iff.mpr ⟨by omega, by omega⟩) dX12_findOrder_90 (fun f2798 ef2798 H locs hP hD hS => ?_)
                      have hf2798 : ∀ j, inb (bA 12 59 j) (f2798 j) := fun j => full_i _
                      have hP : va_P (dC, dI) classes (WM h g ca (u2 (u2 iv 12 60 w2440_i_12_60) 12 61 w2440_i_12_61) lv (u2 fa 12 59 f2798) la) H := hP
                      have hD : va_D A (WM h g ca (u2 (u2 iv 12 60 w2440_i_12_60) 12 61 w2440_i_12_61) lv (u2 fa 12 59 f2798) la) := hD
                      refine lv_aload_n hx hb dX12_findOrder_91 rfl (lv_at hl 5 rfl) ?_
                      refine gM_12_59 hx hb ht hown hK hP m_1198 dX12_findOrder_92 ?_
                      refine lv_iload hx hb dX12_findOrder_95 (lv_at hl 0 rfl) ?_
                      refine lM_12_59 hx hb hK hP (f := f2798) rfl (vp_in_iff.mpr ⟨by omega, by omega⟩) dX12_findOrder_97 ?_
                      refine lv_topi (fun v2799 ev2799 => ?_)
                      refine lv_iload hx hb dX12_findOrder_98 (lv_at hl 2 rfl) ?_
                      refine lv_icmp_le (tgt := 113) hx hb dX12_findOrder_100 (by decide) (fun c2800 => ?_) (fun c2800 => ?_)
                      · have fc2800 := z_le (rfl : (v2799).toInt = _) (rfl : (x2786_4).toInt = _) c2800
                        refine lv_iload hx hb dX12_findOrder_113 (lv_at hl 2 rfl) ?_
                        refine lv_istore (lv' := [(4, .int x2786_4), (6, .int r2794), (5, .int x2786_5), (3, .int x2440_3), (2, .int r1039), (0, .ref h), (1, .int mm)]) hx hb dX12_findOrder_115 hl (by decide) rfl (fun ls hl => ?_)
                        obtain ⟨v2801, ev2801⟩ : ∃ y : Int32, y = x2786_5 + 1 := ⟨_, rfl⟩
                        have tv2801 := z_add ev2801 rfl (by decide : (1 : Int32).toInt = 1) (by omega) (by omega)
                        refine lv_iinc (v := v2801) (lv' := [(5, .int v2801), (4, .int x2786_4), (6, .int r2794), (3, .int x2440_3), (2, .int r1039), (0, .ref h), (1, .int mm)]) hx hb dX12_findOrder_117 hl (k := 2) rfl (by rw [ev2801]; rfl) (by decide) rfl (fun ls hl => ?_)
                        refine lv_goto (tgt := 55) hx hb dX12_findOrder_120 (by decide) ?_
                        exact ih2787 v2801 x2786_4 f2798 ⟨by omega, by omega⟩ (by omega) hf2798 (by omega) _ _ ls hP hD hS (lv_sub hl [0, 1, 3, 4, 5, 6] rfl)
                      · have fc2800 := z_nle (rfl : (v2799).toInt = _) (rfl : (x2786_4).toInt = _) c2800
                        refine lv_aload_n hx hb dX12_findOrder_103 rfl (lv_at hl 5 rfl) ?_
                        refine gM_12_59 hx hb ht hown hK hP m_1198 dX12_findOrder_104 ?_
                        refine lv_iload hx hb dX12_findOrder_107 (lv_at hl 0 rfl) ?_
                        refine lM_12_59 hx hb hK hP (f := f2798) rfl (vp_in_iff.mpr ⟨by omega, by omega⟩) dX12_findOrder_109 ?_
                        refine lv_topi (fun v2802 ev2802 => ?_)
                        obtain rfl : v2799 = v2802 := ev2799.trans ev2802.symm
                        refine lv_goto (tgt := 115) hx hb dX12_findOrder_110 (by decide) ?_
                        refine lv_istore (lv' := [(4, .int v2799), (6, .int r2794), (5, .int x2786_5), (3, .int x2440_3), (2, .int r1039), (0, .ref h), (1, .int mm)]) hx hb dX12_findOrder_115 hl (by decide) rfl (fun ls hl => ?_)
                        obtain ⟨v2803, ev2803⟩ : ∃ y : Int32, y = x2786_5 + 1 := ⟨_, rfl⟩
                        have tv2803 := z_add ev2803 rfl (by decide : (1 : Int32).toInt = 1) (by omega) (by omega)
                        refine lv_iinc (v := v2803) (lv' := [(5, .int v2803), (4, .int v2799), (6, .int r2794), (3, .int x2440_3), (2, .int r1039), (0, .ref h), (1, .int mm)]) hx hb dX12_findOrder_117 hl (k := 2) rfl (by rw [ev2803]; rfl) (by decide) rfl (fun ls hl => ?_)
                        refine lv_goto (tgt := 55) hx hb dX12_findOrder_120 (by decide) ?_
                        exact ih2787 v2803 v2799 f2798 ⟨by omega, by omega⟩ (by omega) hf2798 (by omega) _ _ ls hP hD hS (lv_sub hl [0, 1, 3, 4, 5, 6] rfl)
                exact lp2787 9 0 0 w2630_a_12_59 ⟨by decide, by decide⟩ (by decide) hw2630_a_12_59 (by first | decide | omega) _ _ ls hP hD hS (lv_sub hl [0, 1, 2, 3, 4, 5] rfl)
              · have fc2632 := z_nle (by decide : (3 : Int32).toInt = 3) (rfl : (x2630_4).toInt = _) c2632
                refine lv_aload_n hx hb dX12_findOrder_35 rfl (lv_at hl 3 rfl) ?_
                refine gM_12_59 hx hb ht hown hK hP m_1198 dX12_findOrder_36 ?_
                refine lv_iload hx hb dX12_findOrder_39 (lv_at hl 0 rfl) ?_
                refine lv_iconst (v := 0) hx hb dX12_findOrder_41 (by decide) ?_
                refine tM_12_59 hx hb hK hP hD hS (f0 := w2630_a_12_59) rfl (i := x2630_4) (x := 0) (vp_in_iff.mpr ⟨by omega, by omega⟩) dX12_findOrder_42 (fun f2804 ef2804 H locs hP hD hS => ?_)
                have hf2804 : ∀ j, inb (bA 12 59 j) (f2804 j) := fun j => full_i _
                have hP : va_P (dC, dI) classes (WM h g ca (u2 (u2 iv 12 60 w2440_i_12_60) 12 61 w2440_i_12_61) lv (u2 fa 12 59 f2804) la) H := hP
                have hD : va_D A (WM h g ca (u2 (u2 iv 12 60 w2440_i_12_60) 12 61 w2440_i_12_61) lv (u2 fa 12 59 f2804) la) := hD
                obtain ⟨v2805, ev2805⟩ : ∃ y : Int32, y = x2630_4 + 1 := ⟨_, rfl⟩
                have tv2805 := z_add ev2805 rfl (by decide : (1 : Int32).toInt = 1) (by omega) (by omega)
                refine lv_iinc (v := v2805) (lv' := [(4, .int v2805), (3, .int x2440_3), (2, .int r1039), (0, .ref h), (1, .int mm)]) hx hb dX12_findOrder_43 hl (k := 0) rfl (by rw [ev2805]; rfl) (by decide) rfl (fun ls hl => ?_)
                refine lv_goto (tgt := 29) hx hb dX12_findOrder_46 (by decide) ?_
                exact ih2631 v2805 f2804 ⟨by omega, by omega⟩ hf2804 (by omega) _ _ ls hP hD hS (lv_sub hl [0, 1, 2, 3, 4] rfl)
          exact lp2631 4 0 w2440_a_12_59 ⟨by decide, by decide⟩ hw2440_a_12_59 (by first | decide | omega) _ _ ls hP hD hS (lv_sub hl [0, 1, 2, 3, 4] rfl)
    exact lp2441 4 0 (-1) 0 (fa 12 59) ⟨by decide, by decide⟩ (hI.2 12 59) (by first | decide | omega) _ _ ls hP hD hS (lv_sub hl [0, 1, 2, 3] rfl)
  · have hq8 : (iv 12 57) = 2 := z_of (by decide) q1
    rw [hq8]
    have : (2 : Int32).toInt = 2 := by decide
    refine vp_callSi (W.runS (As := [.int mm, .int 2]) (rest := []) ⟨hx, hb, hml, hown, ht⟩ (c_X12_power_2 l dC dI mm ⟨by omega, by omega⟩) (kS 2 ht m_1649 m_1650 m_89 m_1651 rfl rfl hd_X12_power_v ⟨Nat.le_of_ble_eq_true rfl, Nat.le_of_ble_eq_true rfl⟩) (sR noP (hK.sub (tys' := []) [] rfl)) rfl rfl hl.1 rfl (lv_room (Nat.le_of_ble_eq_true rfl)) dX12_findOrder_15 ⟨Nat.le_of_ble_eq_true rfl, Nat.le_of_ble_eq_true rfl⟩) (fun r2806 hr2806 => ?_)
    refine lv_istore_n (lv' := [(2, .int r2806), (0, .ref h), (1, .int mm)]) hx hb dX12_findOrder_18 rfl hl (by decide) rfl (fun ls hl => ?_)
    refine lv_iconst (v := 0) hx hb dX12_findOrder_19 (by decide) ?_
    refine lv_istore_n (lv' := [(3, .int 0), (2, .int r2806), (0, .ref h), (1, .int mm)]) hx hb dX12_findOrder_20 rfl hl (by decide) rfl (fun ls hl => ?_)
    have lp6398 : ∀ (nn6398 : Nat) (x6397_3 : Int32) (w6397_i_12_60 : Int32) (w6397_i_12_61 : Int32) (w6397_a_12_59 : Nat → Int32), 0 ≤ x6397_3.toInt ∧ x6397_3.toInt ≤ 9 → (∀ j, inb (bA 12 59 j) (w6397_a_12_59 j)) → 9 - x6397_3.toInt < (nn6398 : Int) → ∀ (H : Heap) (locs : List Loc), ∀ (ls : Array Slot), va_P (dC, dI) classes (WM h g ca (u2 (u2 iv 12 60 w6397_i_12_60) 12 61 w6397_i_12_61) lv (u2 fa 12 59 w6397_a_12_59) la) H → va_D A (WM h g ca (u2 (u2 iv 12 60 w6397_i_12_60) 12 61 w6397_i_12_61) lv (u2 fa 12 59 w6397_a_12_59) la) → va_S A s.heap H locs → lv_has ls 7 [(3, .int x6397_3), (2, .int r2806), (0, .ref h), (1, .int mm)] → W p l e ({ frames := 2, cells := 0, slots := 0, locals := 46 } : Room) s m ([.ref h, .int mm] : List Value).toArray below meth c H locs 0 0 (MQ below (va_Qv (fun (u : SS) => ∃ (na_12_59 : Nat → Int32) (ni_12_60 : Int32) (ni_12_61 : Int32), u = ((u2 (u2 iv 12 60 ni_12_60) 12 61 ni_12_61), lv, (u2 fa 12 59 na_12_59), la)) (bM (dC, dI) h g ca A) A) ([.ref h, .int mm] : List Value).toArray s 0 0 A) (F0 m 21 ls []) := by
      intro nn6398
      induction nn6398 with
      | zero => intro x6397_3 w6397_i_12_60 w6397_i_12_61 w6397_a_12_59 hx6397_3 hw6397_a_12_59 hm6398; exfalso; omega
      | succ nn6398 ih6398 =>
        intro x6397_3 w6397_i_12_60 w6397_i_12_61 w6397_a_12_59 hx6397_3 hw6397_a_12_59 hm6398 H locs ls hP hD hS hl
        refine lv_iload_n hx hb dX12_findOrder_21 rfl (lv_at hl 0 rfl) ?_
        refine lv_iload_n hx hb dX12_findOrder_22 rfl (lv_at hl 1 rfl) ?_
        refine lv_icmp_ge (tgt := 156) hx hb dX12_findOrder_23 (by decide) (fun c6399 => ?_) (fun c6399 => ?_)
        · have fc6399 := z_le (rfl : (r2806).toInt = _) (rfl : (x6397_3).toInt = _) c6399
          have hP9 : va_P (dC, dI) classes (WM h g ca (u2 (u2 iv 12 60 w6397_i_12_60) 12 61 w6397_i_12_61) lv (u2 fa 12 59 w6397_a_12_59) la) H := hP
          have hD9 : va_D A (WM h g ca (u2 (u2 iv 12 60 w6397_i_12_60) 12 61 w6397_i_12_61) lv (u2 fa 12 59 w6397_a_12_59) la) := hD
          exact W.vret hx hb hr (fun t ht9 hW => ⟨⟨((u2 (u2 iv 12 60 w6397_i_12_60) 12 61 w6397_i_12_61), lv, (u2 fa 12 59 w6397_a_12_59), la), rfl, ⟨w6397_a_12_59, w6397_i_12_60, w6397_i_12_61, rfl⟩, by rw [ht9]; exact hP9, hD9⟩, hS.F ht9⟩) hS.2.2 dX12_findOrder_156
        · have fc6399 := z_nle (rfl : (r2806).toInt = _) (rfl : (x6397_3).toInt = _) c6399
          refine lv_iconst (v := 0) hx hb dX12_findOrder_26 (by decide) ?_
          refine lv_istore (lv' := [(4, .int 0), (3, .int x6397_3), (2, .int r2806), (0, .ref h), (1, .int mm)]) hx hb dX12_findOrder_27 hl (by decide) rfl (fun ls hl => ?_)
          have lp6588 : ∀ (nn6588 : Nat) (x6587_4 : Int32) (w6587_a_12_59 : Nat → Int32), 0 ≤ x6587_4.toInt ∧ x6587_4.toInt ≤ 3 → (∀ j, inb (bA 12 59 j) (w6587_a_12_59 j)) → 3 - x6587_4.toInt < (nn6588 : Int) → ∀ (H : Heap) (locs : List Loc), ∀ (ls : Array Slot), va_P (dC, dI) classes (WM h g ca (u2 (u2 iv 12 60 w6397_i_12_60) 12 61 w6397_i_12_61) lv (u2 fa 12 59 w6587_a_12_59) la) H → va_D A (WM h g ca (u2 (u2 iv 12 60 w6397_i_12_60) 12 61 w6397_i_12_61) lv (u2 fa 12 59 w6587_a_12_59) la) → va_S A s.heap H locs → lv_has ls 7 [(4, .int x6587_4), (3, .int x6397_3), (2, .int r2806), (0, .ref h), (1, .int mm)] → W p l e ({ frames := 2, cells := 0, slots := 0, locals := 46 } : Room) s m ([.ref h, .int mm] : List Value).toArray below meth c H locs 0 0 (MQ below (va_Qv (fun (u : SS) => ∃ (na_12_59 : Nat → Int32) (ni_12_60 : Int32) (ni_12_61 : Int32), u = ((u2 (u2 iv 12 60 ni_12_60) 12 61 ni_12_61), lv, (u2 fa 12 59 na_12_59), la)) (bM (dC, dI) h g ca A) A) ([.ref h, .int mm] : List Value).toArray s 0 0 A) (F0 m 29 ls []) := by
            intro nn6588
            induction nn6588 with
            | zero => intro x6587_4 w6587_a_12_59 hx6587_4 hw6587_a_12_59 hm6588; exfalso; omega
            | succ nn6588 ih6588 =>
              intro x6587_4 w6587_a_12_59 hx6587_4 hw6587_a_12_59 hm6588 H locs ls hP hD hS hl
              refine lv_iload hx hb dX12_findOrder_29 (lv_at hl 0 rfl) ?_
              refine lv_iconst (v := 3) hx hb dX12_findOrder_31 (by decide) ?_
              refine lv_icmp_ge (tgt := 49) hx hb dX12_findOrder_32 (by decide) (fun c6589 => ?_) (fun c6589 => ?_)
              · have fc6589 := z_le (by decide : (3 : Int32).toInt = 3) (rfl : (x6587_4).toInt = _) c6589
                refine lv_iconst (v := 0) hx hb dX12_findOrder_49 (by decide) ?_
                refine lv_istore (lv' := [(4, .int 0), (3, .int x6397_3), (2, .int r2806), (0, .ref h), (1, .int mm)]) hx hb dX12_findOrder_50 hl (by decide) rfl (fun ls hl => ?_)
                refine lv_iconst (v := 0) hx hb dX12_findOrder_52 (by decide) ?_
                refine lv_istore (lv' := [(5, .int 0), (4, .int 0), (3, .int x6397_3), (2, .int r2806), (0, .ref h), (1, .int mm)]) hx hb dX12_findOrder_53 hl (by decide) rfl (fun ls hl => ?_)
                have lp6744 : ∀ (nn6744 : Nat) (x6743_5 : Int32) (x6743_4 : Int32) (w6743_a_12_59 : Nat → Int32), 0 ≤ x6743_5.toInt ∧ x6743_5.toInt ≤ 8 → 0 ≤ x6743_4.toInt → (∀ j, inb (bA 12 59 j) (w6743_a_12_59 j)) → 8 - x6743_5.toInt < (nn6744 : Int) → ∀ (H : Heap) (locs : List Loc), ∀ (ls : Array Slot), va_P (dC, dI) classes (WM h g ca (u2 (u2 iv 12 60 w6397_i_12_60) 12 61 w6397_i_12_61) lv (u2 fa 12 59 w6743_a_12_59) la) H → va_D A (WM h g ca (u2 (u2 iv 12 60 w6397_i_12_60) 12 61 w6397_i_12_61) lv (u2 fa 12 59 w6743_a_12_59) la) → va_S A s.heap H locs → lv_has ls 7 [(5, .int x6743_5), (4, .int x6743_4), (3, .int x6397_3), (2, .int r2806), (0, .ref h), (1, .int mm)] → W p l e ({ frames := 2, cells := 0, slots := 0, locals := 46 } : Room) s m ([.ref h, .int mm] : List Value).toArray below meth c H locs 0 0 (MQ below (va_Qv (fun (u : SS) => ∃ (na_12_59 : Nat → Int32) (ni_12_60 : Int32) (ni_12_61 : Int32), u = ((u2 (u2 iv 12 60 ni_12_60) 12 61 ni_12_61), lv, (u2 fa 12 59 na_12_59), la)) (bM (dC, dI) h g ca A) A) ([.ref h, .int mm] : List Value).toArray s 0 0 A) (F0 m 55 ls []) := by
                  intro nn6744
                  induction nn6744 with
                  | zero => intro x6743_5 x6743_4 w6743_a_12_59 hx6743_5 hx6743_4 hw6743_a_12_59 hm6744; exfalso; omega
                  | succ nn6744 ih6744 =>
                    intro x6743_5 x6743_4 w6743_a_12_59 hx6743_5 hx6743_4 hw6743_a_12_59 hm6744 H locs ls hP hD hS hl
                    refine lv_iload hx hb dX12_findOrder_55 (lv_at hl 0 rfl) ?_
                    refine lv_aload_n hx hb dX12_findOrder_57 rfl (lv_at hl 4 rfl) ?_
                    refine gM_12_57 hx hb ht hown hK hP m_1196 (v := (iv 12 57)) rfl dX12_findOrder_58 ?_
                    refine lv_icmp_ge (tgt := 123) hx hb dX12_findOrder_61 (by decide) (fun c6745 => ?_) (fun c6745 => ?_)
                    · have fc6745 := z_le (rfl : ((iv 12 57)).toInt = _) (rfl : (x6743_5).toInt = _) c6745
                      refine lv_aload_n hx hb dX12_findOrder_123 rfl (lv_at hl 4 rfl) ?_
                      refine gM_12_60 hx hb ht hown hK hP m_1199 (v := w6397_i_12_60) rfl dX12_findOrder_124 ?_
                      refine lv_if_lt (tgt := 139) hx hb dX12_findOrder_127 (by decide) (fun c6746 => ?_) (fun c6746 => ?_)
                      · have fc6746 := z_lt (rfl : (w6397_i_12_60).toInt = _) (by decide : (0 : Int32).toInt = 0) c6746
                        refine lv_aload_n hx hb dX12_findOrder_139 rfl (lv_at hl 4 rfl) ?_
                        refine lv_iload_n hx hb dX12_findOrder_140 rfl (lv_at hl 2 rfl) ?_
                        refine pM_12_60 (v := x6397_3) hx hb ht hown hK hP hD hS m_1199 dX12_findOrder_141 (fun H locs hP hD hS => ?_)
                        have hP : va_P (dC, dI) classes (WM h g ca (u2 (u2 iv 12 60 x6397_3) 12 61 w6397_i_12_61) lv (u2 fa 12 59 w6743_a_12_59) la) H := hP
                        have hD : va_D A (WM h g ca (u2 (u2 iv 12 60 x6397_3) 12 61 w6397_i_12_61) lv (u2 fa 12 59 w6743_a_12_59) la) := hD
                        refine lv_aload_n hx hb dX12_findOrder_144 rfl (lv_at hl 4 rfl) ?_
                        refine lv_iload hx hb dX12_findOrder_145 (lv_at hl 1 rfl) ?_
                        refine pM_12_61 (v := x6743_4) hx hb ht hown hK hP hD hS m_1200 dX12_findOrder_147 (fun H locs hP hD hS => ?_)
                        have hP : va_P (dC, dI) classes (WM h g ca (u2 (u2 iv 12 60 x6397_3) 12 61 x6743_4) lv (u2 fa 12 59 w6743_a_12_59) la) H := hP
                        have hD : va_D A (WM h g ca (u2 (u2 iv 12 60 x6397_3) 12 61 x6743_4) lv (u2 fa 12 59 w6743_a_12_59) la) := hD
                        obtain ⟨v6747, ev6747⟩ : ∃ y : Int32, y = x6397_3 + 1 := ⟨_, rfl⟩
                        have tv6747 := z_add ev6747 rfl (by decide : (1 : Int32).toInt = 1) (by omega) (by omega)
                        refine lv_iinc (v := v6747) (lv' := [(3, .int v6747), (5, .int x6743_5), (4, .int x6743_4), (2, .int r2806), (0, .ref h), (1, .int mm)]) hx hb dX12_findOrder_150 hl (k := 2) rfl (by rw [ev6747]; rfl) (by decide) rfl (fun ls hl => ?_)
                        refine lv_goto (tgt := 21) hx hb dX12_findOrder_153 (by decide) ?_
                        exact ih6398 v6747 x6397_3 x6743_4 w6743_a_12_59 ⟨by omega, by omega⟩ hw6743_a_12_59 (by omega) _ _ ls hP hD hS (lv_sub hl [0, 3, 4, 5] rfl)
                      · have fc6746 := z_nlt (rfl : (w6397_i_12_60).toInt = _) (by decide : (0 : Int32).toInt = 0) c6746
                        refine lv_iload hx hb dX12_findOrder_130 (lv_at hl 1 rfl) ?_
                        refine lv_aload_n hx hb dX12_findOrder_132 rfl (lv_at hl 4 rfl) ?_
                        refine gM_12_61 hx hb ht hown hK hP m_1200 (v := w6397_i_12_61) rfl dX12_findOrder_133 ?_
                        refine lv_icmp_ge (tgt := 150) hx hb dX12_findOrder_136 (by decide) (fun c6748 => ?_) (fun c6748 => ?_)
                        · have fc6748 := z_le (rfl : (w6397_i_12_61).toInt = _) (rfl : (x6743_4).toInt = _) c6748
                          obtain ⟨v6749, ev6749⟩ : ∃ y : Int32, y = x6397_3 + 1 := ⟨_, rfl⟩
                          have tv6749 := z_add ev6749 rfl (by decide : (1 : Int32).toInt = 1) (by omega) (by omega)
                          refine lv_iinc (v := v6749) (lv' := [(3, .int v6749), (5, .int x6743_5), (4, .int x6743_4), (2, .int r2806), (0, .ref h), (1, .int mm)]) hx hb dX12_findOrder_150 hl (k := 2) rfl (by rw [ev6749]; rfl) (by decide) rfl (fun ls hl => ?_)
                          refine lv_goto (tgt := 21) hx hb dX12_findOrder_153 (by decide) ?_
                          exact ih6398 v6749 w6397_i_12_60 w6397_i_12_61 w6743_a_12_59 ⟨by omega, by omega⟩ hw6743_a_12_59 (by omega) _ _ ls hP hD hS (lv_sub hl [0, 3, 4, 5] rfl)
                        · have fc6748 := z_nle (rfl : (w6397_i_12_61).toInt = _) (rfl : (x6743_4).toInt = _) c6748
                          refine lv_aload_n hx hb dX12_findOrder_139 rfl (lv_at hl 4 rfl) ?_
                          refine lv_iload_n hx hb dX12_findOrder_140 rfl (lv_at hl 2 rfl) ?_
                          refine pM_12_60 (v := x6397_3) hx hb ht hown hK hP hD hS m_1199 dX12_findOrder_141 (fun H locs hP hD hS => ?_)
                          have hP : va_P (dC, dI) classes (WM h g ca (u2 (u2 iv 12 60 x6397_3) 12 61 w6397_i_12_61) lv (u2 fa 12 59 w6743_a_12_59) la) H := hP
                          have hD : va_D A (WM h g ca (u2 (u2 iv 12 60 x6397_3) 12 61 w6397_i_12_61) lv (u2 fa 12 59 w6743_a_12_59) la) := hD
                          refine lv_aload_n hx hb dX12_findOrder_144 rfl (lv_at hl 4 rfl) ?_
                          refine lv_iload hx hb dX12_findOrder_145 (lv_at hl 1 rfl) ?_
                          refine pM_12_61 (v := x6743_4) hx hb ht hown hK hP hD hS m_1200 dX12_findOrder_147 (fun H locs hP hD hS => ?_)
                          have hP : va_P (dC, dI) classes (WM h g ca (u2 (u2 iv 12 60 x6397_3) 12 61 x6743_4) lv (u2 fa 12 59 w6743_a_12_59) la) H := hP
                          have hD : va_D A (WM h g ca (u2 (u2 iv 12 60 x6397_3) 12 61 x6743_4) lv (u2 fa 12 59 w6743_a_12_59) la) := hD
                          obtain ⟨v6750, ev6750⟩ : ∃ y : Int32, y = x6397_3 + 1 := ⟨_, rfl⟩
                          have tv6750 := z_add ev6750 rfl (by decide : (1 : Int32).toInt = 1) (by omega) (by omega)
                          refine lv_iinc (v := v6750) (lv' := [(3, .int v6750), (5, .int x6743_5), (4, .int x6743_4), (2, .int r2806), (0, .ref h), (1, .int mm)]) hx hb dX12_findOrder_150 hl (k := 2) rfl (by rw [ev6750]; rfl) (by decide) rfl (fun ls hl => ?_)
                          refine lv_goto (tgt := 21) hx hb dX12_findOrder_153 (by decide) ?_
                          exact ih6398 v6750 x6397_3 x6743_4 w6743_a_12_59 ⟨by omega, by omega⟩ hw6743_a_12_59 (by omega) _ _ ls hP hD hS (lv_sub hl [0, 3, 4, 5] rfl)
                    · have fc6745 := z_nle (rfl : ((iv 12 57)).toInt = _) (rfl : (x6743_5).toInt = _) c6745
                      refine lv_aload_n hx hb dX12_findOrder_64 rfl (lv_at hl 4 rfl) ?_
                      refine lv_iload_n hx hb dX12_findOrder_65 rfl (lv_at hl 2 rfl) ?_
                      refine lv_iload_n hx hb dX12_findOrder_66 rfl (lv_at hl 5 rfl) ?_
                      refine lv_iload hx hb dX12_findOrder_67 (lv_at hl 0 rfl) ?_
                      refine vp_callSi (W.runV (As := [.int x6397_3, .int mm, .int x6743_5]) (rest := []) ⟨hx, hb, hml, hown, ht⟩ (c_X12_ovenOf_0 l dC dI h g ca (u2 (u2 iv 12 60 w6397_i_12_60) 12 61 w6397_i_12_61) lv (u2 fa 12 59 w6743_a_12_59) la (IX_a (c := 12) (k := 59) (IX_i (c := 12) (k := 61) (IX_i (c := 12) (k := 60) hI (full_i _)) (full_i _)) hw6743_a_12_59) x6397_3 mm x6743_5 (show 1 ≤ ((iv 12 57) : Int32).toInt ∧ ((iv 12 57) : Int32).toInt ≤ 8 from ⟨by omega, by omega⟩) ⟨by omega, by omega⟩ ⟨by omega, by omega⟩ ⟨by omega, by omega⟩ (show (x6743_5 : Int32).toInt + 1 ≤ ((iv 12 57) : Int32).toInt from by omega)) (kV 3 ht m_1652 m_1654 m_70 m_89 m_1655 rfl rfl hd_X12_ovenOf_v ⟨Nat.le_of_ble_eq_true rfl, Nat.le_of_ble_eq_true rfl⟩) (vR hP hK (rM_12 hK hP)) rfl rfl hl.1 rfl (lv_room (Nat.le_of_ble_eq_true rfl)) dX12_findOrder_69 ⟨Nat.le_of_ble_eq_true rfl, Nat.le_of_ble_eq_true rfl⟩) (fun r6751 hr6751 => ?_)
                      refine lv_istore (lv' := [(6, .int r6751), (5, .int x6743_5), (4, .int x6743_4), (3, .int x6397_3), (2, .int r2806), (0, .ref h), (1, .int mm)]) hx hb dX12_findOrder_72 hl (by decide) rfl (fun ls hl => ?_)
                      refine lv_aload_n hx hb dX12_findOrder_74 rfl (lv_at hl 5 rfl) ?_
                      refine gM_12_59 hx hb ht hown hK hP m_1198 dX12_findOrder_75 ?_
                      refine lv_iload hx hb dX12_findOrder_78 (lv_at hl 0 rfl) ?_
                      refine lv_dup2_11 hx hb dX12_findOrder_80 rfl rfl ?_
                      refine lM_12_59 hx hb hK hP (f := w6743_a_12_59) rfl (vp_in_iff.mpr ⟨by omega, by omega⟩) dX12_findOrder_81 ?_
                      refine lv_topi (fun v6752 ev6752 => ?_)
                      refine lv_aload_n hx hb dX12_findOrder_82 rfl (lv_at hl 5 rfl) ?_
                      refine gM_12_58 hx hb ht hown hK hP m_1197 dX12_findOrder_83 ?_
                      refine lv_iload hx hb dX12_findOrder_86 (lv_at hl 1 rfl) ?_
                      refine lM_12_58 hx hb hK hP (f := (fa 12 58)) rfl (vp_in_iff.mpr ⟨by omega, by omega⟩) dX12_findOrder_88 ?_
                      refine lv_topi (fun v6753 ev6753 => ?_)
                      refine lv_iadd hx hb dX12_findOrder_89 ?_
                      refine lv_topi (fun v6754 ev6754 => ?_)
                      refine tM_12_59 hx hb hK hP hD hS (f0 := w6743_a_12_59) rfl (i := r6751) (x := v6754) (vp_in_iff.mpr ⟨by omega, by omega⟩) dX12_findOrder_90 (fun f6755 ef6755 H locs hP hD hS => ?_)
                      have hf6755 : ∀ j, inb (bA 12 59 j) (f6755 j) := fun j => full_i _
                      have hP : va_P (dC, dI) classes (WM h g ca (u2 (u2 iv 12 60 w6397_i_12_60) 12 61 w6397_i_12_61) lv (u2 fa 12 59 f6755) la) H := hP
                      have hD : va_D A (WM h g ca (u2 (u2 iv 12 60 w6397_i_12_60) 12 61 w6397_i_12_61) lv (u2 fa 12 59 f6755) la) := hD
                      refine lv_aload_n hx hb dX12_findOrder_91 rfl (lv_at hl 5 rfl) ?_
                      refine gM_12_59 hx hb ht hown hK hP m_1198 dX12_findOrder_92 ?_
                      refine lv_iload hx hb dX12_findOrder_95 (lv_at hl 0 rfl) ?_
                      refine lM_12_59 hx hb hK hP (f := f6755) rfl (vp_in_iff.mpr ⟨by omega, by omega⟩) dX12_findOrder_97 ?_
                      refine lv_topi (fun v6756 ev6756 => ?_)
                      refine lv_iload hx hb dX12_findOrder_98 (lv_at hl 2 rfl) ?_
                      refine lv_icmp_le (tgt := 113) hx hb dX12_findOrder_100 (by decide) (fun c6757 => ?_) (fun c6757 => ?_)
                      · have fc6757 := z_le (rfl : (v6756).toInt = _) (rfl : (x6743_4).toInt = _) c6757
                        refine lv_iload hx hb dX12_findOrder_113 (lv_at hl 2 rfl) ?_
                        refine lv_istore (lv' := [(4, .int x6743_4), (6, .int r6751), (5, .int x6743_5), (3, .int x6397_3), (2, .int r2806), (0, .ref h), (1, .int mm)]) hx hb dX12_findOrder_115 hl (by decide) rfl (fun ls hl => ?_)
                        obtain ⟨v6758, ev6758⟩ : ∃ y : Int32, y = x6743_5 + 1 := ⟨_, rfl⟩
                        have tv6758 := z_add ev6758 rfl (by decide : (1 : Int32).toInt = 1) (by omega) (by omega)
                        refine lv_iinc (v := v6758) (lv' := [(5, .int v6758), (4, .int x6743_4), (6, .int r6751), (3, .int x6397_3), (2, .int r2806), (0, .ref h), (1, .int mm)]) hx hb dX12_findOrder_117 hl (k := 2) rfl (by rw [ev6758]; rfl) (by decide) rfl (fun ls hl => ?_)
                        refine lv_goto (tgt := 55) hx hb dX12_findOrder_120 (by decide) ?_
                        exact ih6744 v6758 x6743_4 f6755 ⟨by omega, by omega⟩ (by omega) hf6755 (by omega) _ _ ls hP hD hS (lv_sub hl [0, 1, 3, 4, 5, 6] rfl)
                      · have fc6757 := z_nle (rfl : (v6756).toInt = _) (rfl : (x6743_4).toInt = _) c6757
                        refine lv_aload_n hx hb dX12_findOrder_103 rfl (lv_at hl 5 rfl) ?_
                        refine gM_12_59 hx hb ht hown hK hP m_1198 dX12_findOrder_104 ?_
                        refine lv_iload hx hb dX12_findOrder_107 (lv_at hl 0 rfl) ?_
                        refine lM_12_59 hx hb hK hP (f := f6755) rfl (vp_in_iff.mpr ⟨by omega, by omega⟩) dX12_findOrder_109 ?_
                        refine lv_topi (fun v6759 ev6759 => ?_)
                        obtain rfl : v6756 = v6759 := ev6756.trans ev6759.symm
                        refine lv_goto (tgt := 115) hx hb dX12_findOrder_110 (by decide) ?_
                        refine lv_istore (lv' := [(4, .int v6756), (6, .int r6751), (5, .int x6743_5), (3, .int x6397_3), (2, .int r2806), (0, .ref h), (1, .int mm)]) hx hb dX12_findOrder_115 hl (by decide) rfl (fun ls hl => ?_)
                        obtain ⟨v6760, ev6760⟩ : ∃ y : Int32, y = x6743_5 + 1 := ⟨_, rfl⟩
                        have tv6760 := z_add ev6760 rfl (by decide : (1 : Int32).toInt = 1) (by omega) (by omega)
                        refine lv_iinc (v := v6760) (lv' := [(5, .int v6760), (4, .int v6756), (6, .int r6751), (3, .int x6397_3), (2, .int r2806), (0, .ref h), (1, .int mm)]) hx hb dX12_findOrder_117 hl (k := 2) rfl (by rw [ev6760]; rfl) (by decide) rfl (fun ls hl => ?_)
                        refine lv_goto (tgt := 55) hx hb dX12_findOrder_120 (by decide) ?_
                        exact ih6744 v6760 v6756 f6755 ⟨by omega, by omega⟩ (by omega) hf6755 (by omega) _ _ ls hP hD hS (lv_sub hl [0, 1, 3, 4, 5, 6] rfl)
                exact lp6744 9 0 0 w6587_a_12_59 ⟨by decide, by decide⟩ (by decide) hw6587_a_12_59 (by first | decide | omega) _ _ ls hP hD hS (lv_sub hl [0, 1, 2, 3, 4, 5] rfl)
              · have fc6589 := z_nle (by decide : (3 : Int32).toInt = 3) (rfl : (x6587_4).toInt = _) c6589
                refine lv_aload_n hx hb dX12_findOrder_35 rfl (lv_at hl 3 rfl) ?_
                refine gM_12_59 hx hb ht hown hK hP m_1198 dX12_findOrder_36 ?_
                refine lv_iload hx hb dX12_findOrder_39 (lv_at hl 0 rfl) ?_
                refine lv_iconst (v := 0) hx hb dX12_findOrder_41 (by decide) ?_
                refine tM_12_59 hx hb hK hP hD hS (f0 := w6587_a_12_59) rfl (i := x6587_4) (x := 0) (vp_in_iff.mpr ⟨by omega, by omega⟩) dX12_findOrder_42 (fun f6761 ef6761 H locs hP hD hS => ?_)
                have hf6761 : ∀ j, inb (bA 12 59 j) (f6761 j) := fun j => full_i _
                have hP : va_P (dC, dI) classes (WM h g ca (u2 (u2 iv 12 60 w6397_i_12_60) 12 61 w6397_i_12_61) lv (u2 fa 12 59 f6761) la) H := hP
                have hD : va_D A (WM h g ca (u2 (u2 iv 12 60 w6397_i_12_60) 12 61 w6397_i_12_61) lv (u2 fa 12 59 f6761) la) := hD
                obtain ⟨v6762, ev6762⟩ : ∃ y : Int32, y = x6587_4 + 1 := ⟨_, rfl⟩
                have tv6762 := z_add ev6762 rfl (by decide : (1 : Int32).toInt = 1) (by omega) (by omega)
                refine lv_iinc (v := v6762) (lv' := [(4, .int v6762), (3, .int x6397_3), (2, .int r2806), (0, .ref h), (1, .int mm)]) hx hb dX12_findOrder_43 hl (k := 0) rfl (by rw [ev6762]; rfl) (by decide) rfl (fun ls hl => ?_)
                refine lv_goto (tgt := 29) hx hb dX12_findOrder_46 (by decide) ?_
                exact ih6588 v6762 f6761 ⟨by omega, by omega⟩ hf6761 (by omega) _ _ ls hP hD hS (lv_sub hl [0, 1, 2, 3, 4] rfl)
          exact lp6588 4 0 w6397_a_12_59 ⟨by decide, by decide⟩ hw6397_a_12_59 (by first | decide | omega) _ _ ls hP hD hS (lv_sub hl [0, 1, 2, 3, 4] rfl)
    exact lp6398 10 0 (-1) 0 (fa 12 59) ⟨by decide, by decide⟩ (hI.2 12 59) (by first | decide | omega) _ _ ls hP hD hS (lv_sub hl [0, 1, 2, 3] rfl)
  · have hq8 : (iv 12 57) = 3 := z_of (by decide) q1
    rw [hq8]
    have : (3 : Int32).toInt = 3 := by decide
    refine vp_callSi (W.runS (As := [.int mm, .int 3]) (rest := []) ⟨hx, hb, hml, hown, ht⟩ (c_X12_power_3 l dC dI mm ⟨by omega, by omega⟩) (kS 2 ht m_1649 m_1650 m_89 m_1651 rfl rfl hd_X12_power_v ⟨Nat.le_of_ble_eq_true rfl, Nat.le_of_ble_eq_true rfl⟩) (sR noP (hK.sub (tys' := []) [] rfl)) rfl rfl hl.1 rfl (lv_room (Nat.le_of_ble_eq_true rfl)) dX12_findOrder_15 ⟨Nat.le_of_ble_eq_true rfl, Nat.le_of_ble_eq_true rfl⟩) (fun r6763 hr6763 => ?_)
    refine lv_istore_n (lv' := [(2, .int r6763), (0, .ref h), (1, .int mm)]) hx hb dX12_findOrder_18 rfl hl (by decide) rfl (fun ls hl => ?_)
    refine lv_iconst (v := 0) hx hb dX12_findOrder_19 (by decide) ?_
    refine lv_istore_n (lv' := [(3, .int 0), (2, .int r6763), (0, .ref h), (1, .int mm)]) hx hb dX12_findOrder_20 rfl hl (by decide) rfl (fun ls hl => ?_)
    have lp12545 : ∀ (nn12545 : Nat) (x12544_3 : Int32) (w12544_i_12_60 : Int32) (w12544_i_12_61 : Int32) (w12544_a_12_59 : Nat → Int32), 0 ≤ x12544_3.toInt ∧ x12544_3.toInt ≤ 29 → (∀ j, inb (bA 12 59 j) (w12544_a_12_59 j)) → 29 - x12544_3.toInt < (nn12545 : Int) → ∀ (H : Heap) (locs : List Loc), ∀ (ls : Array Slot), va_P (dC, dI) classes (WM h g ca (u2 (u2 iv 12 60 w12544_i_12_60) 12 61 w12544_i_12_61) lv (u2 fa 12 59 w12544_a_12_59) la) H → va_D A (WM h g ca (u2 (u2 iv 12 60 w12544_i_12_60) 12 61 w12544_i_12_61) lv (u2 fa 12 59 w12544_a_12_59) la) → va_S A s.heap H locs → lv_has ls 7 [(3, .int x12544_3), (2, .int r6763), (0, .ref h), (1, .int mm)] → W p l e ({ frames := 2, cells := 0, slots := 0, locals := 46 } : Room) s m ([.ref h, .int mm] : List Value).toArray below meth c H locs 0 0 (MQ below (va_Qv (fun (u : SS) => ∃ (na_12_59 : Nat → Int32) (ni_12_60 : Int32) (ni_12_61 : Int32), u = ((u2 (u2 iv 12 60 ni_12_60) 12 61 ni_12_61), lv, (u2 fa 12 59 na_12_59), la)) (bM (dC, dI) h g ca A) A) ([.ref h, .int mm] : List Value).toArray s 0 0 A) (F0 m 21 ls []) := by
      intro nn12545
      induction nn12545 with
      | zero => intro x12544_3 w12544_i_12_60 w12544_i_12_61 w12544_a_12_59 hx12544_3 hw12544_a_12_59 hm12545; exfalso; omega
      | succ nn12545 ih12545 =>
        intro x12544_3 w12544_i_12_60 w12544_i_12_61 w12544_a_12_59 hx12544_3 hw12544_a_12_59 hm12545 H locs ls hP hD hS hl
        refine lv_iload_n hx hb dX12_findOrder_21 rfl (lv_at hl 0 rfl) ?_
        refine lv_iload_n hx hb dX12_findOrder_22 rfl (lv_at hl 1 rfl) ?_
        refine lv_icmp_ge (tgt := 156) hx hb dX12_findOrder_23 (by decide) (fun c12546 => ?_) (fun c12546 => ?_)
        · have fc12546 := z_le (rfl : (r6763).toInt = _) (rfl : (x12544_3).toInt = _) c12546
          have hP9 : va_P (dC, dI) classes (WM h g ca (u2 (u2 iv 12 60 w12544_i_12_60) 12 61 w12544_i_12_61) lv (u2 fa 12 59 w12544_a_12_59) la) H := hP
          have hD9 : va_D A (WM h g ca (u2 (u2 iv 12 60 w12544_i_12_60) 12 61 w12544_i_12_61) lv (u2 fa 12 59 w12544_a_12_59) la) := hD
          exact W.vret hx hb hr (fun t ht9 hW => ⟨⟨((u2 (u2 iv 12 60 w12544_i_12_60) 12 61 w12544_i_12_61), lv, (u2 fa 12 59 w12544_a_12_59), la), rfl, ⟨w12544_a_12_59, w12544_i_12_60, w12544_i_12_61, rfl⟩, by rw [ht9]; exact hP9, hD9⟩, hS.F ht9⟩) hS.2.2 dX12_findOrder_156
        · have fc12546 := z_nle (rfl : (r6763).toInt = _) (rfl : (x12544_3).toInt = _) c12546
          refine lv_iconst (v := 0) hx hb dX12_findOrder_26 (by decide) ?_
          refine lv_istore (lv' := [(4, .int 0), (3, .int x12544_3), (2, .int r6763), (0, .ref h), (1, .int mm)]) hx hb dX12_findOrder_27 hl (by decide) rfl (fun ls hl => ?_)
          have lp12735 : ∀ (nn12735 : Nat) (x12734_4 : Int32) (w12734_a_12_59 : Nat → Int32), 0 ≤ x12734_4.toInt ∧ x12734_4.toInt ≤ 3 → (∀ j, inb (bA 12 59 j) (w12734_a_12_59 j)) → 3 - x12734_4.toInt < (nn12735 : Int) → ∀ (H : Heap) (locs : List Loc), ∀ (ls : Array Slot), va_P (dC, dI) classes (WM h g ca (u2 (u2 iv 12 60 w12544_i_12_60) 12 61 w12544_i_12_61) lv (u2 fa 12 59 w12734_a_12_59) la) H → va_D A (WM h g ca (u2 (u2 iv 12 60 w12544_i_12_60) 12 61 w12544_i_12_61) lv (u2 fa 12 59 w12734_a_12_59) la) → va_S A s.heap H locs → lv_has ls 7 [(4, .int x12734_4), (3, .int x12544_3), (2, .int r6763), (0, .ref h), (1, .int mm)] → W p l e ({ frames := 2, cells := 0, slots := 0, locals := 46 } : Room) s m ([.ref h, .int mm] : List Value).toArray below meth c H locs 0 0 (MQ below (va_Qv (fun (u : SS) => ∃ (na_12_59 : Nat → Int32) (ni_12_60 : Int32) (ni_12_61 : Int32), u = ((u2 (u2 iv 12 60 ni_12_60) 12 61 ni_12_61), lv, (u2 fa 12 59 na_12_59), la)) (bM (dC, dI) h g ca A) A) ([.ref h, .int mm] : List Value).toArray s 0 0 A) (F0 m 29 ls []) := by
            intro nn12735
            induction nn12735 with
            | zero => intro x12734_4 w12734_a_12_59 hx12734_4 hw12734_a_12_59 hm12735; exfalso; omega
            | succ nn12735 ih12735 =>
              intro x12734_4 w12734_a_12_59 hx12734_4 hw12734_a_12_59 hm12735 H locs ls hP hD hS hl
              refine lv_iload hx hb dX12_findOrder_29 (lv_at hl 0 rfl) ?_
              refine lv_iconst (v := 3) hx hb dX12_findOrder_31 (by decide) ?_
              refine lv_icmp_ge (tgt := 49) hx hb dX12_findOrder_32 (by decide) (fun c12736 => ?_) (fun c12736 => ?_)
              · have fc12736 := z_le (by decide : (3 : Int32).toInt = 3) (rfl : (x12734_4).toInt = _) c12736
                refine lv_iconst (v := 0) hx hb dX12_findOrder_49 (by decide) ?_
                refine lv_istore (lv' := [(4, .int 0), (3, .int x12544_3), (2, .int r6763), (0, .ref h), (1, .int mm)]) hx hb dX12_findOrder_50 hl (by decide) rfl (fun ls hl => ?_)
                refine lv_iconst (v := 0) hx hb dX12_findOrder_52 (by decide) ?_
                refine lv_istore (lv' := [(5, .int 0), (4, .int 0), (3, .int x12544_3), (2, .int r6763), (0, .ref h), (1, .int mm)]) hx hb dX12_findOrder_53 hl (by decide) rfl (fun ls hl => ?_)
                have lp12891 : ∀ (nn12891 : Nat) (x12890_5 : Int32) (x12890_4 : Int32) (w12890_a_12_59 : Nat → Int32), 0 ≤ x12890_5.toInt ∧ x12890_5.toInt ≤ 8 → 0 ≤ x12890_4.toInt → (∀ j, inb (bA 12 59 j) (w12890_a_12_59 j)) → 8 - x12890_5.toInt < (nn12891 : Int) → ∀ (H : Heap) (locs : List Loc), ∀ (ls : Array Slot), va_P (dC, dI) classes (WM h g ca (u2 (u2 iv 12 60 w12544_i_12_60) 12 61 w12544_i_12_61) lv (u2 fa 12 59 w12890_a_12_59) la) H → va_D A (WM h g ca (u2 (u2 iv 12 60 w12544_i_12_60) 12 61 w12544_i_12_61) lv (u2 fa 12 59 w12890_a_12_59) la) → va_S A s.heap H locs → lv_has ls 7 [(5, .int x12890_5), (4, .int x12890_4), (3, .int x12544_3), (2, .int r6763), (0, .ref h), (1, .int mm)] → W p l e ({ frames := 2, cells := 0, slots := 0, locals := 46 } : Room) s m ([.ref h, .int mm] : List Value).toArray below meth c H locs 0 0 (MQ below (va_Qv (fun (u : SS) => ∃ (na_12_59 : Nat → Int32) (ni_12_60 : Int32) (ni_12_61 : Int32), u = ((u2 (u2 iv 12 60 ni_12_60) 12 61 ni_12_61), lv, (u2 fa 12 59 na_12_59), la)) (bM (dC, dI) h g ca A) A) ([.ref h, .int mm] : List Value).toArray s 0 0 A) (F0 m 55 ls []) := by
                  intro nn12891
                  induction nn12891 with
                  | zero => intro x12890_5 x12890_4 w12890_a_12_59 hx12890_5 hx12890_4 hw12890_a_12_59 hm12891; exfalso; omega
                  | succ nn12891 ih12891 =>
                    intro x12890_5 x12890_4 w12890_a_12_59 hx12890_5 hx12890_4 hw12890_a_12_59 hm12891 H locs ls hP hD hS hl
                    refine lv_iload hx hb dX12_findOrder_55 (lv_at hl 0 rfl) ?_
                    refine lv_aload_n hx hb dX12_findOrder_57 rfl (lv_at hl 4 rfl) ?_
                    refine gM_12_57 hx hb ht hown hK hP m_1196 (v := (iv 12 57)) rfl dX12_findOrder_58 ?_
                    refine lv_icmp_ge (tgt := 123) hx hb dX12_findOrder_61 (by decide) (fun c12892 => ?_) (fun c12892 => ?_)
                    · have fc12892 := z_le (rfl : ((iv 12 57)).toInt = _) (rfl : (x12890_5).toInt = _) c12892
                      refine lv_aload_n hx hb dX12_findOrder_123 rfl (lv_at hl 4 rfl) ?_
                      refine gM_12_60 hx hb ht hown hK hP m_1199 (v := w12544_i_12_60) rfl dX12_findOrder_124 ?_
                      refine lv_if_lt (tgt := 139) hx hb dX12_findOrder_127 (by decide) (fun c12893 => ?_) (fun c12893 => ?_)
                      · have fc12893 := z_lt (rfl : (w12544_i_12_60).toInt = _) (by decide : (0 : Int32).toInt = 0) c12893
                        refine lv_aload_n hx hb dX12_findOrder_139 rfl (lv_at hl 4 rfl) ?_
                        refine lv_iload_n hx hb dX12_findOrder_140 rfl (lv_at hl 2 rfl) ?_
                        refine pM_12_60 (v := x12544_3) hx hb ht hown hK hP hD hS m_1199 dX12_findOrder_141 (fun H locs hP hD hS => ?_)
                        have hP : va_P (dC, dI) classes (WM h g ca (u2 (u2 iv 12 60 x12544_3) 12 61 w12544_i_12_61) lv (u2 fa 12 59 w12890_a_12_59) la) H := hP
                        have hD : va_D A (WM h g ca (u2 (u2 iv 12 60 x12544_3) 12 61 w12544_i_12_61) lv (u2 fa 12 59 w12890_a_12_59) la) := hD
                        refine lv_aload_n hx hb dX12_findOrder_144 rfl (lv_at hl 4 rfl) ?_
                        refine lv_iload hx hb dX12_findOrder_145 (lv_at hl 1 rfl) ?_
                        refine pM_12_61 (v := x12890_4) hx hb ht hown hK hP hD hS m_1200 dX12_findOrder_147 (fun H locs hP hD hS => ?_)
                        have hP : va_P (dC, dI) classes (WM h g ca (u2 (u2 iv 12 60 x12544_3) 12 61 x12890_4) lv (u2 fa 12 59 w12890_a_12_59) la) H := hP
                        have hD : va_D A (WM h g ca (u2 (u2 iv 12 60 x12544_3) 12 61 x12890_4) lv (u2 fa 12 59 w12890_a_12_59) la) := hD
                        obtain ⟨v12894, ev12894⟩ : ∃ y : Int32, y = x12544_3 + 1 := ⟨_, rfl⟩
                        have tv12894 := z_add ev12894 rfl (by decide : (1 : Int32).toInt = 1) (by omega) (by omega)
                        refine lv_iinc (v := v12894) (lv' := [(3, .int v12894), (5, .int x12890_5), (4, .int x12890_4), (2, .int r6763), (0, .ref h), (1, .int mm)]) hx hb dX12_findOrder_150 hl (k := 2) rfl (by rw [ev12894]; rfl) (by decide) rfl (fun ls hl => ?_)
                        refine lv_goto (tgt := 21) hx hb dX12_findOrder_153 (by decide) ?_
                        exact ih12545 v12894 x12544_3 x12890_4 w12890_a_12_59 ⟨by omega, by omega⟩ hw12890_a_12_59 (by omega) _ _ ls hP hD hS (lv_sub hl [0, 3, 4, 5] rfl)
                      · have fc12893 := z_nlt (rfl : (w12544_i_12_60).toInt = _) (by decide : (0 : Int32).toInt = 0) c12893
                        refine lv_iload hx hb dX12_findOrder_130 (lv_at hl 1 rfl) ?_
                        refine lv_aload_n hx hb dX12_findOrder_132 rfl (lv_at hl 4 rfl) ?_
                        refine gM_12_61 hx hb ht hown hK hP m_1200 (v := w12544_i_12_61) rfl dX12_findOrder_133 ?_
                        refine lv_icmp_ge (tgt := 150) hx hb dX12_findOrder_136 (by decide) (fun c12895 => ?_) (fun c12895 => ?_)
                        · have fc12895 := z_le (rfl : (w12544_i_12_61).toInt = _) (rfl : (x12890_4).toInt = _) c12895
                          obtain ⟨v12896, ev12896⟩ : ∃ y : Int32, y = x12544_3 + 1 := ⟨_, rfl⟩
                          have tv12896 := z_add ev12896 rfl (by decide : (1 : Int32).toInt = 1) (by omega) (by omega)
                          refine lv_iinc (v := v12896) (lv' := [(3, .int v12896), (5, .int x12890_5), (4, .int x12890_4), (2, .int r6763), (0, .ref h), (1, .int mm)]) hx hb dX12_findOrder_150 hl (k := 2) rfl (by rw [ev12896]; rfl) (by decide) rfl (fun ls hl => ?_)
                          refine lv_goto (tgt := 21) hx hb dX12_findOrder_153 (by decide) ?_
                          exact ih12545 v12896 w12544_i_12_60 w12544_i_12_61 w12890_a_12_59 ⟨by omega, by omega⟩ hw12890_a_12_59 (by omega) _ _ ls hP hD hS (lv_sub hl [0, 3, 4, 5] rfl)
                        · have fc12895 := z_nle (rfl : (w12544_i_12_61).toInt = _) (rfl : (x12890_4).toInt = _) c12895
                          refine lv_aload_n hx hb dX12_findOrder_139 rfl (lv_at hl 4 rfl) ?_
                          refine lv_iload_n hx hb dX12_findOrder_140 rfl (lv_at hl 2 rfl) ?_
                          refine pM_12_60 (v := x12544_3) hx hb ht hown hK hP hD hS m_1199 dX12_findOrder_141 (fun H locs hP hD hS => ?_)
                          have hP : va_P (dC, dI) classes (WM h g ca (u2 (u2 iv 12 60 x12544_3) 12 61 w12544_i_12_61) lv (u2 fa 12 59 w12890_a_12_59) la) H := hP
                          have hD : va_D A (WM h g ca (u2 (u2 iv 12 60 x12544_3) 12 61 w12544_i_12_61) lv (u2 fa 12 59 w12890_a_12_59) la) := hD
                          refine lv_aload_n hx hb dX12_findOrder_144 rfl (lv_at hl 4 rfl) ?_
                          refine lv_iload hx hb dX12_findOrder_145 (lv_at hl 1 rfl) ?_
                          refine pM_12_61 (v := x12890_4) hx hb ht hown hK hP hD hS m_1200 dX12_findOrder_147 (fun H locs hP hD hS => ?_)
                          have hP : va_P (dC, dI) classes (WM h g ca (u2 (u2 iv 12 60 x12544_3) 12 61 x12890_4) lv (u2 fa 12 59 w12890_a_12_59) la) H := hP
                          have hD : va_D A (WM h g ca (u2 (u2 iv 12 60 x12544_3) 12 61 x12890_4) lv (u2 fa 12 59 w12890_a_12_59) la) := hD
                          obtain ⟨v12897, ev12897⟩ : ∃ y : Int32, y = x12544_3 + 1 := ⟨_, rfl⟩
                          have tv12897 := z_add ev12897 rfl (by decide : (1 : Int32).toInt = 1) (by omega) (by omega)
                          refine lv_iinc (v := v12897) (lv' := [(3, .int v12897), (5, .int x12890_5), (4, .int x12890_4), (2, .int r6763), (0, .ref h), (1, .int mm)]) hx hb dX12_findOrder_150 hl (k := 2) rfl (by rw [ev12897]; rfl) (by decide) rfl (fun ls hl => ?_)
                          refine lv_goto (tgt := 21) hx hb dX12_findOrder_153 (by decide) ?_
                          exact ih12545 v12897 x12544_3 x12890_4 w12890_a_12_59 ⟨by omega, by omega⟩ hw12890_a_12_59 (by omega) _ _ ls hP hD hS (lv_sub hl [0, 3, 4, 5] rfl)
                    · have fc12892 := z_nle (rfl : ((iv 12 57)).toInt = _) (rfl : (x12890_5).toInt = _) c12892
                      refine lv_aload_n hx hb dX12_findOrder_64 rfl (lv_at hl 4 rfl) ?_
                      refine lv_iload_n hx hb dX12_findOrder_65 rfl (lv_at hl 2 rfl) ?_
                      refine lv_iload_n hx hb dX12_findOrder_66 rfl (lv_at hl 5 rfl) ?_
                      refine lv_iload hx hb dX12_findOrder_67 (lv_at hl 0 rfl) ?_
                      refine vp_callSi (W.runV (As := [.int x12544_3, .int mm, .int x12890_5]) (rest := []) ⟨hx, hb, hml, hown, ht⟩ (c_X12_ovenOf_0 l dC dI h g ca (u2 (u2 iv 12 60 w12544_i_12_60) 12 61 w12544_i_12_61) lv (u2 fa 12 59 w12890_a_12_59) la (IX_a (c := 12) (k := 59) (IX_i (c := 12) (k := 61) (IX_i (c := 12) (k := 60) hI (full_i _)) (full_i _)) hw12890_a_12_59) x12544_3 mm x12890_5 (show 1 ≤ ((iv 12 57) : Int32).toInt ∧ ((iv 12 57) : Int32).toInt ≤ 8 from ⟨by omega, by omega⟩) ⟨by omega, by omega⟩ ⟨by omega, by omega⟩ ⟨by omega, by omega⟩ (show (x12890_5 : Int32).toInt + 1 ≤ ((iv 12 57) : Int32).toInt from by omega)) (kV 3 ht m_1652 m_1654 m_70 m_89 m_1655 rfl rfl hd_X12_ovenOf_v ⟨Nat.le_of_ble_eq_true rfl, Nat.le_of_ble_eq_true rfl⟩) (vR hP hK (rM_12 hK hP)) rfl rfl hl.1 rfl (lv_room (Nat.le_of_ble_eq_true rfl)) dX12_findOrder_69 ⟨Nat.le_of_ble_eq_true rfl, Nat.le_of_ble_eq_true rfl⟩) (fun r12898 hr12898 => ?_)
                      refine lv_istore (lv' := [(6, .int r12898), (5, .int x12890_5), (4, .int x12890_4), (3, .int x12544_3), (2, .int r6763), (0, .ref h), (1, .int mm)]) hx hb dX12_findOrder_72 hl (by decide) rfl (fun ls hl => ?_)
                      refine lv_aload_n hx hb dX12_findOrder_74 rfl (lv_at hl 5 rfl) ?_
                      refine gM_12_59 hx hb ht hown hK hP m_1198 dX12_findOrder_75 ?_
                      refine lv_iload hx hb dX12_findOrder_78 (lv_at hl 0 rfl) ?_
                      refine lv_dup2_11 hx hb dX12_findOrder_80 rfl rfl ?_
                      refine lM_12_59 hx hb hK hP (f := w12890_a_12_59) rfl (vp_in_iff.mpr ⟨by omega, by omega⟩) dX12_findOrder_81 ?_
                      refine lv_topi (fun v12899 ev12899 => ?_)
                      refine lv_aload_n hx hb dX12_findOrder_82 rfl (lv_at hl 5 rfl) ?_
                      refine gM_12_58 hx hb ht hown hK hP m_1197 dX12_findOrder_83 ?_
                      refine lv_iload hx hb dX12_findOrder_86 (lv_at hl 1 rfl) ?_
                      refine lM_12_58 hx hb hK hP (f := (fa 12 58)) rfl (vp_in_iff.mpr ⟨by omega, by omega⟩) dX12_findOrder_88 ?_
                      refine lv_topi (fun v12900 ev12900 => ?_)
                      refine lv_iadd hx hb dX12_findOrder_89 ?_
                      refine lv_topi (fun v12901 ev12901 => ?_)
                      refine tM_12_59 hx hb hK hP hD hS (f0 := w12890_a_12_59) rfl (i := r12898) (x := v12901) (vp_in_iff.mpr ⟨by omega, by omega⟩) dX12_findOrder_90 (fun f12902 ef12902 H locs hP hD hS => ?_)
                      have hf12902 : ∀ j, inb (bA 12 59 j) (f12902 j) := fun j => full_i _
                      have hP : va_P (dC, dI) classes (WM h g ca (u2 (u2 iv 12 60 w12544_i_12_60) 12 61 w12544_i_12_61) lv (u2 fa 12 59 f12902) la) H := hP
                      have hD : va_D A (WM h g ca (u2 (u2 iv 12 60 w12544_i_12_60) 12 61 w12544_i_12_61) lv (u2 fa 12 59 f12902) la) := hD
                      refine lv_aload_n hx hb dX12_findOrder_91 rfl (lv_at hl 5 rfl) ?_
                      refine gM_12_59 hx hb ht hown hK hP m_1198 dX12_findOrder_92 ?_
                      refine lv_iload hx hb dX12_findOrder_95 (lv_at hl 0 rfl) ?_
                      refine lM_12_59 hx hb hK hP (f := f12902) rfl (vp_in_iff.mpr ⟨by omega, by omega⟩) dX12_findOrder_97 ?_
                      refine lv_topi (fun v12903 ev12903 => ?_)
                      refine lv_iload hx hb dX12_findOrder_98 (lv_at hl 2 rfl) ?_
                      refine lv_icmp_le (tgt := 113) hx hb dX12_findOrder_100 (by decide) (fun c12904 => ?_) (fun c12904 => ?_)
                      · have fc12904 := z_le (rfl : (v12903).toInt = _) (rfl : (x12890_4).toInt = _) c12904
                        refine lv_iload hx hb dX12_findOrder_113 (lv_at hl 2 rfl) ?_
                        refine lv_istore (lv' := [(4, .int x12890_4), (6, .int r12898), (5, .int x12890_5), (3, .int x12544_3), (2, .int r6763), (0, .ref h), (1, .int mm)]) hx hb dX12_findOrder_115 hl (by decide) rfl (fun ls hl => ?_)
                        obtain ⟨v12905, ev12905⟩ : ∃ y : Int32, y = x12890_5 + 1 := ⟨_, rfl⟩
                        have tv12905 := z_add ev12905 rfl (by decide : (1 : Int32).toInt = 1) (by omega) (by omega)
                        refine lv_iinc (v := v12905) (lv' := [(5, .int v12905), (4, .int x12890_4), (6, .int r12898), (3, .int x12544_3), (2, .int r6763), (0, .ref h), (1, .int mm)]) hx hb dX12_findOrder_117 hl (k := 2) rfl (by rw [ev12905]; rfl) (by decide) rfl (fun ls hl => ?_)
                        refine lv_goto (tgt := 55) hx hb dX12_findOrder_120 (by decide) ?_
                        exact ih12891 v12905 x12890_4 f12902 ⟨by omega, by omega⟩ (by omega) hf12902 (by omega) _ _ ls hP hD hS (lv_sub hl [0, 1, 3, 4, 5, 6] rfl)
                      · have fc12904 := z_nle (rfl : (v12903).toInt = _) (rfl : (x12890_4).toInt = _) c12904
                        refine lv_aload_n hx hb dX12_findOrder_103 rfl (lv_at hl 5 rfl) ?_
                        refine gM_12_59 hx hb ht hown hK hP m_1198 dX12_findOrder_104 ?_
                        refine lv_iload hx hb dX12_findOrder_107 (lv_at hl 0 rfl) ?_
                        refine lM_12_59 hx hb hK hP (f := f12902) rfl (vp_in_iff.mpr ⟨by omega, by omega⟩) dX12_findOrder_109 ?_
                        refine lv_topi (fun v12906 ev12906 => ?_)
                        obtain rfl : v12903 = v12906 := ev12903.trans ev12906.symm
                        refine lv_goto (tgt := 115) hx hb dX12_findOrder_110 (by decide) ?_
                        refine lv_istore (lv' := [(4, .int v12903), (6, .int r12898), (5, .int x12890_5), (3, .int x12544_3), (2, .int r6763), (0, .ref h), (1, .int mm)]) hx hb dX12_findOrder_115 hl (by decide) rfl (fun ls hl => ?_)
                        obtain ⟨v12907, ev12907⟩ : ∃ y : Int32, y = x12890_5 + 1 := ⟨_, rfl⟩
                        have tv12907 := z_add ev12907 rfl (by decide : (1 : Int32).toInt = 1) (by omega) (by omega)
                        refine lv_iinc (v := v12907) (lv' := [(5, .int v12907), (4, .int v12903), (6, .int r12898), (3, .int x12544_3), (2, .int r6763), (0, .ref h), (1, .int mm)]) hx hb dX12_findOrder_117 hl (k := 2) rfl (by rw [ev12907]; rfl) (by decide) rfl (fun ls hl => ?_)
                        refine lv_goto (tgt := 55) hx hb dX12_findOrder_120 (by decide) ?_
                        exact ih12891 v12907 v12903 f12902 ⟨by omega, by omega⟩ (by omega) hf12902 (by omega) _ _ ls hP hD hS (lv_sub hl [0, 1, 3, 4, 5, 6] rfl)
                exact lp12891 9 0 0 w12734_a_12_59 ⟨by decide, by decide⟩ (by decide) hw12734_a_12_59 (by first | decide | omega) _ _ ls hP hD hS (lv_sub hl [0, 1, 2, 3, 4, 5] rfl)
              · have fc12736 := z_nle (by decide : (3 : Int32).toInt = 3) (rfl : (x12734_4).toInt = _) c12736
                refine lv_aload_n hx hb dX12_findOrder_35 rfl (lv_at hl 3 rfl) ?_
                refine gM_12_59 hx hb ht hown hK hP m_1198 dX12_findOrder_36 ?_
                refine lv_iload hx hb dX12_findOrder_39 (lv_at hl 0 rfl) ?_
                refine lv_iconst (v := 0) hx hb dX12_findOrder_41 (by decide) ?_
                refine tM_12_59 hx hb hK hP hD hS (f0 := w12734_a_12_59) rfl (i := x12734_4) (x := 0) (vp_in_iff.mpr ⟨by omega, by omega⟩) dX12_findOrder_42 (fun f12908 ef12908 H locs hP hD hS => ?_)
                have hf12908 : ∀ j, inb (bA 12 59 j) (f12908 j) := fun j => full_i _
                have hP : va_P (dC, dI) classes (WM h g ca (u2 (u2 iv 12 60 w12544_i_12_60) 12 61 w12544_i_12_61) lv (u2 fa 12 59 f12908) la) H := hP
                have hD : va_D A (WM h g ca (u2 (u2 iv 12 60 w12544_i_12_60) 12 61 w12544_i_12_61) lv (u2 fa 12 59 f12908) la) := hD
                obtain ⟨v12909, ev12909⟩ : ∃ y : Int32, y = x12734_4 + 1 := ⟨_, rfl⟩
                have tv12909 := z_add ev12909 rfl (by decide : (1 : Int32).toInt = 1) (by omega) (by omega)
                refine lv_iinc (v := v12909) (lv' := [(4, .int v12909), (3, .int x12544_3), (2, .int r6763), (0, .ref h), (1, .int mm)]) hx hb dX12_findOrder_43 hl (k := 0) rfl (by rw [ev12909]; rfl) (by decide) rfl (fun ls hl => ?_)
                refine lv_goto (tgt := 29) hx hb dX12_findOrder_46 (by decide) ?_
                exact ih12735 v12909 f12908 ⟨by omega, by omega⟩ hf12908 (by omega) _ _ ls hP hD hS (lv_sub hl [0, 1, 2, 3, 4] rfl)
          exact lp12735 4 0 w12544_a_12_59 ⟨by decide, by decide⟩ hw12544_a_12_59 (by first | decide | omega) _ _ ls hP hD hS (lv_sub hl [0, 1, 2, 3, 4] rfl)
    exact lp12545 30 0 (-1) 0 (fa 12 59) ⟨by decide, by decide⟩ (hI.2 12 59) (by first | decide | omega) _ _ ls hP hD hS (lv_sub hl [0, 1, 2, 3] rfl)
  · have hq8 : (iv 12 57) = 4 := z_of (by decide) q1
    rw [hq8]
    have : (4 : Int32).toInt = 4 := by decide
    refine vp_callSi (W.runS (As := [.int mm, .int 4]) (rest := []) ⟨hx, hb, hml, hown, ht⟩ (c_X12_power_4 l dC dI mm ⟨by omega, by omega⟩) (kS 2 ht m_1649 m_1650 m_89 m_1651 rfl rfl hd_X12_power_v ⟨Nat.le_of_ble_eq_true rfl, Nat.le_of_ble_eq_true rfl⟩) (sR noP (hK.sub (tys' := []) [] rfl)) rfl rfl hl.1 rfl (lv_room (Nat.le_of_ble_eq_true rfl)) dX12_findOrder_15 ⟨Nat.le_of_ble_eq_true rfl, Nat.le_of_ble_eq_true rfl⟩) (fun r12910 hr12910 => ?_)
    refine lv_istore_n (lv' := [(2, .int r12910), (0, .ref h), (1, .int mm)]) hx hb dX12_findOrder_18 rfl hl (by decide) rfl (fun ls hl => ?_)
    refine lv_iconst (v := 0) hx hb dX12_findOrder_19 (by decide) ?_
    refine lv_istore_n (lv' := [(3, .int 0), (2, .int r12910), (0, .ref h), (1, .int mm)]) hx hb dX12_findOrder_20 rfl hl (by decide) rfl (fun ls hl => ?_)
    have lp21977 : ∀ (nn21977 : Nat) (x21976_3 : Int32) (w21976_i_12_60 : Int32) (w21976_i_12_61 : Int32) (w21976_a_12_59 : Nat → Int32), 0 ≤ x21976_3.toInt ∧ x21976_3.toInt ≤ 95 → (∀ j, inb (bA 12 59 j) (w21976_a_12_59 j)) → 95 - x21976_3.toInt < (nn21977 : Int) → ∀ (H : Heap) (locs : List Loc), ∀ (ls : Array Slot), va_P (dC, dI) classes (WM h g ca (u2 (u2 iv 12 60 w21976_i_12_60) 12 61 w21976_i_12_61) lv (u2 fa 12 59 w21976_a_12_59) la) H → va_D A (WM h g ca (u2 (u2 iv 12 60 w21976_i_12_60) 12 61 w21976_i_12_61) lv (u2 fa 12 59 w21976_a_12_59) la) → va_S A s.heap H locs → lv_has ls 7 [(3, .int x21976_3), (2, .int r12910), (0, .ref h), (1, .int mm)] → W p l e ({ frames := 2, cells := 0, slots := 0, locals := 46 } : Room) s m ([.ref h, .int mm] : List Value).toArray below meth c H locs 0 0 (MQ below (va_Qv (fun (u : SS) => ∃ (na_12_59 : Nat → Int32) (ni_12_60 : Int32) (ni_12_61 : Int32), u = ((u2 (u2 iv 12 60 ni_12_60) 12 61 ni_12_61), lv, (u2 fa 12 59 na_12_59), la)) (bM (dC, dI) h g ca A) A) ([.ref h, .int mm] : List Value).toArray s 0 0 A) (F0 m 21 ls []) := by
      intro nn21977
      induction nn21977 with
      | zero => intro x21976_3 w21976_i_12_60 w21976_i_12_61 w21976_a_12_59 hx21976_3 hw21976_a_12_59 hm21977; exfalso; omega
      | succ nn21977 ih21977 =>
        intro x21976_3 w21976_i_12_60 w21976_i_12_61 w21976_a_12_59 hx21976_3 hw21976_a_12_59 hm21977 H locs ls hP hD hS hl
        refine lv_iload_n hx hb dX12_findOrder_21 rfl (lv_at hl 0 rfl) ?_
        refine lv_iload_n hx hb dX12_findOrder_22 rfl (lv_at hl 1 rfl) ?_
        refine lv_icmp_ge (tgt := 156) hx hb dX12_findOrder_23 (by decide) (fun c21978 => ?_) (fun c21978 => ?_)
        · have fc21978 := z_le (rfl : (r12910).toInt = _) (rfl : (x21976_3).toInt = _) c21978
          have hP9 : va_P (dC, dI) classes (WM h g ca (u2 (u2 iv 12 60 w21976_i_12_60) 12 61 w21976_i_12_61) lv (u2 fa 12 59 w21976_a_12_59) la) H := hP
          have hD9 : va_D A (WM h g ca (u2 (u2 iv 12 60 w21976_i_12_60) 12 61 w21976_i_12_61) lv (u2 fa 12 59 w21976_a_12_59) la) := hD
          exact W.vret hx hb hr (fun t ht9 hW => ⟨⟨((u2 (u2 iv 12 60 w21976_i_12_60) 12 61 w21976_i_12_61), lv, (u2 fa 12 59 w21976_a_12_59), la), rfl, ⟨w21976_a_12_59, w21976_i_12_60, w21976_i_12_61, rfl⟩, by rw [ht9]; exact hP9, hD9⟩, hS.F ht9⟩) hS.2.2 dX12_findOrder_156
        · have fc21978 := z_nle (rfl : (r12910).toInt = _) (rfl : (x21976_3).toInt = _) c21978
          refine lv_iconst (v := 0) hx hb dX12_findOrder_26 (by decide) ?_
          refine lv_istore (lv' := [(4, .int 0), (3, .int x21976_3), (2, .int r12910), (0, .ref h), (1, .int mm)]) hx hb dX12_findOrder_27 hl (by decide) rfl (fun ls hl => ?_)
          have lp22167 : ∀ (nn22167 : Nat) (x22166_4 : Int32) (w22166_a_12_59 : Nat → Int32), 0 ≤ x22166_4.toInt ∧ x22166_4.toInt ≤ 3 → (∀ j, inb (bA 12 59 j) (w22166_a_12_59 j)) → 3 - x22166_4.toInt < (nn22167 : Int) → ∀ (H : Heap) (locs : List Loc), ∀ (ls : Array Slot), va_P (dC, dI) classes (WM h g ca (u2 (u2 iv 12 60 w21976_i_12_60) 12 61 w21976_i_12_61) lv (u2 fa 12 59 w22166_a_12_59) la) H → va_D A (WM h g ca (u2 (u2 iv 12 60 w21976_i_12_60) 12 61 w21976_i_12_61) lv (u2 fa 12 59 w22166_a_12_59) la) → va_S A s.heap H locs → lv_has ls 7 [(4, .int x22166_4), (3, .int x21976_3), (2, .int r12910), (0, .ref h), (1, .int mm)] → W p l e ({ frames := 2, cells := 0, slots := 0, locals := 46 } : Room) s m ([.ref h, .int mm] : List Value).toArray below meth c H locs 0 0 (MQ below (va_Qv (fun (u : SS) => ∃ (na_12_59 : Nat → Int32) (ni_12_60 : Int32) (ni_12_61 : Int32), u = ((u2 (u2 iv 12 60 ni_12_60) 12 61 ni_12_61), lv, (u2 fa 12 59 na_12_59), la)) (bM (dC, dI) h g ca A) A) ([.ref h, .int mm] : List Value).toArray s 0 0 A) (F0 m 29 ls []) := by
            intro nn22167
            induction nn22167 with
            | zero => intro x22166_4 w22166_a_12_59 hx22166_4 hw22166_a_12_59 hm22167; exfalso; omega
            | succ nn22167 ih22167 =>
              intro x22166_4 w22166_a_12_59 hx22166_4 hw22166_a_12_59 hm22167 H locs ls hP hD hS hl
              refine lv_iload hx hb dX12_findOrder_29 (lv_at hl 0 rfl) ?_
              refine lv_iconst (v := 3) hx hb dX12_findOrder_31 (by decide) ?_
              refine lv_icmp_ge (tgt := 49) hx hb dX12_findOrder_32 (by decide) (fun c22168 => ?_) (fun c22168 => ?_)
              · have fc22168 := z_le (by decide : (3 : Int32).toInt = 3) (rfl : (x22166_4).toInt = _) c22168
                refine lv_iconst (v := 0) hx hb dX12_findOrder_49 (by decide) ?_
                refine lv_istore (lv' := [(4, .int 0), (3, .int x21976_3), (2, .int r12910), (0, .ref h), (1, .int mm)]) hx hb dX12_findOrder_50 hl (by decide) rfl (fun ls hl => ?_)
                refine lv_iconst (v := 0) hx hb dX12_findOrder_52 (by decide) ?_
                refine lv_istore (lv' := [(5, .int 0), (4, .int 0), (3, .int x21976_3), (2, .int r12910), (0, .ref h), (1, .int mm)]) hx hb dX12_findOrder_53 hl (by decide) rfl (fun ls hl => ?_)
                have lp22323 : ∀ (nn22323 : Nat) (x22322_5 : Int32) (x22322_4 : Int32) (w22322_a_12_59 : Nat → Int32), 0 ≤ x22322_5.toInt ∧ x22322_5.toInt ≤ 8 → 0 ≤ x22322_4.toInt → (∀ j, inb (bA 12 59 j) (w22322_a_12_59 j)) → 8 - x22322_5.toInt < (nn22323 : Int) → ∀ (H : Heap) (locs : List Loc), ∀ (ls : Array Slot), va_P (dC, dI) classes (WM h g ca (u2 (u2 iv 12 60 w21976_i_12_60) 12 61 w21976_i_12_61) lv (u2 fa 12 59 w22322_a_12_59) la) H → va_D A (WM h g ca (u2 (u2 iv 12 60 w21976_i_12_60) 12 61 w21976_i_12_61) lv (u2 fa 12 59 w22322_a_12_59) la) → va_S A s.heap H locs → lv_has ls 7 [(5, .int x22322_5), (4, .int x22322_4), (3, .int x21976_3), (2, .int r12910), (0, .ref h), (1, .int mm)] → W p l e ({ frames := 2, cells := 0, slots := 0, locals := 46 } : Room) s m ([.ref h, .int mm] : List Value).toArray below meth c H locs 0 0 (MQ below (va_Qv (fun (u : SS) => ∃ (na_12_59 : Nat → Int32) (ni_12_60 : Int32) (ni_12_61 : Int32), u = ((u2 (u2 iv 12 60 ni_12_60) 12 61 ni_12_61), lv, (u2 fa 12 59 na_12_59), la)) (bM (dC, dI) h g ca A) A) ([.ref h, .int mm] : List Value).toArray s 0 0 A) (F0 m 55 ls []) := by
                  intro nn22323
                  induction nn22323 with
                  | zero => intro x22322_5 x22322_4 w22322_a_12_59 hx22322_5 hx22322_4 hw22322_a_12_59 hm22323; exfalso; omega
                  | succ nn22323 ih22323 =>
                    intro x22322_5 x22322_4 w22322_a_12_59 hx22322_5 hx22322_4 hw22322_a_12_59 hm22323 H locs ls hP hD hS hl
                    refine lv_iload hx hb dX12_findOrder_55 (lv_at hl 0 rfl) ?_
                    refine lv_aload_n hx hb dX12_findOrder_57 rfl (lv_at hl 4 rfl) ?_
                    refine gM_12_57 hx hb ht hown hK hP m_1196 (v := (iv 12 57)) rfl dX12_findOrder_58 ?_
                    refine lv_icmp_ge (tgt := 123) hx hb dX12_findOrder_61 (by decide) (fun c22324 => ?_) (fun c22324 => ?_)
                    · have fc22324 := z_le (rfl : ((iv 12 57)).toInt = _) (rfl : (x22322_5).toInt = _) c22324
                      refine lv_aload_n hx hb dX12_findOrder_123 rfl (lv_at hl 4 rfl) ?_
                      refine gM_12_60 hx hb ht hown hK hP m_1199 (v := w21976_i_12_60) rfl dX12_findOrder_124 ?_
                      refine lv_if_lt (tgt := 139) hx hb dX12_findOrder_127 (by decide) (fun c22325 => ?_) (fun c22325 => ?_)
                      · have fc22325 := z_lt (rfl : (w21976_i_12_60).toInt = _) (by decide : (0 : Int32).toInt = 0) c22325
                        refine lv_aload_n hx hb dX12_findOrder_139 rfl (lv_at hl 4 rfl) ?_
                        refine lv_iload_n hx hb dX12_findOrder_140 rfl (lv_at hl 2 rfl) ?_
                        refine pM_12_60 (v := x21976_3) hx hb ht hown hK hP hD hS m_1199 dX12_findOrder_141 (fun H locs hP hD hS => ?_)
                        have hP : va_P (dC, dI) classes (WM h g ca (u2 (u2 iv 12 60 x21976_3) 12 61 w21976_i_12_61) lv (u2 fa 12 59 w22322_a_12_59) la) H := hP
                        have hD : va_D A (WM h g ca (u2 (u2 iv 12 60 x21976_3) 12 61 w21976_i_12_61) lv (u2 fa 12 59 w22322_a_12_59) la) := hD
                        refine lv_aload_n hx hb dX12_findOrder_144 rfl (lv_at hl 4 rfl) ?_
                        refine lv_iload hx hb dX12_findOrder_145 (lv_at hl 1 rfl) ?_
                        refine pM_12_61 (v := x22322_4) hx hb ht hown hK hP hD hS m_1200 dX12_findOrder_147 (fun H locs hP hD hS => ?_)
                        have hP : va_P (dC, dI) classes (WM h g ca (u2 (u2 iv 12 60 x21976_3) 12 61 x22322_4) lv (u2 fa 12 59 w22322_a_12_59) la) H := hP
                        have hD : va_D A (WM h g ca (u2 (u2 iv 12 60 x21976_3) 12 61 x22322_4) lv (u2 fa 12 59 w22322_a_12_59) la) := hD
                        obtain ⟨v22326, ev22326⟩ : ∃ y : Int32, y = x21976_3 + 1 := ⟨_, rfl⟩
                        have tv22326 := z_add ev22326 rfl (by decide : (1 : Int32).toInt = 1) (by omega) (by omega)
                        refine lv_iinc (v := v22326) (lv' := [(3, .int v22326), (5, .int x22322_5), (4, .int x22322_4), (2, .int r12910), (0, .ref h), (1, .int mm)]) hx hb dX12_findOrder_150 hl (k := 2) rfl (by rw [ev22326]; rfl) (by decide) rfl (fun ls hl => ?_)
                        refine lv_goto (tgt := 21) hx hb dX12_findOrder_153 (by decide) ?_
                        exact ih21977 v22326 x21976_3 x22322_4 w22322_a_12_59 ⟨by omega, by omega⟩ hw22322_a_12_59 (by omega) _ _ ls hP hD hS (lv_sub hl [0, 3, 4, 5] rfl)
                      · have fc22325 := z_nlt (rfl : (w21976_i_12_60).toInt = _) (by decide : (0 : Int32).toInt = 0) c22325
                        refine lv_iload hx hb dX12_findOrder_130 (lv_at hl 1 rfl) ?_
                        refine lv_aload_n hx hb dX12_findOrder_132 rfl (lv_at hl 4 rfl) ?_
                        refine gM_12_61 hx hb ht hown hK hP m_1200 (v := w21976_i_12_61) rfl dX12_findOrder_133 ?_
                        refine lv_icmp_ge (tgt := 150) hx hb dX12_findOrder_136 (by decide) (fun c22327 => ?_) (fun c22327 => ?_)
                        · have fc22327 := z_le (rfl : (w21976_i_12_61).toInt = _) (rfl : (x22322_4).toInt = _) c22327
                          obtain ⟨v22328, ev22328⟩ : ∃ y : Int32, y = x21976_3 + 1 := ⟨_, rfl⟩
                          have tv22328 := z_add ev22328 rfl (by decide : (1 : Int32).toInt = 1) (by omega) (by omega)
                          refine lv_iinc (v := v22328) (lv' := [(3, .int v22328), (5, .int x22322_5), (4, .int x22322_4), (2, .int r12910), (0, .ref h), (1, .int mm)]) hx hb dX12_findOrder_150 hl (k := 2) rfl (by rw [ev22328]; rfl) (by decide) rfl (fun ls hl => ?_)
                          refine lv_goto (tgt := 21) hx hb dX12_findOrder_153 (by decide) ?_
                          exact ih21977 v22328 w21976_i_12_60 w21976_i_12_61 w22322_a_12_59 ⟨by omega, by omega⟩ hw22322_a_12_59 (by omega) _ _ ls hP hD hS (lv_sub hl [0, 3, 4, 5] rfl)
                        · have fc22327 := z_nle (rfl : (w21976_i_12_61).toInt = _) (rfl : (x22322_4).toInt = _) c22327
                          refine lv_aload_n hx hb dX12_findOrder_139 rfl (lv_at hl 4 rfl) ?_
                          refine lv_iload_n hx hb dX12_findOrder_140 rfl (lv_at hl 2 rfl) ?_
                          refine pM_12_60 (v := x21976_3) hx hb ht hown hK hP hD hS m_1199 dX12_findOrder_141 (fun H locs hP hD hS => ?_)
                          have hP : va_P (dC, dI) classes (WM h g ca (u2 (u2 iv 12 60 x21976_3) 12 61 w21976_i_12_61) lv (u2 fa 12 59 w22322_a_12_59) la) H := hP
                          have hD : va_D A (WM h g ca (u2 (u2 iv 12 60 x21976_3) 12 61 w21976_i_12_61) lv (u2 fa 12 59 w22322_a_12_59) la) := hD
                          refine lv_aload_n hx hb dX12_findOrder_144 rfl (lv_at hl 4 rfl) ?_
                          refine lv_iload hx hb dX12_findOrder_145 (lv_at hl 1 rfl) ?_
                          refine pM_12_61 (v := x22322_4) hx hb ht hown hK hP hD hS m_1200 dX12_findOrder_147 (fun H locs hP hD hS => ?_)
                          have hP : va_P (dC, dI) classes (WM h g ca (u2 (u2 iv 12 60 x21976_3) 12 61 x22322_4) lv (u2 fa 12 59 w22322_a_12_59) la) H := hP
                          have hD : va_D A (WM h g ca (u2 (u2 iv 12 60 x21976_3) 12 61 x22322_4) lv (u2 fa 12 59 w22322_a_12_59) la) := hD
                          obtain ⟨v22329, ev22329⟩ : ∃ y : Int32, y = x21976_3 + 1 := ⟨_, rfl⟩
                          have tv22329 := z_add ev22329 rfl (by decide : (1 : Int32).toInt = 1) (by omega) (by omega)
                          refine lv_iinc (v := v22329) (lv' := [(3, .int v22329), (5, .int x22322_5), (4, .int x22322_4), (2, .int r12910), (0, .ref h), (1, .int mm)]) hx hb dX12_findOrder_150 hl (k := 2) rfl (by rw [ev22329]; rfl) (by decide) rfl (fun ls hl => ?_)
                          refine lv_goto (tgt := 21) hx hb dX12_findOrder_153 (by decide) ?_
                          exact ih21977 v22329 x21976_3 x22322_4 w22322_a_12_59 ⟨by omega, by omega⟩ hw22322_a_12_59 (by omega) _ _ ls hP hD hS (lv_sub hl [0, 3, 4, 5] rfl)
                    · have fc22324 := z_nle (rfl : ((iv 12 57)).toInt = _) (rfl : (x22322_5).toInt = _) c22324
                      refine lv_aload_n hx hb dX12_findOrder_64 rfl (lv_at hl 4 rfl) ?_
                      refine lv_iload_n hx hb dX12_findOrder_65 rfl (lv_at hl 2 rfl) ?_
                      refine lv_iload_n hx hb dX12_findOrder_66 rfl (lv_at hl 5 rfl) ?_
                      refine lv_iload hx hb dX12_findOrder_67 (lv_at hl 0 rfl) ?_
                      refine vp_callSi (W.runV (As := [.int x21976_3, .int mm, .int x22322_5]) (rest := []) ⟨hx, hb, hml, hown, ht⟩ (c_X12_ovenOf_0 l dC dI h g ca (u2 (u2 iv 12 60 w21976_i_12_60) 12 61 w21976_i_12_61) lv (u2 fa 12 59 w22322_a_12_59) la (IX_a (c := 12) (k := 59) (IX_i (c := 12) (k := 61) (IX_i (c := 12) (k := 60) hI (full_i _)) (full_i _)) hw22322_a_12_59) x21976_3 mm x22322_5 (show 1 ≤ ((iv 12 57) : Int32).toInt ∧ ((iv 12 57) : Int32).toInt ≤ 8 from ⟨by omega, by omega⟩) ⟨by omega, by omega⟩ ⟨by omega, by omega⟩ ⟨by omega, by omega⟩ (show (x22322_5 : Int32).toInt + 1 ≤ ((iv 12 57) : Int32).toInt from by omega)) (kV 3 ht m_1652 m_1654 m_70 m_89 m_1655 rfl rfl hd_X12_ovenOf_v ⟨Nat.le_of_ble_eq_true rfl, Nat.le_of_ble_eq_true rfl⟩) (vR hP hK (rM_12 hK hP)) rfl rfl hl.1 rfl (lv_room (Nat.le_of_ble_eq_true rfl)) dX12_findOrder_69 ⟨Nat.le_of_ble_eq_true rfl, Nat.le_of_ble_eq_true rfl⟩) (fun r22330 hr22330 => ?_)
                      refine lv_istore (lv' := [(6, .int r22330), (5, .int x22322_5), (4, .int x22322_4), (3, .int x21976_3), (2, .int r12910), (0, .ref h), (1, .int mm)]) hx hb dX12_findOrder_72 hl (by decide) rfl (fun ls hl => ?_)
                      refine lv_aload_n hx hb dX12_findOrder_74 rfl (lv_at hl 5 rfl) ?_
                      refine gM_12_59 hx hb ht hown hK hP m_1198 dX12_findOrder_75 ?_
                      refine lv_iload hx hb dX12_findOrder_78 (lv_at hl 0 rfl) ?_
                      refine lv_dup2_11 hx hb dX12_findOrder_80 rfl rfl ?_
                      refine lM_12_59 hx hb hK hP (f := w22322_a_12_59) rfl (vp_in_iff.mpr ⟨by omega, by omega⟩) dX12_findOrder_81 ?_
                      refine lv_topi (fun v22331 ev22331 => ?_)
                      refine lv_aload_n hx hb dX12_findOrder_82 rfl (lv_at hl 5 rfl) ?_
                      refine gM_12_58 hx hb ht hown hK hP m_1197 dX12_findOrder_83 ?_
                      refine lv_iload hx hb dX12_findOrder_86 (lv_at hl 1 rfl) ?_
                      refine lM_12_58 hx hb hK hP (f := (fa 12 58)) rfl (vp_in_iff.mpr ⟨by omega, by omega⟩) dX12_findOrder_88 ?_
                      refine lv_topi (fun v22332 ev22332 => ?_)
                      refine lv_iadd hx hb dX12_findOrder_89 ?_
                      refine lv_topi (fun v22333 ev22333 => ?_)
                      refine tM_12_59 hx hb hK hP hD hS (f0 := w22322_a_12_59) rfl (i := r22330) (x := v22333) (vp_in_iff.mpr ⟨by omega, by omega⟩) dX12_findOrder_90 (fun f22334 ef22334 H locs hP hD hS => ?_)
                      have hf22334 : ∀ j, inb (bA 12 59 j) (f22334 j) := fun j => full_i _
                      have hP : va_P (dC, dI) classes (WM h g ca (u2 (u2 iv 12 60 w21976_i_12_60) 12 61 w21976_i_12_61) lv (u2 fa 12 59 f22334) la) H := hP
                      have hD : va_D A (WM h g ca (u2 (u2 iv 12 60 w21976_i_12_60) 12 61 w21976_i_12_61) lv (u2 fa 12 59 f22334) la) := hD
                      refine lv_aload_n hx hb dX12_findOrder_91 rfl (lv_at hl 5 rfl) ?_
                      refine gM_12_59 hx hb ht hown hK hP m_1198 dX12_findOrder_92 ?_
                      refine lv_iload hx hb dX12_findOrder_95 (lv_at hl 0 rfl) ?_
                      refine lM_12_59 hx hb hK hP (f := f22334) rfl (vp_in_iff.mpr ⟨by omega, by omega⟩) dX12_findOrder_97 ?_
                      refine lv_topi (fun v22335 ev22335 => ?_)
                      refine lv_iload hx hb dX12_findOrder_98 (lv_at hl 2 rfl) ?_
                      refine lv_icmp_le (tgt := 113) hx hb dX12_findOrder_100 (by decide) (fun c22336 => ?_) (fun c22336 => ?_)
                      · have fc22336 := z_le (rfl : (v22335).toInt = _) (rfl : (x22322_4).toInt = _) c22336
                        refine lv_iload hx hb dX12_findOrder_113 (lv_at hl 2 rfl) ?_
                        refine lv_istore (lv' := [(4, .int x22322_4), (6, .int r22330), (5, .int x22322_5), (3, .int x21976_3), (2, .int r12910), (0, .ref h), (1, .int mm)]) hx hb dX12_findOrder_115 hl (by decide) rfl (fun ls hl => ?_)
                        obtain ⟨v22337, ev22337⟩ : ∃ y : Int32, y = x22322_5 + 1 := ⟨_, rfl⟩
                        have tv22337 := z_add ev22337 rfl (by decide : (1 : Int32).toInt = 1) (by omega) (by omega)
                        refine lv_iinc (v := v22337) (lv' := [(5, .int v22337), (4, .int x22322_4), (6, .int r22330), (3, .int x21976_3), (2, .int r12910), (0, .ref h), (1, .int mm)]) hx hb dX12_findOrder_117 hl (k := 2) rfl (by rw [ev22337]; rfl) (by decide) rfl (fun ls hl => ?_)
                        refine lv_goto (tgt := 55) hx hb dX12_findOrder_120 (by decide) ?_
                        exact ih22323 v22337 x22322_4 f22334 ⟨by omega, by omega⟩ (by omega) hf22334 (by omega) _ _ ls hP hD hS (lv_sub hl [0, 1, 3, 4, 5, 6] rfl)
                      · have fc22336 := z_nle (rfl : (v22335).toInt = _) (rfl : (x22322_4).toInt = _) c22336
                        refine lv_aload_n hx hb dX12_findOrder_103 rfl (lv_at hl 5 rfl) ?_
                        refine gM_12_59 hx hb ht hown hK hP m_1198 dX12_findOrder_104 ?_
                        refine lv_iload hx hb dX12_findOrder_107 (lv_at hl 0 rfl) ?_
                        refine lM_12_59 hx hb hK hP (f := f22334) rfl (vp_in_iff.mpr ⟨by omega, by omega⟩) dX12_findOrder_109 ?_
                        refine lv_topi (fun v22338 ev22338 => ?_)
                        obtain rfl : v22335 = v22338 := ev22335.trans ev22338.symm
                        refine lv_goto (tgt := 115) hx hb dX12_findOrder_110 (by decide) ?_
                        refine lv_istore (lv' := [(4, .int v22335), (6, .int r22330), (5, .int x22322_5), (3, .int x21976_3), (2, .int r12910), (0, .ref h), (1, .int mm)]) hx hb dX12_findOrder_115 hl (by decide) rfl (fun ls hl => ?_)
                        obtain ⟨v22339, ev22339⟩ : ∃ y : Int32, y = x22322_5 + 1 := ⟨_, rfl⟩
                        have tv22339 := z_add ev22339 rfl (by decide : (1 : Int32).toInt = 1) (by omega) (by omega)
                        refine lv_iinc (v := v22339) (lv' := [(5, .int v22339), (4, .int v22335), (6, .int r22330), (3, .int x21976_3), (2, .int r12910), (0, .ref h), (1, .int mm)]) hx hb dX12_findOrder_117 hl (k := 2) rfl (by rw [ev22339]; rfl) (by decide) rfl (fun ls hl => ?_)
                        refine lv_goto (tgt := 55) hx hb dX12_findOrder_120 (by decide) ?_
                        exact ih22323 v22339 v22335 f22334 ⟨by omega, by omega⟩ (by omega) hf22334 (by omega) _ _ ls hP hD hS (lv_sub hl [0, 1, 3, 4, 5, 6] rfl)
                exact lp22323 9 0 0 w22166_a_12_59 ⟨by decide, by decide⟩ (by decide) hw22166_a_12_59 (by first | decide | omega) _ _ ls hP hD hS (lv_sub hl [0, 1, 2, 3, 4, 5] rfl)
              · have fc22168 := z_nle (by decide : (3 : Int32).toInt = 3) (rfl : (x22166_4).toInt = _) c22168
                refine lv_aload_n hx hb dX12_findOrder_35 rfl (lv_at hl 3 rfl) ?_
                refine gM_12_59 hx hb ht hown hK hP m_1198 dX12_findOrder_36 ?_
                refine lv_iload hx hb dX12_findOrder_39 (lv_at hl 0 rfl) ?_
                refine lv_iconst (v := 0) hx hb dX12_findOrder_41 (by decide) ?_
                refine tM_12_59 hx hb hK hP hD hS (f0 := w22166_a_12_59) rfl (i := x22166_4) (x := 0) (vp_in_iff.mpr ⟨by omega, by omega⟩) dX12_findOrder_42 (fun f22340 ef22340 H locs hP hD hS => ?_)
                have hf22340 : ∀ j, inb (bA 12 59 j) (f22340 j) := fun j => full_i _
                have hP : va_P (dC, dI) classes (WM h g ca (u2 (u2 iv 12 60 w21976_i_12_60) 12 61 w21976_i_12_61) lv (u2 fa 12 59 f22340) la) H := hP
                have hD : va_D A (WM h g ca (u2 (u2 iv 12 60 w21976_i_12_60) 12 61 w21976_i_12_61) lv (u2 fa 12 59 f22340) la) := hD
                obtain ⟨v22341, ev22341⟩ : ∃ y : Int32, y = x22166_4 + 1 := ⟨_, rfl⟩
                have tv22341 := z_add ev22341 rfl (by decide : (1 : Int32).toInt = 1) (by omega) (by omega)
                refine lv_iinc (v := v22341) (lv' := [(4, .int v22341), (3, .int x21976_3), (2, .int r12910), (0, .ref h), (1, .int mm)]) hx hb dX12_findOrder_43 hl (k := 0) rfl (by rw [ev22341]; rfl) (by decide) rfl (fun ls hl => ?_)
                refine lv_goto (tgt := 29) hx hb dX12_findOrder_46 (by decide) ?_
                exact ih22167 v22341 f22340 ⟨by omega, by omega⟩ hf22340 (by omega) _ _ ls hP hD hS (lv_sub hl [0, 1, 2, 3, 4] rfl)
          exact lp22167 4 0 w21976_a_12_59 ⟨by decide, by decide⟩ hw21976_a_12_59 (by first | decide | omega) _ _ ls hP hD hS (lv_sub hl [0, 1, 2, 3, 4] rfl)
    exact lp21977 96 0 (-1) 0 (fa 12 59) ⟨by decide, by decide⟩ (hI.2 12 59) (by first | decide | omega) _ _ ls hP hD hS (lv_sub hl [0, 1, 2, 3] rfl)
  · have hq8 : (iv 12 57) = 5 := z_of (by decide) q1
    rw [hq8]
    have : (5 : Int32).toInt = 5 := by decide
    refine vp_callSi (W.runS (As := [.int mm, .int 5]) (rest := []) ⟨hx, hb, hml, hown, ht⟩ (c_X12_power_5 l dC dI mm ⟨by omega, by omega⟩) (kS 2 ht m_1649 m_1650 m_89 m_1651 rfl rfl hd_X12_power_v ⟨Nat.le_of_ble_eq_true rfl, Nat.le_of_ble_eq_true rfl⟩) (sR noP (hK.sub (tys' := []) [] rfl)) rfl rfl hl.1 rfl (lv_room (Nat.le_of_ble_eq_true rfl)) dX12_findOrder_15 ⟨Nat.le_of_ble_eq_true rfl, Nat.le_of_ble_eq_true rfl⟩) (fun r22342 hr22342 => ?_)
    refine lv_istore_n (lv' := [(2, .int r22342), (0, .ref h), (1, .int mm)]) hx hb dX12_findOrder_18 rfl hl (by decide) rfl (fun ls hl => ?_)
    refine lv_iconst (v := 0) hx hb dX12_findOrder_19 (by decide) ?_
    refine lv_istore_n (lv' := [(3, .int 0), (2, .int r22342), (0, .ref h), (1, .int mm)]) hx hb dX12_findOrder_20 rfl hl (by decide) rfl (fun ls hl => ?_)
    have lp34329 : ∀ (nn34329 : Nat) (x34328_3 : Int32) (w34328_i_12_60 : Int32) (w34328_i_12_61 : Int32) (w34328_a_12_59 : Nat → Int32), 0 ≤ x34328_3.toInt ∧ x34328_3.toInt ≤ 255 → (∀ j, inb (bA 12 59 j) (w34328_a_12_59 j)) → 255 - x34328_3.toInt < (nn34329 : Int) → ∀ (H : Heap) (locs : List Loc), ∀ (ls : Array Slot), va_P (dC, dI) classes (WM h g ca (u2 (u2 iv 12 60 w34328_i_12_60) 12 61 w34328_i_12_61) lv (u2 fa 12 59 w34328_a_12_59) la) H → va_D A (WM h g ca (u2 (u2 iv 12 60 w34328_i_12_60) 12 61 w34328_i_12_61) lv (u2 fa 12 59 w34328_a_12_59) la) → va_S A s.heap H locs → lv_has ls 7 [(3, .int x34328_3), (2, .int r22342), (0, .ref h), (1, .int mm)] → W p l e ({ frames := 2, cells := 0, slots := 0, locals := 46 } : Room) s m ([.ref h, .int mm] : List Value).toArray below meth c H locs 0 0 (MQ below (va_Qv (fun (u : SS) => ∃ (na_12_59 : Nat → Int32) (ni_12_60 : Int32) (ni_12_61 : Int32), u = ((u2 (u2 iv 12 60 ni_12_60) 12 61 ni_12_61), lv, (u2 fa 12 59 na_12_59), la)) (bM (dC, dI) h g ca A) A) ([.ref h, .int mm] : List Value).toArray s 0 0 A) (F0 m 21 ls []) := by
      intro nn34329
      induction nn34329 with
      | zero => intro x34328_3 w34328_i_12_60 w34328_i_12_61 w34328_a_12_59 hx34328_3 hw34328_a_12_59 hm34329; exfalso; omega
      | succ nn34329 ih34329 =>
        intro x34328_3 w34328_i_12_60 w34328_i_12_61 w34328_a_12_59 hx34328_3 hw34328_a_12_59 hm34329 H locs ls hP hD hS hl
        refine lv_iload_n hx hb dX12_findOrder_21 rfl (lv_at hl 0 rfl) ?_
        refine lv_iload_n hx hb dX12_findOrder_22 rfl (lv_at hl 1 rfl) ?_
        refine lv_icmp_ge (tgt := 156) hx hb dX12_findOrder_23 (by decide) (fun c34330 => ?_) (fun c34330 => ?_)
        · have fc34330 := z_le (rfl : (r22342).toInt = _) (rfl : (x34328_3).toInt = _) c34330
          have hP9 : va_P (dC, dI) classes (WM h g ca (u2 (u2 iv 12 60 w34328_i_12_60) 12 61 w34328_i_12_61) lv (u2 fa 12 59 w34328_a_12_59) la) H := hP
          have hD9 : va_D A (WM h g ca (u2 (u2 iv 12 60 w34328_i_12_60) 12 61 w34328_i_12_61) lv (u2 fa 12 59 w34328_a_12_59) la) := hD
          exact W.vret hx hb hr (fun t ht9 hW => ⟨⟨((u2 (u2 iv 12 60 w34328_i_12_60) 12 61 w34328_i_12_61), lv, (u2 fa 12 59 w34328_a_12_59), la), rfl, ⟨w34328_a_12_59, w34328_i_12_60, w34328_i_12_61, rfl⟩, by rw [ht9]; exact hP9, hD9⟩, hS.F ht9⟩) hS.2.2 dX12_findOrder_156
        · have fc34330 := z_nle (rfl : (r22342).toInt = _) (rfl : (x34328_3).toInt = _) c34330
          refine lv_iconst (v := 0) hx hb dX12_findOrder_26 (by decide) ?_
          refine lv_istore (lv' := [(4, .int 0), (3, .int x34328_3), (2, .int r22342), (0, .ref h), (1, .int mm)]) hx hb dX12_findOrder_27 hl (by decide) rfl (fun ls hl => ?_)
          have lp34519 : ∀ (nn34519 : Nat) (x34518_4 : Int32) (w34518_a_12_59 : Nat → Int32), 0 ≤ x34518_4.toInt ∧ x34518_4.toInt ≤ 3 → (∀ j, inb (bA 12 59 j) (w34518_a_12_59 j)) → 3 - x34518_4.toInt < (nn34519 : Int) → ∀ (H : Heap) (locs : List Loc), ∀ (ls : Array Slot), va_P (dC, dI) classes (WM h g ca (u2 (u2 iv 12 60 w34328_i_12_60) 12 61 w34328_i_12_61) lv (u2 fa 12 59 w34518_a_12_59) la) H → va_D A (WM h g ca (u2 (u2 iv 12 60 w34328_i_12_60) 12 61 w34328_i_12_61) lv (u2 fa 12 59 w34518_a_12_59) la) → va_S A s.heap H locs → lv_has ls 7 [(4, .int x34518_4), (3, .int x34328_3), (2, .int r22342), (0, .ref h), (1, .int mm)] → W p l e ({ frames := 2, cells := 0, slots := 0, locals := 46 } : Room) s m ([.ref h, .int mm] : List Value).toArray below meth c H locs 0 0 (MQ below (va_Qv (fun (u : SS) => ∃ (na_12_59 : Nat → Int32) (ni_12_60 : Int32) (ni_12_61 : Int32), u = ((u2 (u2 iv 12 60 ni_12_60) 12 61 ni_12_61), lv, (u2 fa 12 59 na_12_59), la)) (bM (dC, dI) h g ca A) A) ([.ref h, .int mm] : List Value).toArray s 0 0 A) (F0 m 29 ls []) := by
            intro nn34519
            induction nn34519 with
            | zero => intro x34518_4 w34518_a_12_59 hx34518_4 hw34518_a_12_59 hm34519; exfalso; omega
            | succ nn34519 ih34519 =>
              intro x34518_4 w34518_a_12_59 hx34518_4 hw34518_a_12_59 hm34519 H locs ls hP hD hS hl
              refine lv_iload hx hb dX12_findOrder_29 (lv_at hl 0 rfl) ?_
              refine lv_iconst (v := 3) hx hb dX12_findOrder_31 (by decide) ?_
              refine lv_icmp_ge (tgt := 49) hx hb dX12_findOrder_32 (by decide) (fun c34520 => ?_) (fun c34520 => ?_)
              · have fc34520 := z_le (by decide : (3 : Int32).toInt = 3) (rfl : (x34518_4).toInt = _) c34520
                refine lv_iconst (v := 0) hx hb dX12_findOrder_49 (by decide) ?_
                refine lv_istore (lv' := [(4, .int 0), (3, .int x34328_3), (2, .int r22342), (0, .ref h), (1, .int mm)]) hx hb dX12_findOrder_50 hl (by decide) rfl (fun ls hl => ?_)
                refine lv_iconst (v := 0) hx hb dX12_findOrder_52 (by decide) ?_
                refine lv_istore (lv' := [(5, .int 0), (4, .int 0), (3, .int x34328_3), (2, .int r22342), (0, .ref h), (1, .int mm)]) hx hb dX12_findOrder_53 hl (by decide) rfl (fun ls hl => ?_)
                have lp34675 : ∀ (nn34675 : Nat) (x34674_5 : Int32) (x34674_4 : Int32) (w34674_a_12_59 : Nat → Int32), 0 ≤ x34674_5.toInt ∧ x34674_5.toInt ≤ 8 → 0 ≤ x34674_4.toInt → (∀ j, inb (bA 12 59 j) (w34674_a_12_59 j)) → 8 - x34674_5.toInt < (nn34675 : Int) → ∀ (H : Heap) (locs : List Loc), ∀ (ls : Array Slot), va_P (dC, dI) classes (WM h g ca (u2 (u2 iv 12 60 w34328_i_12_60) 12 61 w34328_i_12_61) lv (u2 fa 12 59 w34674_a_12_59) la) H → va_D A (WM h g ca (u2 (u2 iv 12 60 w34328_i_12_60) 12 61 w34328_i_12_61) lv (u2 fa 12 59 w34674_a_12_59) la) → va_S A s.heap H locs → lv_has ls 7 [(5, .int x34674_5), (4, .int x34674_4), (3, .int x34328_3), (2, .int r22342), (0, .ref h), (1, .int mm)] → W p l e ({ frames := 2, cells := 0, slots := 0, locals := 46 } : Room) s m ([.ref h, .int mm] : List Value).toArray below meth c H locs 0 0 (MQ below (va_Qv (fun (u : SS) => ∃ (na_12_59 : Nat → Int32) (ni_12_60 : Int32) (ni_12_61 : Int32), u = ((u2 (u2 iv 12 60 ni_12_60) 12 61 ni_12_61), lv, (u2 fa 12 59 na_12_59), la)) (bM (dC, dI) h g ca A) A) ([.ref h, .int mm] : List Value).toArray s 0 0 A) (F0 m 55 ls []) := by
                  intro nn34675
                  induction nn34675 with
                  | zero => intro x34674_5 x34674_4 w34674_a_12_59 hx34674_5 hx34674_4 hw34674_a_12_59 hm34675; exfalso; omega
                  | succ nn34675 ih34675 =>
                    intro x34674_5 x34674_4 w34674_a_12_59 hx34674_5 hx34674_4 hw34674_a_12_59 hm34675 H locs ls hP hD hS hl
                    refine lv_iload hx hb dX12_findOrder_55 (lv_at hl 0 rfl) ?_
                    refine lv_aload_n hx hb dX12_findOrder_57 rfl (lv_at hl 4 rfl) ?_
                    refine gM_12_57 hx hb ht hown hK hP m_1196 (v := (iv 12 57)) rfl dX12_findOrder_58 ?_
                    refine lv_icmp_ge (tgt := 123) hx hb dX12_findOrder_61 (by decide) (fun c34676 => ?_) (fun c34676 => ?_)
                    · have fc34676 := z_le (rfl : ((iv 12 57)).toInt = _) (rfl : (x34674_5).toInt = _) c34676
                      refine lv_aload_n hx hb dX12_findOrder_123 rfl (lv_at hl 4 rfl) ?_
                      refine gM_12_60 hx hb ht hown hK hP m_1199 (v := w34328_i_12_60) rfl dX12_findOrder_124 ?_
                      refine lv_if_lt (tgt := 139) hx hb dX12_findOrder_127 (by decide) (fun c34677 => ?_) (fun c34677 => ?_)
                      · have fc34677 := z_lt (rfl : (w34328_i_12_60).toInt = _) (by decide : (0 : Int32).toInt = 0) c34677
                        refine lv_aload_n hx hb dX12_findOrder_139 rfl (lv_at hl 4 rfl) ?_
                        refine lv_iload_n hx hb dX12_findOrder_140 rfl (lv_at hl 2 rfl) ?_
                        refine pM_12_60 (v := x34328_3) hx hb ht hown hK hP hD hS m_1199 dX12_findOrder_141 (fun H locs hP hD hS => ?_)
                        have hP : va_P (dC, dI) classes (WM h g ca (u2 (u2 iv 12 60 x34328_3) 12 61 w34328_i_12_61) lv (u2 fa 12 59 w34674_a_12_59) la) H := hP
                        have hD : va_D A (WM h g ca (u2 (u2 iv 12 60 x34328_3) 12 61 w34328_i_12_61) lv (u2 fa 12 59 w34674_a_12_59) la) := hD
                        refine lv_aload_n hx hb dX12_findOrder_144 rfl (lv_at hl 4 rfl) ?_
                        refine lv_iload hx hb dX12_findOrder_145 (lv_at hl 1 rfl) ?_
                        refine pM_12_61 (v := x34674_4) hx hb ht hown hK hP hD hS m_1200 dX12_findOrder_147 (fun H locs hP hD hS => ?_)
                        have hP : va_P (dC, dI) classes (WM h g ca (u2 (u2 iv 12 60 x34328_3) 12 61 x34674_4) lv (u2 fa 12 59 w34674_a_12_59) la) H := hP
                        have hD : va_D A (WM h g ca (u2 (u2 iv 12 60 x34328_3) 12 61 x34674_4) lv (u2 fa 12 59 w34674_a_12_59) la) := hD
                        obtain ⟨v34678, ev34678⟩ : ∃ y : Int32, y = x34328_3 + 1 := ⟨_, rfl⟩
                        have tv34678 := z_add ev34678 rfl (by decide : (1 : Int32).toInt = 1) (by omega) (by omega)
                        refine lv_iinc (v := v34678) (lv' := [(3, .int v34678), (5, .int x34674_5), (4, .int x34674_4), (2, .int r22342), (0, .ref h), (1, .int mm)]) hx hb dX12_findOrder_150 hl (k := 2) rfl (by rw [ev34678]; rfl) (by decide) rfl (fun ls hl => ?_)
                        refine lv_goto (tgt := 21) hx hb dX12_findOrder_153 (by decide) ?_
                        exact ih34329 v34678 x34328_3 x34674_4 w34674_a_12_59 ⟨by omega, by omega⟩ hw34674_a_12_59 (by omega) _ _ ls hP hD hS (lv_sub hl [0, 3, 4, 5] rfl)
                      · have fc34677 := z_nlt (rfl : (w34328_i_12_60).toInt = _) (by decide : (0 : Int32).toInt = 0) c34677
                        refine lv_iload hx hb dX12_findOrder_130 (lv_at hl 1 rfl) ?_
                        refine lv_aload_n hx hb dX12_findOrder_132 rfl (lv_at hl 4 rfl) ?_
                        refine gM_12_61 hx hb ht hown hK hP m_1200 (v := w34328_i_12_61) rfl dX12_findOrder_133 ?_
                        refine lv_icmp_ge (tgt := 150) hx hb dX12_findOrder_136 (by decide) (fun c34679 => ?_) (fun c34679 => ?_)
                        · have fc34679 := z_le (rfl : (w34328_i_12_61).toInt = _) (rfl : (x34674_4).toInt = _) c34679
                          obtain ⟨v34680, ev34680⟩ : ∃ y : Int32, y = x34328_3 + 1 := ⟨_, rfl⟩
                          have tv34680 := z_add ev34680 rfl (by decide : (1 : Int32).toInt = 1) (by omega) (by omega)
                          refine lv_iinc (v := v34680) (lv' := [(3, .int v34680), (5, .int x34674_5), (4, .int x34674_4), (2, .int r22342), (0, .ref h), (1, .int mm)]) hx hb dX12_findOrder_150 hl (k := 2) rfl (by rw [ev34680]; rfl) (by decide) rfl (fun ls hl => ?_)
                          refine lv_goto (tgt := 21) hx hb dX12_findOrder_153 (by decide) ?_
                          exact ih34329 v34680 w34328_i_12_60 w34328_i_12_61 w34674_a_12_59 ⟨by omega, by omega⟩ hw34674_a_12_59 (by omega) _ _ ls hP hD hS (lv_sub hl [0, 3, 4, 5] rfl)
                        · have fc34679 := z_nle (rfl : (w34328_i_12_61).toInt = _) (rfl : (x34674_4).toInt = _) c34679
                          refine lv_aload_n hx hb dX12_findOrder_139 rfl (lv_at hl 4 rfl) ?_
                          refine lv_iload_n hx hb dX12_findOrder_140 rfl (lv_at hl 2 rfl) ?_
                          refine pM_12_60 (v := x34328_3) hx hb ht hown hK hP hD hS m_1199 dX12_findOrder_141 (fun H locs hP hD hS => ?_)
                          have hP : va_P (dC, dI) classes (WM h g ca (u2 (u2 iv 12 60 x34328_3) 12 61 w34328_i_12_61) lv (u2 fa 12 59 w34674_a_12_59) la) H := hP
                          have hD : va_D A (WM h g ca (u2 (u2 iv 12 60 x34328_3) 12 61 w34328_i_12_61) lv (u2 fa 12 59 w34674_a_12_59) la) := hD
                          refine lv_aload_n hx hb dX12_findOrder_144 rfl (lv_at hl 4 rfl) ?_
                          refine lv_iload hx hb dX12_findOrder_145 (lv_at hl 1 rfl) ?_
                          refine pM_12_61 (v := x34674_4) hx hb ht hown hK hP hD hS m_1200 dX12_findOrder_147 (fun H locs hP hD hS => ?_)
                          have hP : va_P (dC, dI) classes (WM h g ca (u2 (u2 iv 12 60 x34328_3) 12 61 x34674_4) lv (u2 fa 12 59 w34674_a_12_59) la) H := hP
                          have hD : va_D A (WM h g ca (u2 (u2 iv 12 60 x34328_3) 12 61 x34674_4) lv (u2 fa 12 59 w34674_a_12_59) la) := hD
                          obtain ⟨v34681, ev34681⟩ : ∃ y : Int32, y = x34328_3 + 1 := ⟨_, rfl⟩
                          have tv34681 := z_add ev34681 rfl (by decide : (1 : Int32).toInt = 1) (by omega) (by omega)
                          refine lv_iinc (v := v34681) (lv' := [(3, .int v34681), (5, .int x34674_5), (4, .int x34674_4), (2, .int r22342), (0, .ref h), (1, .int mm)]) hx hb dX12_findOrder_150 hl (k := 2) rfl (by rw [ev34681]; rfl) (by decide) rfl (fun ls hl => ?_)
                          refine lv_goto (tgt := 21) hx hb dX12_findOrder_153 (by decide) ?_
                          exact ih34329 v34681 x34328_3 x34674_4 w34674_a_12_59 ⟨by omega, by omega⟩ hw34674_a_12_59 (by omega) _ _ ls hP hD hS (lv_sub hl [0, 3, 4, 5] rfl)
                    · have fc34676 := z_nle (rfl : ((iv 12 57)).toInt = _) (rfl : (x34674_5).toInt = _) c34676
                      refine lv_aload_n hx hb dX12_findOrder_64 rfl (lv_at hl 4 rfl) ?_
                      refine lv_iload_n hx hb dX12_findOrder_65 rfl (lv_at hl 2 rfl) ?_
                      refine lv_iload_n hx hb dX12_findOrder_66 rfl (lv_at hl 5 rfl) ?_
                      refine lv_iload hx hb dX12_findOrder_67 (lv_at hl 0 rfl) ?_
                      refine vp_callSi (W.runV (As := [.int x34328_3, .int mm, .int x34674_5]) (rest := []) ⟨hx, hb, hml, hown, ht⟩ (c_X12_ovenOf_0 l dC dI h g ca (u2 (u2 iv 12 60 w34328_i_12_60) 12 61 w34328_i_12_61) lv (u2 fa 12 59 w34674_a_12_59) la (IX_a (c := 12) (k := 59) (IX_i (c := 12) (k := 61) (IX_i (c := 12) (k := 60) hI (full_i _)) (full_i _)) hw34674_a_12_59) x34328_3 mm x34674_5 (show 1 ≤ ((iv 12 57) : Int32).toInt ∧ ((iv 12 57) : Int32).toInt ≤ 8 from ⟨by omega, by omega⟩) ⟨by omega, by omega⟩ ⟨by omega, by omega⟩ ⟨by omega, by omega⟩ (show (x34674_5 : Int32).toInt + 1 ≤ ((iv 12 57) : Int32).toInt from by omega)) (kV 3 ht m_1652 m_1654 m_70 m_89 m_1655 rfl rfl hd_X12_ovenOf_v ⟨Nat.le_of_ble_eq_true rfl, Nat.le_of_ble_eq_true rfl⟩) (vR hP hK (rM_12 hK hP)) rfl rfl hl.1 rfl (lv_room (Nat.le_of_ble_eq_true rfl)) dX12_findOrder_69 ⟨Nat.le_of_ble_eq_true rfl, Nat.le_of_ble_eq_true rfl⟩) (fun r34682 hr34682 => ?_)
                      refine lv_istore (lv' := [(6, .int r34682), (5, .int x34674_5), (4, .int x34674_4), (3, .int x34328_3), (2, .int r22342), (0, .ref h), (1, .int mm)]) hx hb dX12_findOrder_72 hl (by decide) rfl (fun ls hl => ?_)
                      refine lv_aload_n hx hb dX12_findOrder_74 rfl (lv_at hl 5 rfl) ?_
                      refine gM_12_59 hx hb ht hown hK hP m_1198 dX12_findOrder_75 ?_
                      refine lv_iload hx hb dX12_findOrder_78 (lv_at hl 0 rfl) ?_
                      refine lv_dup2_11 hx hb dX12_findOrder_80 rfl rfl ?_
                      refine lM_12_59 hx hb hK hP (f := w34674_a_12_59) rfl (vp_in_iff.mpr ⟨by omega, by omega⟩) dX12_findOrder_81 ?_
                      refine lv_topi (fun v34683 ev34683 => ?_)
                      refine lv_aload_n hx hb dX12_findOrder_82 rfl (lv_at hl 5 rfl) ?_
                      refine gM_12_58 hx hb ht hown hK hP m_1197 dX12_findOrder_83 ?_
                      refine lv_iload hx hb dX12_findOrder_86 (lv_at hl 1 rfl) ?_
                      refine lM_12_58 hx hb hK hP (f := (fa 12 58)) rfl (vp_in_iff.mpr ⟨by omega, by omega⟩) dX12_findOrder_88 ?_
                      refine lv_topi (fun v34684 ev34684 => ?_)
                      refine lv_iadd hx hb dX12_findOrder_89 ?_
                      refine lv_topi (fun v34685 ev34685 => ?_)
                      refine tM_12_59 hx hb hK hP hD hS (f0 := w34674_a_12_59) rfl (i := r34682) (x := v34685) (vp_in_iff.mpr ⟨by omega, by omega⟩) dX12_findOrder_90 (fun f34686 ef34686 H locs hP hD hS => ?_)
                      have hf34686 : ∀ j, inb (bA 12 59 j) (f34686 j) := fun j => full_i _
                      have hP : va_P (dC, dI) classes (WM h g ca (u2 (u2 iv 12 60 w34328_i_12_60) 12 61 w34328_i_12_61) lv (u2 fa 12 59 f34686) la) H := hP
                      have hD : va_D A (WM h g ca (u2 (u2 iv 12 60 w34328_i_12_60) 12 61 w34328_i_12_61) lv (u2 fa 12 59 f34686) la) := hD
                      refine lv_aload_n hx hb dX12_findOrder_91 rfl (lv_at hl 5 rfl) ?_
                      refine gM_12_59 hx hb ht hown hK hP m_1198 dX12_findOrder_92 ?_
                      refine lv_iload hx hb dX12_findOrder_95 (lv_at hl 0 rfl) ?_
                      refine lM_12_59 hx hb hK hP (f := f34686) rfl (vp_in_iff.mpr ⟨by omega, by omega⟩) dX12_findOrder_97 ?_
                      refine lv_topi (fun v34687 ev34687 => ?_)
                      refine lv_iload hx hb dX12_findOrder_98 (lv_at hl 2 rfl) ?_
                      refine lv_icmp_le (tgt := 113) hx hb dX12_findOrder_100 (by decide) (fun c34688 => ?_) (fun c34688 => ?_)
                      · have fc34688 := z_le (rfl : (v34687).toInt = _) (rfl : (x34674_4).toInt = _) c34688
                        refine lv_iload hx hb dX12_findOrder_113 (lv_at hl 2 rfl) ?_
                        refine lv_istore (lv' := [(4, .int x34674_4), (6, .int r34682), (5, .int x34674_5), (3, .int x34328_3), (2, .int r22342), (0, .ref h), (1, .int mm)]) hx hb dX12_findOrder_115 hl (by decide) rfl (fun ls hl => ?_)
                        obtain ⟨v34689, ev34689⟩ : ∃ y : Int32, y = x34674_5 + 1 := ⟨_, rfl⟩
                        have tv34689 := z_add ev34689 rfl (by decide : (1 : Int32).toInt = 1) (by omega) (by omega)
                        refine lv_iinc (v := v34689) (lv' := [(5, .int v34689), (4, .int x34674_4), (6, .int r34682), (3, .int x34328_3), (2, .int r22342), (0, .ref h), (1, .int mm)]) hx hb dX12_findOrder_117 hl (k := 2) rfl (by rw [ev34689]; rfl) (by decide) rfl (fun ls hl => ?_)
                        refine lv_goto (tgt := 55) hx hb dX12_findOrder_120 (by decide) ?_
                        exact ih34675 v34689 x34674_4 f34686 ⟨by omega, by omega⟩ (by omega) hf34686 (by omega) _ _ ls hP hD hS (lv_sub hl [0, 1, 3, 4, 5, 6] rfl)
                      · have fc34688 := z_nle (rfl : (v34687).toInt = _) (rfl : (x34674_4).toInt = _) c34688
                        refine lv_aload_n hx hb dX12_findOrder_103 rfl (lv_at hl 5 rfl) ?_
                        refine gM_12_59 hx hb ht hown hK hP m_1198 dX12_findOrder_104 ?_
                        refine lv_iload hx hb dX12_findOrder_107 (lv_at hl 0 rfl) ?_
                        refine lM_12_59 hx hb hK hP (f := f34686) rfl (vp_in_iff.mpr ⟨by omega, by omega⟩) dX12_findOrder_109 ?_
                        refine lv_topi (fun v34690 ev34690 => ?_)
                        obtain rfl : v34687 = v34690 := ev34687.trans ev34690.symm
                        refine lv_goto (tgt := 115) hx hb dX12_findOrder_110 (by decide) ?_
                        refine lv_istore (lv' := [(4, .int v34687), (6, .int r34682), (5, .int x34674_5), (3, .int x34328_3), (2, .int r22342), (0, .ref h), (1, .int mm)]) hx hb dX12_findOrder_115 hl (by decide) rfl (fun ls hl => ?_)
                        obtain ⟨v34691, ev34691⟩ : ∃ y : Int32, y = x34674_5 + 1 := ⟨_, rfl⟩
                        have tv34691 := z_add ev34691 rfl (by decide : (1 : Int32).toInt = 1) (by omega) (by omega)
                        refine lv_iinc (v := v34691) (lv' := [(5, .int v34691), (4, .int v34687), (6, .int r34682), (3, .int x34328_3), (2, .int r22342), (0, .ref h), (1, .int mm)]) hx hb dX12_findOrder_117 hl (k := 2) rfl (by rw [ev34691]; rfl) (by decide) rfl (fun ls hl => ?_)
                        refine lv_goto (tgt := 55) hx hb dX12_findOrder_120 (by decide) ?_
                        exact ih34675 v34691 v34687 f34686 ⟨by omega, by omega⟩ (by omega) hf34686 (by omega) _ _ ls hP hD hS (lv_sub hl [0, 1, 3, 4, 5, 6] rfl)
                exact lp34675 9 0 0 w34518_a_12_59 ⟨by decide, by decide⟩ (by decide) hw34518_a_12_59 (by first | decide | omega) _ _ ls hP hD hS (lv_sub hl [0, 1, 2, 3, 4, 5] rfl)
              · have fc34520 := z_nle (by decide : (3 : Int32).toInt = 3) (rfl : (x34518_4).toInt = _) c34520
                refine lv_aload_n hx hb dX12_findOrder_35 rfl (lv_at hl 3 rfl) ?_
                refine gM_12_59 hx hb ht hown hK hP m_1198 dX12_findOrder_36 ?_
                refine lv_iload hx hb dX12_findOrder_39 (lv_at hl 0 rfl) ?_
                refine lv_iconst (v := 0) hx hb dX12_findOrder_41 (by decide) ?_
                refine tM_12_59 hx hb hK hP hD hS (f0 := w34518_a_12_59) rfl (i := x34518_4) (x := 0) (vp_in_iff.mpr ⟨by omega, by omega⟩) dX12_findOrder_42 (fun f34692 ef34692 H locs hP hD hS => ?_)
                have hf34692 : ∀ j, inb (bA 12 59 j) (f34692 j) := fun j => full_i _
                have hP : va_P (dC, dI) classes (WM h g ca (u2 (u2 iv 12 60 w34328_i_12_60) 12 61 w34328_i_12_61) lv (u2 fa 12 59 f34692) la) H := hP
                have hD : va_D A (WM h g ca (u2 (u2 iv 12 60 w34328_i_12_60) 12 61 w34328_i_12_61) lv (u2 fa 12 59 f34692) la) := hD
                obtain ⟨v34693, ev34693⟩ : ∃ y : Int32, y = x34518_4 + 1 := ⟨_, rfl⟩
                have tv34693 := z_add ev34693 rfl (by decide : (1 : Int32).toInt = 1) (by omega) (by omega)
                refine lv_iinc (v := v34693) (lv' := [(4, .int v34693), (3, .int x34328_3), (2, .int r22342), (0, .ref h), (1, .int mm)]) hx hb dX12_findOrder_43 hl (k := 0) rfl (by rw [ev34693]; rfl) (by decide) rfl (fun ls hl => ?_)
                refine lv_goto (tgt := 29) hx hb dX12_findOrder_46 (by decide) ?_
                exact ih34519 v34693 f34692 ⟨by omega, by omega⟩ hf34692 (by omega) _ _ ls hP hD hS (lv_sub hl [0, 1, 2, 3, 4] rfl)
          exact lp34519 4 0 w34328_a_12_59 ⟨by decide, by decide⟩ hw34328_a_12_59 (by first | decide | omega) _ _ ls hP hD hS (lv_sub hl [0, 1, 2, 3, 4] rfl)
    exact lp34329 256 0 (-1) 0 (fa 12 59) ⟨by decide, by decide⟩ (hI.2 12 59) (by first | decide | omega) _ _ ls hP hD hS (lv_sub hl [0, 1, 2, 3] rfl)
  · have hq8 : (iv 12 57) = 6 := z_of (by decide) q1
    rw [hq8]
    have : (6 : Int32).toInt = 6 := by decide
    refine vp_callSi (W.runS (As := [.int mm, .int 6]) (rest := []) ⟨hx, hb, hml, hown, ht⟩ (c_X12_power_6 l dC dI mm ⟨by omega, by omega⟩) (kS 2 ht m_1649 m_1650 m_89 m_1651 rfl rfl hd_X12_power_v ⟨Nat.le_of_ble_eq_true rfl, Nat.le_of_ble_eq_true rfl⟩) (sR noP (hK.sub (tys' := []) [] rfl)) rfl rfl hl.1 rfl (lv_room (Nat.le_of_ble_eq_true rfl)) dX12_findOrder_15 ⟨Nat.le_of_ble_eq_true rfl, Nat.le_of_ble_eq_true rfl⟩) (fun r34694 hr34694 => ?_)
    refine lv_istore_n (lv' := [(2, .int r34694), (0, .ref h), (1, .int mm)]) hx hb dX12_findOrder_18 rfl hl (by decide) rfl (fun ls hl => ?_)
    refine lv_iconst (v := 0) hx hb dX12_findOrder_19 (by decide) ?_
    refine lv_istore_n (lv' := [(3, .int 0), (2, .int r34694), (0, .ref h), (1, .int mm)]) hx hb dX12_findOrder_20 rfl hl (by decide) rfl (fun ls hl => ?_)
    have lp49236 : ∀ (nn49236 : Nat) (x49235_3 : Int32) (w49235_i_12_60 : Int32) (w49235_i_12_61 : Int32) (w49235_a_12_59 : Nat → Int32), 0 ≤ x49235_3.toInt ∧ x49235_3.toInt ≤ 767 → (∀ j, inb (bA 12 59 j) (w49235_a_12_59 j)) → 767 - x49235_3.toInt < (nn49236 : Int) → ∀ (H : Heap) (locs : List Loc), ∀ (ls : Array Slot), va_P (dC, dI) classes (WM h g ca (u2 (u2 iv 12 60 w49235_i_12_60) 12 61 w49235_i_12_61) lv (u2 fa 12 59 w49235_a_12_59) la) H → va_D A (WM h g ca (u2 (u2 iv 12 60 w49235_i_12_60) 12 61 w49235_i_12_61) lv (u2 fa 12 59 w49235_a_12_59) la) → va_S A s.heap H locs → lv_has ls 7 [(3, .int x49235_3), (2, .int r34694), (0, .ref h), (1, .int mm)] → W p l e ({ frames := 2, cells := 0, slots := 0, locals := 46 } : Room) s m ([.ref h, .int mm] : List Value).toArray below meth c H locs 0 0 (MQ below (va_Qv (fun (u : SS) => ∃ (na_12_59 : Nat → Int32) (ni_12_60 : Int32) (ni_12_61 : Int32), u = ((u2 (u2 iv 12 60 ni_12_60) 12 61 ni_12_61), lv, (u2 fa 12 59 na_12_59), la)) (bM (dC, dI) h g ca A) A) ([.ref h, .int mm] : List Value).toArray s 0 0 A) (F0 m 21 ls []) := by
      intro nn49236
      induction nn49236 with
      | zero => intro x49235_3 w49235_i_12_60 w49235_i_12_61 w49235_a_12_59 hx49235_3 hw49235_a_12_59 hm49236; exfalso; omega
      | succ nn49236 ih49236 =>
        intro x49235_3 w49235_i_12_60 w49235_i_12_61 w49235_a_12_59 hx49235_3 hw49235_a_12_59 hm49236 H locs ls hP hD hS hl
        refine lv_iload_n hx hb dX12_findOrder_21 rfl (lv_at hl 0 rfl) ?_
        refine lv_iload_n hx hb dX12_findOrder_22 rfl (lv_at hl 1 rfl) ?_
        refine lv_icmp_ge (tgt := 156) hx hb dX12_findOrder_23 (by decide) (fun c49237 => ?_) (fun c49237 => ?_)
        · have fc49237 := z_le (rfl : (r34694).toInt = _) (rfl : (x49235_3).toInt = _) c49237
          have hP9 : va_P (dC, dI) classes (WM h g ca (u2 (u2 iv 12 60 w49235_i_12_60) 12 61 w49235_i_12_61) lv (u2 fa 12 59 w49235_a_12_59) la) H := hP
          have hD9 : va_D A (WM h g ca (u2 (u2 iv 12 60 w49235_i_12_60) 12 61 w49235_i_12_61) lv (u2 fa 12 59 w49235_a_12_59) la) := hD
          exact W.vret hx hb hr (fun t ht9 hW => ⟨⟨((u2 (u2 iv 12 60 w49235_i_12_60) 12 61 w49235_i_12_61), lv, (u2 fa 12 59 w49235_a_12_59), la), rfl, ⟨w49235_a_12_59, w49235_i_12_60, w49235_i_12_61, rfl⟩, by rw [ht9]; exact hP9, hD9⟩, hS.F ht9⟩) hS.2.2 dX12_findOrder_156
        · have fc49237 := z_nle (rfl : (r34694).toInt = _) (rfl : (x49235_3).toInt = _) c49237
          refine lv_iconst (v := 0) hx hb dX12_findOrder_26 (by decide) ?_
          refine lv_istore (lv' := [(4, .int 0), (3, .int x49235_3), (2, .int r34694), (0, .ref h), (1, .int mm)]) hx hb dX12_findOrder_27 hl (by decide) rfl (fun ls hl => ?_)
          have lp49426 : ∀ (nn49426 : Nat) (x49425_4 : Int32) (w49425_a_12_59 : Nat → Int32), 0 ≤ x49425_4.toInt ∧ x49425_4.toInt ≤ 3 → (∀ j, inb (bA 12 59 j) (w49425_a_12_59 j)) → 3 - x49425_4.toInt < (nn49426 : Int) → ∀ (H : Heap) (locs : List Loc), ∀ (ls : Array Slot), va_P (dC, dI) classes (WM h g ca (u2 (u2 iv 12 60 w49235_i_12_60) 12 61 w49235_i_12_61) lv (u2 fa 12 59 w49425_a_12_59) la) H → va_D A (WM h g ca (u2 (u2 iv 12 60 w49235_i_12_60) 12 61 w49235_i_12_61) lv (u2 fa 12 59 w49425_a_12_59) la) → va_S A s.heap H locs → lv_has ls 7 [(4, .int x49425_4), (3, .int x49235_3), (2, .int r34694), (0, .ref h), (1, .int mm)] → W p l e ({ frames := 2, cells := 0, slots := 0, locals := 46 } : Room) s m ([.ref h, .int mm] : List Value).toArray below meth c H locs 0 0 (MQ below (va_Qv (fun (u : SS) => ∃ (na_12_59 : Nat → Int32) (ni_12_60 : Int32) (ni_12_61 : Int32), u = ((u2 (u2 iv 12 60 ni_12_60) 12 61 ni_12_61), lv, (u2 fa 12 59 na_12_59), la)) (bM (dC, dI) h g ca A) A) ([.ref h, .int mm] : List Value).toArray s 0 0 A) (F0 m 29 ls []) := by
            intro nn49426
            induction nn49426 with
            | zero => intro x49425_4 w49425_a_12_59 hx49425_4 hw49425_a_12_59 hm49426; exfalso; omega
            | succ nn49426 ih49426 =>
              intro x49425_4 w49425_a_12_59 hx49425_4 hw49425_a_12_59 hm49426 H locs ls hP hD hS hl
              refine lv_iload hx hb dX12_findOrder_29 (lv_at hl 0 rfl) ?_
              refine lv_iconst (v := 3) hx hb dX12_findOrder_31 (by decide) ?_
              refine lv_icmp_ge (tgt := 49) hx hb dX12_findOrder_32 (by decide) (fun c49427 => ?_) (fun c49427 => ?_)
              · have fc49427 := z_le (by decide : (3 : Int32).toInt = 3) (rfl : (x49425_4).toInt = _) c49427
                refine lv_iconst (v := 0) hx hb dX12_findOrder_49 (by decide) ?_
                refine lv_istore (lv' := [(4, .int 0), (3, .int x49235_3), (2, .int r34694), (0, .ref h), (1, .int mm)]) hx hb dX12_findOrder_50 hl (by decide) rfl (fun ls hl => ?_)
                refine lv_iconst (v := 0) hx hb dX12_findOrder_52 (by decide) ?_
                refine lv_istore (lv' := [(5, .int 0), (4, .int 0), (3, .int x49235_3), (2, .int r34694), (0, .ref h), (1, .int mm)]) hx hb dX12_findOrder_53 hl (by decide) rfl (fun ls hl => ?_)
                have lp49582 : ∀ (nn49582 : Nat) (x49581_5 : Int32) (x49581_4 : Int32) (w49581_a_12_59 : Nat → Int32), 0 ≤ x49581_5.toInt ∧ x49581_5.toInt ≤ 8 → 0 ≤ x49581_4.toInt → (∀ j, inb (bA 12 59 j) (w49581_a_12_59 j)) → 8 - x49581_5.toInt < (nn49582 : Int) → ∀ (H : Heap) (locs : List Loc), ∀ (ls : Array Slot), va_P (dC, dI) classes (WM h g ca (u2 (u2 iv 12 60 w49235_i_12_60) 12 61 w49235_i_12_61) lv (u2 fa 12 59 w49581_a_12_59) la) H → va_D A (WM h g ca (u2 (u2 iv 12 60 w49235_i_12_60) 12 61 w49235_i_12_61) lv (u2 fa 12 59 w49581_a_12_59) la) → va_S A s.heap H locs → lv_has ls 7 [(5, .int x49581_5), (4, .int x49581_4), (3, .int x49235_3), (2, .int r34694), (0, .ref h), (1, .int mm)] → W p l e ({ frames := 2, cells := 0, slots := 0, locals := 46 } : Room) s m ([.ref h, .int mm] : List Value).toArray below meth c H locs 0 0 (MQ below (va_Qv (fun (u : SS) => ∃ (na_12_59 : Nat → Int32) (ni_12_60 : Int32) (ni_12_61 : Int32), u = ((u2 (u2 iv 12 60 ni_12_60) 12 61 ni_12_61), lv, (u2 fa 12 59 na_12_59), la)) (bM (dC, dI) h g ca A) A) ([.ref h, .int mm] : List Value).toArray s 0 0 A) (F0 m 55 ls []) := by
                  intro nn49582
                  induction nn49582 with
                  | zero => intro x49581_5 x49581_4 w49581_a_12_59 hx49581_5 hx49581_4 hw49581_a_12_59 hm49582; exfalso; omega
                  | succ nn49582 ih49582 =>
                    intro x49581_5 x49581_4 w49581_a_12_59 hx49581_5 hx49581_4 hw49581_a_12_59 hm49582 H locs ls hP hD hS hl
                    refine lv_iload hx hb dX12_findOrder_55 (lv_at hl 0 rfl) ?_
                    refine lv_aload_n hx hb dX12_findOrder_57 rfl (lv_at hl 4 rfl) ?_
                    refine gM_12_57 hx hb ht hown hK hP m_1196 (v := (iv 12 57)) rfl dX12_findOrder_58 ?_
                    refine lv_icmp_ge (tgt := 123) hx hb dX12_findOrder_61 (by decide) (fun c49583 => ?_) (fun c49583 => ?_)
                    · have fc49583 := z_le (rfl : ((iv 12 57)).toInt = _) (rfl : (x49581_5).toInt = _) c49583
                      refine lv_aload_n hx hb dX12_findOrder_123 rfl (lv_at hl 4 rfl) ?_
                      refine gM_12_60 hx hb ht hown hK hP m_1199 (v := w49235_i_12_60) rfl dX12_findOrder_124 ?_
                      refine lv_if_lt (tgt := 139) hx hb dX12_findOrder_127 (by decide) (fun c49584 => ?_) (fun c49584 => ?_)
                      · have fc49584 := z_lt (rfl : (w49235_i_12_60).toInt = _) (by decide : (0 : Int32).toInt = 0) c49584
                        refine lv_aload_n hx hb dX12_findOrder_139 rfl (lv_at hl 4 rfl) ?_
                        refine lv_iload_n hx hb dX12_findOrder_140 rfl (lv_at hl 2 rfl) ?_
                        refine pM_12_60 (v := x49235_3) hx hb ht hown hK hP hD hS m_1199 dX12_findOrder_141 (fun H locs hP hD hS => ?_)
                        have hP : va_P (dC, dI) classes (WM h g ca (u2 (u2 iv 12 60 x49235_3) 12 61 w49235_i_12_61) lv (u2 fa 12 59 w49581_a_12_59) la) H := hP
                        have hD : va_D A (WM h g ca (u2 (u2 iv 12 60 x49235_3) 12 61 w49235_i_12_61) lv (u2 fa 12 59 w49581_a_12_59) la) := hD
                        refine lv_aload_n hx hb dX12_findOrder_144 rfl (lv_at hl 4 rfl) ?_
                        refine lv_iload hx hb dX12_findOrder_145 (lv_at hl 1 rfl) ?_
                        refine pM_12_61 (v := x49581_4) hx hb ht hown hK hP hD hS m_1200 dX12_findOrder_147 (fun H locs hP hD hS => ?_)
                        have hP : va_P (dC, dI) classes (WM h g ca (u2 (u2 iv 12 60 x49235_3) 12 61 x49581_4) lv (u2 fa 12 59 w49581_a_12_59) la) H := hP
                        have hD : va_D A (WM h g ca (u2 (u2 iv 12 60 x49235_3) 12 61 x49581_4) lv (u2 fa 12 59 w49581_a_12_59) la) := hD
                        obtain ⟨v49585, ev49585⟩ : ∃ y : Int32, y = x49235_3 + 1 := ⟨_, rfl⟩
                        have tv49585 := z_add ev49585 rfl (by decide : (1 : Int32).toInt = 1) (by omega) (by omega)
                        refine lv_iinc (v := v49585) (lv' := [(3, .int v49585), (5, .int x49581_5), (4, .int x49581_4), (2, .int r34694), (0, .ref h), (1, .int mm)]) hx hb dX12_findOrder_150 hl (k := 2) rfl (by rw [ev49585]; rfl) (by decide) rfl (fun ls hl => ?_)
                        refine lv_goto (tgt := 21) hx hb dX12_findOrder_153 (by decide) ?_
                        exact ih49236 v49585 x49235_3 x49581_4 w49581_a_12_59 ⟨by omega, by omega⟩ hw49581_a_12_59 (by omega) _ _ ls hP hD hS (lv_sub hl [0, 3, 4, 5] rfl)
                      · have fc49584 := z_nlt (rfl : (w49235_i_12_60).toInt = _) (by decide : (0 : Int32).toInt = 0) c49584
                        refine lv_iload hx hb dX12_findOrder_130 (lv_at hl 1 rfl) ?_
                        refine lv_aload_n hx hb dX12_findOrder_132 rfl (lv_at hl 4 rfl) ?_
                        refine gM_12_61 hx hb ht hown hK hP m_1200 (v := w49235_i_12_61) rfl dX12_findOrder_133 ?_
                        refine lv_icmp_ge (tgt := 150) hx hb dX12_findOrder_136 (by decide) (fun c49586 => ?_) (fun c49586 => ?_)
                        · have fc49586 := z_le (rfl : (w49235_i_12_61).toInt = _) (rfl : (x49581_4).toInt = _) c49586
                          obtain ⟨v49587, ev49587⟩ : ∃ y : Int32, y = x49235_3 + 1 := ⟨_, rfl⟩
                          have tv49587 := z_add ev49587 rfl (by decide : (1 : Int32).toInt = 1) (by omega) (by omega)
                          refine lv_iinc (v := v49587) (lv' := [(3, .int v49587), (5, .int x49581_5), (4, .int x49581_4), (2, .int r34694), (0, .ref h), (1, .int mm)]) hx hb dX12_findOrder_150 hl (k := 2) rfl (by rw [ev49587]; rfl) (by decide) rfl (fun ls hl => ?_)
                          refine lv_goto (tgt := 21) hx hb dX12_findOrder_153 (by decide) ?_
                          exact ih49236 v49587 w49235_i_12_60 w49235_i_12_61 w49581_a_12_59 ⟨by omega, by omega⟩ hw49581_a_12_59 (by omega) _ _ ls hP hD hS (lv_sub hl [0, 3, 4, 5] rfl)
                        · have fc49586 := z_nle (rfl : (w49235_i_12_61).toInt = _) (rfl : (x49581_4).toInt = _) c49586
                          refine lv_aload_n hx hb dX12_findOrder_139 rfl (lv_at hl 4 rfl) ?_
                          refine lv_iload_n hx hb dX12_findOrder_140 rfl (lv_at hl 2 rfl) ?_
                          refine pM_12_60 (v := x49235_3) hx hb ht hown hK hP hD hS m_1199 dX12_findOrder_141 (fun H locs hP hD hS => ?_)
                          have hP : va_P (dC, dI) classes (WM h g ca (u2 (u2 iv 12 60 x49235_3) 12 61 w49235_i_12_61) lv (u2 fa 12 59 w49581_a_12_59) la) H := hP
                          have hD : va_D A (WM h g ca (u2 (u2 iv 12 60 x49235_3) 12 61 w49235_i_12_61) lv (u2 fa 12 59 w49581_a_12_59) la) := hD
                          refine lv_aload_n hx hb dX12_findOrder_144 rfl (lv_at hl 4 rfl) ?_
                          refine lv_iload hx hb dX12_findOrder_145 (lv_at hl 1 rfl) ?_
                          refine pM_12_61 (v := x49581_4) hx hb ht hown hK hP hD hS m_1200 dX12_findOrder_147 (fun H locs hP hD hS => ?_)
                          have hP : va_P (dC, dI) classes (WM h g ca (u2 (u2 iv 12 60 x49235_3) 12 61 x49581_4) lv (u2 fa 12 59 w49581_a_12_59) la) H := hP
                          have hD : va_D A (WM h g ca (u2 (u2 iv 12 60 x49235_3) 12 61 x49581_4) lv (u2 fa 12 59 w49581_a_12_59) la) := hD
                          obtain ⟨v49588, ev49588⟩ : ∃ y : Int32, y = x49235_3 + 1 := ⟨_, rfl⟩
                          have tv49588 := z_add ev49588 rfl (by decide : (1 : Int32).toInt = 1) (by omega) (by omega)
                          refine lv_iinc (v := v49588) (lv' := [(3, .int v49588), (5, .int x49581_5), (4, .int x49581_4), (2, .int r34694), (0, .ref h), (1, .int mm)]) hx hb dX12_findOrder_150 hl (k := 2) rfl (by rw [ev49588]; rfl) (by decide) rfl (fun ls hl => ?_)
                          refine lv_goto (tgt := 21) hx hb dX12_findOrder_153 (by decide) ?_
                          exact ih49236 v49588 x49235_3 x49581_4 w49581_a_12_59 ⟨by omega, by omega⟩ hw49581_a_12_59 (by omega) _ _ ls hP hD hS (lv_sub hl [0, 3, 4, 5] rfl)
                    · have fc49583 := z_nle (rfl : ((iv 12 57)).toInt = _) (rfl : (x49581_5).toInt = _) c49583
                      refine lv_aload_n hx hb dX12_findOrder_64 rfl (lv_at hl 4 rfl) ?_
                      refine lv_iload_n hx hb dX12_findOrder_65 rfl (lv_at hl 2 rfl) ?_
                      refine lv_iload_n hx hb dX12_findOrder_66 rfl (lv_at hl 5 rfl) ?_
                      refine lv_iload hx hb dX12_findOrder_67 (lv_at hl 0 rfl) ?_
                      refine vp_callSi (W.runV (As := [.int x49235_3, .int mm, .int x49581_5]) (rest := []) ⟨hx, hb, hml, hown, ht⟩ (c_X12_ovenOf_0 l dC dI h g ca (u2 (u2 iv 12 60 w49235_i_12_60) 12 61 w49235_i_12_61) lv (u2 fa 12 59 w49581_a_12_59) la (IX_a (c := 12) (k := 59) (IX_i (c := 12) (k := 61) (IX_i (c := 12) (k := 60) hI (full_i _)) (full_i _)) hw49581_a_12_59) x49235_3 mm x49581_5 (show 1 ≤ ((iv 12 57) : Int32).toInt ∧ ((iv 12 57) : Int32).toInt ≤ 8 from ⟨by omega, by omega⟩) ⟨by omega, by omega⟩ ⟨by omega, by omega⟩ ⟨by omega, by omega⟩ (show (x49581_5 : Int32).toInt + 1 ≤ ((iv 12 57) : Int32).toInt from by omega)) (kV 3 ht m_1652 m_1654 m_70 m_89 m_1655 rfl rfl hd_X12_ovenOf_v ⟨Nat.le_of_ble_eq_true rfl, Nat.le_of_ble_eq_true rfl⟩) (vR hP hK (rM_12 hK hP)) rfl rfl hl.1 rfl (lv_room (Nat.le_of_ble_eq_true rfl)) dX12_findOrder_69 ⟨Nat.le_of_ble_eq_true rfl, Nat.le_of_ble_eq_true rfl⟩) (fun r49589 hr49589 => ?_)
                      refine lv_istore (lv' := [(6, .int r49589), (5, .int x49581_5), (4, .int x49581_4), (3, .int x49235_3), (2, .int r34694), (0, .ref h), (1, .int mm)]) hx hb dX12_findOrder_72 hl (by decide) rfl (fun ls hl => ?_)
                      refine lv_aload_n hx hb dX12_findOrder_74 rfl (lv_at hl 5 rfl) ?_
                      refine gM_12_59 hx hb ht hown hK hP m_1198 dX12_findOrder_75 ?_
                      refine lv_iload hx hb dX12_findOrder_78 (lv_at hl 0 rfl) ?_
                      refine lv_dup2_11 hx hb dX12_findOrder_80 rfl rfl ?_
                      refine lM_12_59 hx hb hK hP (f := w49581_a_12_59) rfl (vp_in_iff.mpr ⟨by omega, by omega⟩) dX12_findOrder_81 ?_
                      refine lv_topi (fun v49590 ev49590 => ?_)
                      refine lv_aload_n hx hb dX12_findOrder_82 rfl (lv_at hl 5 rfl) ?_
                      refine gM_12_58 hx hb ht hown hK hP m_1197 dX12_findOrder_83 ?_
                      refine lv_iload hx hb dX12_findOrder_86 (lv_at hl 1 rfl) ?_
                      refine lM_12_58 hx hb hK hP (f := (fa 12 58)) rfl (vp_in_iff.mpr ⟨by omega, by omega⟩) dX12_findOrder_88 ?_
                      refine lv_topi (fun v49591 ev49591 => ?_)
                      refine lv_iadd hx hb dX12_findOrder_89 ?_
                      refine lv_topi (fun v49592 ev49592 => ?_)
                      refine tM_12_59 hx hb hK hP hD hS (f0 := w49581_a_12_59) rfl (i := r49589) (x := v49592) (vp_in_iff.mpr ⟨by omega, by omega⟩) dX12_findOrder_90 (fun f49593 ef49593 H locs hP hD hS => ?_)
                      have hf49593 : ∀ j, inb (bA 12 59 j) (f49593 j) := fun j => full_i _
                      have hP : va_P (dC, dI) classes (WM h g ca (u2 (u2 iv 12 60 w49235_i_12_60) 12 61 w49235_i_12_61) lv (u2 fa 12 59 f49593) la) H := hP
                      have hD : va_D A (WM h g ca (u2 (u2 iv 12 60 w49235_i_12_60) 12 61 w49235_i_12_61) lv (u2 fa 12 59 f49593) la) := hD
                      refine lv_aload_n hx hb dX12_findOrder_91 rfl (lv_at hl 5 rfl) ?_
                      refine gM_12_59 hx hb ht hown hK hP m_1198 dX12_findOrder_92 ?_
                      refine lv_iload hx hb dX12_findOrder_95 (lv_at hl 0 rfl) ?_
                      refine lM_12_59 hx hb hK hP (f := f49593) rfl (vp_in_iff.mpr ⟨by omega, by omega⟩) dX12_findOrder_97 ?_
                      refine lv_topi (fun v49594 ev49594 => ?_)
                      refine lv_iload hx hb dX12_findOrder_98 (lv_at hl 2 rfl) ?_
                      refine lv_icmp_le (tgt := 113) hx hb dX12_findOrder_100 (by decide) (fun c49595 => ?_) (fun c49595 => ?_)
                      · have fc49595 := z_le (rfl : (v49594).toInt = _) (rfl : (x49581_4).toInt = _) c49595
                        refine lv_iload hx hb dX12_findOrder_113 (lv_at hl 2 rfl) ?_
                        refine lv_istore (lv' := [(4, .int x49581_4), (6, .int r49589), (5, .int x49581_5), (3, .int x49235_3), (2, .int r34694), (0, .ref h), (1, .int mm)]) hx hb dX12_findOrder_115 hl (by decide) rfl (fun ls hl => ?_)
                        obtain ⟨v49596, ev49596⟩ : ∃ y : Int32, y = x49581_5 + 1 := ⟨_, rfl⟩
                        have tv49596 := z_add ev49596 rfl (by decide : (1 : Int32).toInt = 1) (by omega) (by omega)
                        refine lv_iinc (v := v49596) (lv' := [(5, .int v49596), (4, .int x49581_4), (6, .int r49589), (3, .int x49235_3), (2, .int r34694), (0, .ref h), (1, .int mm)]) hx hb dX12_findOrder_117 hl (k := 2) rfl (by rw [ev49596]; rfl) (by decide) rfl (fun ls hl => ?_)
                        refine lv_goto (tgt := 55) hx hb dX12_findOrder_120 (by decide) ?_
                        exact ih49582 v49596 x49581_4 f49593 ⟨by omega, by omega⟩ (by omega) hf49593 (by omega) _ _ ls hP hD hS (lv_sub hl [0, 1, 3, 4, 5, 6] rfl)
                      · have fc49595 := z_nle (rfl : (v49594).toInt = _) (rfl : (x49581_4).toInt = _) c49595
                        refine lv_aload_n hx hb dX12_findOrder_103 rfl (lv_at hl 5 rfl) ?_
                        refine gM_12_59 hx hb ht hown hK hP m_1198 dX12_findOrder_104 ?_
                        refine lv_iload hx hb dX12_findOrder_107 (lv_at hl 0 rfl) ?_
                        refine lM_12_59 hx hb hK hP (f := f49593) rfl (vp_in_iff.mpr ⟨by omega, by omega⟩) dX12_findOrder_109 ?_
                        refine lv_topi (fun v49597 ev49597 => ?_)
                        obtain rfl : v49594 = v49597 := ev49594.trans ev49597.symm
                        refine lv_goto (tgt := 115) hx hb dX12_findOrder_110 (by decide) ?_
                        refine lv_istore (lv' := [(4, .int v49594), (6, .int r49589), (5, .int x49581_5), (3, .int x49235_3), (2, .int r34694), (0, .ref h), (1, .int mm)]) hx hb dX12_findOrder_115 hl (by decide) rfl (fun ls hl => ?_)
                        obtain ⟨v49598, ev49598⟩ : ∃ y : Int32, y = x49581_5 + 1 := ⟨_, rfl⟩
                        have tv49598 := z_add ev49598 rfl (by decide : (1 : Int32).toInt = 1) (by omega) (by omega)
                        refine lv_iinc (v := v49598) (lv' := [(5, .int v49598), (4, .int v49594), (6, .int r49589), (3, .int x49235_3), (2, .int r34694), (0, .ref h), (1, .int mm)]) hx hb dX12_findOrder_117 hl (k := 2) rfl (by rw [ev49598]; rfl) (by decide) rfl (fun ls hl => ?_)
                        refine lv_goto (tgt := 55) hx hb dX12_findOrder_120 (by decide) ?_
                        exact ih49582 v49598 v49594 f49593 ⟨by omega, by omega⟩ (by omega) hf49593 (by omega) _ _ ls hP hD hS (lv_sub hl [0, 1, 3, 4, 5, 6] rfl)
                exact lp49582 9 0 0 w49425_a_12_59 ⟨by decide, by decide⟩ (by decide) hw49425_a_12_59 (by first | decide | omega) _ _ ls hP hD hS (lv_sub hl [0, 1, 2, 3, 4, 5] rfl)
              · have fc49427 := z_nle (by decide : (3 : Int32).toInt = 3) (rfl : (x49425_4).toInt = _) c49427
                refine lv_aload_n hx hb dX12_findOrder_35 rfl (lv_at hl 3 rfl) ?_
                refine gM_12_59 hx hb ht hown hK hP m_1198 dX12_findOrder_36 ?_
                refine lv_iload hx hb dX12_findOrder_39 (lv_at hl 0 rfl) ?_
                refine lv_iconst (v := 0) hx hb dX12_findOrder_41 (by decide) ?_
                refine tM_12_59 hx hb hK hP hD hS (f0 := w49425_a_12_59) rfl (i := x49425_4) (x := 0) (vp_in_iff.mpr ⟨by omega, by omega⟩) dX12_findOrder_42 (fun f49599 ef49599 H locs hP hD hS => ?_)
                have hf49599 : ∀ j, inb (bA 12 59 j) (f49599 j) := fun j => full_i _
                have hP : va_P (dC, dI) classes (WM h g ca (u2 (u2 iv 12 60 w49235_i_12_60) 12 61 w49235_i_12_61) lv (u2 fa 12 59 f49599) la) H := hP
                have hD : va_D A (WM h g ca (u2 (u2 iv 12 60 w49235_i_12_60) 12 61 w49235_i_12_61) lv (u2 fa 12 59 f49599) la) := hD
                obtain ⟨v49600, ev49600⟩ : ∃ y : Int32, y = x49425_4 + 1 := ⟨_, rfl⟩
                have tv49600 := z_add ev49600 rfl (by decide : (1 : Int32).toInt = 1) (by omega) (by omega)
                refine lv_iinc (v := v49600) (lv' := [(4, .int v49600), (3, .int x49235_3), (2, .int r34694), (0, .ref h), (1, .int mm)]) hx hb dX12_findOrder_43 hl (k := 0) rfl (by rw [ev49600]; rfl) (by decide) rfl (fun ls hl => ?_)
                refine lv_goto (tgt := 29) hx hb dX12_findOrder_46 (by decide) ?_
                exact ih49426 v49600 f49599 ⟨by omega, by omega⟩ hf49599 (by omega) _ _ ls hP hD hS (lv_sub hl [0, 1, 2, 3, 4] rfl)
          exact lp49426 4 0 w49235_a_12_59 ⟨by decide, by decide⟩ hw49235_a_12_59 (by first | decide | omega) _ _ ls hP hD hS (lv_sub hl [0, 1, 2, 3, 4] rfl)
    exact lp49236 768 0 (-1) 0 (fa 12 59) ⟨by decide, by decide⟩ (hI.2 12 59) (by first | decide | omega) _ _ ls hP hD hS (lv_sub hl [0, 1, 2, 3] rfl)
  · have hq8 : (iv 12 57) = 7 := z_of (by decide) q1
    rw [hq8]
    have : (7 : Int32).toInt = 7 := by decide
    refine vp_callSi (W.runS (As := [.int mm, .int 7]) (rest := []) ⟨hx, hb, hml, hown, ht⟩ (c_X12_power_7 l dC dI mm ⟨by omega, by omega⟩) (kS 2 ht m_1649 m_1650 m_89 m_1651 rfl rfl hd_X12_power_v ⟨Nat.le_of_ble_eq_true rfl, Nat.le_of_ble_eq_true rfl⟩) (sR noP (hK.sub (tys' := []) [] rfl)) rfl rfl hl.1 rfl (lv_room (Nat.le_of_ble_eq_true rfl)) dX12_findOrder_15 ⟨Nat.le_of_ble_eq_true rfl, Nat.le_of_ble_eq_true rfl⟩) (fun r49601 hr49601 => ?_)
    refine lv_istore_n (lv' := [(2, .int r49601), (0, .ref h), (1, .int mm)]) hx hb dX12_findOrder_18 rfl hl (by decide) rfl (fun ls hl => ?_)
    refine lv_iconst (v := 0) hx hb dX12_findOrder_19 (by decide) ?_
    refine lv_istore_n (lv' := [(3, .int 0), (2, .int r49601), (0, .ref h), (1, .int mm)]) hx hb dX12_findOrder_20 rfl hl (by decide) rfl (fun ls hl => ?_)
    have lp65603 : ∀ (nn65603 : Nat) (x65602_3 : Int32) (w65602_i_12_60 : Int32) (w65602_i_12_61 : Int32) (w65602_a_12_59 : Nat → Int32), 0 ≤ x65602_3.toInt ∧ x65602_3.toInt ≤ 3000 → (∀ j, inb (bA 12 59 j) (w65602_a_12_59 j)) → 3000 - x65602_3.toInt < (nn65603 : Int) → ∀ (H : Heap) (locs : List Loc), ∀ (ls : Array Slot), va_P (dC, dI) classes (WM h g ca (u2 (u2 iv 12 60 w65602_i_12_60) 12 61 w65602_i_12_61) lv (u2 fa 12 59 w65602_a_12_59) la) H → va_D A (WM h g ca (u2 (u2 iv 12 60 w65602_i_12_60) 12 61 w65602_i_12_61) lv (u2 fa 12 59 w65602_a_12_59) la) → va_S A s.heap H locs → lv_has ls 7 [(3, .int x65602_3), (2, .int r49601), (0, .ref h), (1, .int mm)] → W p l e ({ frames := 2, cells := 0, slots := 0, locals := 46 } : Room) s m ([.ref h, .int mm] : List Value).toArray below meth c H locs 0 0 (MQ below (va_Qv (fun (u : SS) => ∃ (na_12_59 : Nat → Int32) (ni_12_60 : Int32) (ni_12_61 : Int32), u = ((u2 (u2 iv 12 60 ni_12_60) 12 61 ni_12_61), lv, (u2 fa 12 59 na_12_59), la)) (bM (dC, dI) h g ca A) A) ([.ref h, .int mm] : List Value).toArray s 0 0 A) (F0 m 21 ls []) := by
      intro nn65603
      induction nn65603 with
      | zero => intro x65602_3 w65602_i_12_60 w65602_i_12_61 w65602_a_12_59 hx65602_3 hw65602_a_12_59 hm65603; exfalso; omega
      | succ nn65603 ih65603 =>
        intro x65602_3 w65602_i_12_60 w65602_i_12_61 w65602_a_12_59 hx65602_3 hw65602_a_12_59 hm65603 H locs ls hP hD hS hl
        refine lv_iload_n hx hb dX12_findOrder_21 rfl (lv_at hl 0 rfl) ?_
        refine lv_iload_n hx hb dX12_findOrder_22 rfl (lv_at hl 1 rfl) ?_
        refine lv_icmp_ge (tgt := 156) hx hb dX12_findOrder_23 (by decide) (fun c65604 => ?_) (fun c65604 => ?_)
        · have fc65604 := z_le (rfl : (r49601).toInt = _) (rfl : (x65602_3).toInt = _) c65604
          have hP9 : va_P (dC, dI) classes (WM h g ca (u2 (u2 iv 12 60 w65602_i_12_60) 12 61 w65602_i_12_61) lv (u2 fa 12 59 w65602_a_12_59) la) H := hP
          have hD9 : va_D A (WM h g ca (u2 (u2 iv 12 60 w65602_i_12_60) 12 61 w65602_i_12_61) lv (u2 fa 12 59 w65602_a_12_59) la) := hD
          exact W.vret hx hb hr (fun t ht9 hW => ⟨⟨((u2 (u2 iv 12 60 w65602_i_12_60) 12 61 w65602_i_12_61), lv, (u2 fa 12 59 w65602_a_12_59), la), rfl, ⟨w65602_a_12_59, w65602_i_12_60, w65602_i_12_61, rfl⟩, by rw [ht9]; exact hP9, hD9⟩, hS.F ht9⟩) hS.2.2 dX12_findOrder_156
        · have fc65604 := z_nle (rfl : (r49601).toInt = _) (rfl : (x65602_3).toInt = _) c65604
          refine lv_iconst (v := 0) hx hb dX12_findOrder_26 (by decide) ?_
          refine lv_istore (lv' := [(4, .int 0), (3, .int x65602_3), (2, .int r49601), (0, .ref h), (1, .int mm)]) hx hb dX12_findOrder_27 hl (by decide) rfl (fun ls hl => ?_)
          have lp65793 : ∀ (nn65793 : Nat) (x65792_4 : Int32) (w65792_a_12_59 : Nat → Int32), 0 ≤ x65792_4.toInt ∧ x65792_4.toInt ≤ 3 → (∀ j, inb (bA 12 59 j) (w65792_a_12_59 j)) → 3 - x65792_4.toInt < (nn65793 : Int) → ∀ (H : Heap) (locs : List Loc), ∀ (ls : Array Slot), va_P (dC, dI) classes (WM h g ca (u2 (u2 iv 12 60 w65602_i_12_60) 12 61 w65602_i_12_61) lv (u2 fa 12 59 w65792_a_12_59) la) H → va_D A (WM h g ca (u2 (u2 iv 12 60 w65602_i_12_60) 12 61 w65602_i_12_61) lv (u2 fa 12 59 w65792_a_12_59) la) → va_S A s.heap H locs → lv_has ls 7 [(4, .int x65792_4), (3, .int x65602_3), (2, .int r49601), (0, .ref h), (1, .int mm)] → W p l e ({ frames := 2, cells := 0, slots := 0, locals := 46 } : Room) s m ([.ref h, .int mm] : List Value).toArray below meth c H locs 0 0 (MQ below (va_Qv (fun (u : SS) => ∃ (na_12_59 : Nat → Int32) (ni_12_60 : Int32) (ni_12_61 : Int32), u = ((u2 (u2 iv 12 60 ni_12_60) 12 61 ni_12_61), lv, (u2 fa 12 59 na_12_59), la)) (bM (dC, dI) h g ca A) A) ([.ref h, .int mm] : List Value).toArray s 0 0 A) (F0 m 29 ls []) := by
            intro nn65793
            induction nn65793 with
            | zero => intro x65792_4 w65792_a_12_59 hx65792_4 hw65792_a_12_59 hm65793; exfalso; omega
            | succ nn65793 ih65793 =>
              intro x65792_4 w65792_a_12_59 hx65792_4 hw65792_a_12_59 hm65793 H locs ls hP hD hS hl
              refine lv_iload hx hb dX12_findOrder_29 (lv_at hl 0 rfl) ?_
              refine lv_iconst (v := 3) hx hb dX12_findOrder_31 (by decide) ?_
              refine lv_icmp_ge (tgt := 49) hx hb dX12_findOrder_32 (by decide) (fun c65794 => ?_) (fun c65794 => ?_)
              · have fc65794 := z_le (by decide : (3 : Int32).toInt = 3) (rfl : (x65792_4).toInt = _) c65794
                refine lv_iconst (v := 0) hx hb dX12_findOrder_49 (by decide) ?_
                refine lv_istore (lv' := [(4, .int 0), (3, .int x65602_3), (2, .int r49601), (0, .ref h), (1, .int mm)]) hx hb dX12_findOrder_50 hl (by decide) rfl (fun ls hl => ?_)
                refine lv_iconst (v := 0) hx hb dX12_findOrder_52 (by decide) ?_
                refine lv_istore (lv' := [(5, .int 0), (4, .int 0), (3, .int x65602_3), (2, .int r49601), (0, .ref h), (1, .int mm)]) hx hb dX12_findOrder_53 hl (by decide) rfl (fun ls hl => ?_)
                have lp65949 : ∀ (nn65949 : Nat) (x65948_5 : Int32) (x65948_4 : Int32) (w65948_a_12_59 : Nat → Int32), 0 ≤ x65948_5.toInt ∧ x65948_5.toInt ≤ 8 → 0 ≤ x65948_4.toInt → (∀ j, inb (bA 12 59 j) (w65948_a_12_59 j)) → 8 - x65948_5.toInt < (nn65949 : Int) → ∀ (H : Heap) (locs : List Loc), ∀ (ls : Array Slot), va_P (dC, dI) classes (WM h g ca (u2 (u2 iv 12 60 w65602_i_12_60) 12 61 w65602_i_12_61) lv (u2 fa 12 59 w65948_a_12_59) la) H → va_D A (WM h g ca (u2 (u2 iv 12 60 w65602_i_12_60) 12 61 w65602_i_12_61) lv (u2 fa 12 59 w65948_a_12_59) la) → va_S A s.heap H locs → lv_has ls 7 [(5, .int x65948_5), (4, .int x65948_4), (3, .int x65602_3), (2, .int r49601), (0, .ref h), (1, .int mm)] → W p l e ({ frames := 2, cells := 0, slots := 0, locals := 46 } : Room) s m ([.ref h, .int mm] : List Value).toArray below meth c H locs 0 0 (MQ below (va_Qv (fun (u : SS) => ∃ (na_12_59 : Nat → Int32) (ni_12_60 : Int32) (ni_12_61 : Int32), u = ((u2 (u2 iv 12 60 ni_12_60) 12 61 ni_12_61), lv, (u2 fa 12 59 na_12_59), la)) (bM (dC, dI) h g ca A) A) ([.ref h, .int mm] : List Value).toArray s 0 0 A) (F0 m 55 ls []) := by
                  intro nn65949
                  induction nn65949 with
                  | zero => intro x65948_5 x65948_4 w65948_a_12_59 hx65948_5 hx65948_4 hw65948_a_12_59 hm65949; exfalso; omega
                  | succ nn65949 ih65949 =>
                    intro x65948_5 x65948_4 w65948_a_12_59 hx65948_5 hx65948_4 hw65948_a_12_59 hm65949 H locs ls hP hD hS hl
                    refine lv_iload hx hb dX12_findOrder_55 (lv_at hl 0 rfl) ?_
                    refine lv_aload_n hx hb dX12_findOrder_57 rfl (lv_at hl 4 rfl) ?_
                    refine gM_12_57 hx hb ht hown hK hP m_1196 (v := (iv 12 57)) rfl dX12_findOrder_58 ?_
                    refine lv_icmp_ge (tgt := 123) hx hb dX12_findOrder_61 (by decide) (fun c65950 => ?_) (fun c65950 => ?_)
                    · have fc65950 := z_le (rfl : ((iv 12 57)).toInt = _) (rfl : (x65948_5).toInt = _) c65950
                      refine lv_aload_n hx hb dX12_findOrder_123 rfl (lv_at hl 4 rfl) ?_
                      refine gM_12_60 hx hb ht hown hK hP m_1199 (v := w65602_i_12_60) rfl dX12_findOrder_124 ?_
                      refine lv_if_lt (tgt := 139) hx hb dX12_findOrder_127 (by decide) (fun c65951 => ?_) (fun c65951 => ?_)
                      · have fc65951 := z_lt (rfl : (w65602_i_12_60).toInt = _) (by decide : (0 : Int32).toInt = 0) c65951
                        refine lv_aload_n hx hb dX12_findOrder_139 rfl (lv_at hl 4 rfl) ?_
                        refine lv_iload_n hx hb dX12_findOrder_140 rfl (lv_at hl 2 rfl) ?_
                        refine pM_12_60 (v := x65602_3) hx hb ht hown hK hP hD hS m_1199 dX12_findOrder_141 (fun H locs hP hD hS => ?_)
                        have hP : va_P (dC, dI) classes (WM h g ca (u2 (u2 iv 12 60 x65602_3) 12 61 w65602_i_12_61) lv (u2 fa 12 59 w65948_a_12_59) la) H := hP
                        have hD : va_D A (WM h g ca (u2 (u2 iv 12 60 x65602_3) 12 61 w65602_i_12_61) lv (u2 fa 12 59 w65948_a_12_59) la) := hD
                        refine lv_aload_n hx hb dX12_findOrder_144 rfl (lv_at hl 4 rfl) ?_
                        refine lv_iload hx hb dX12_findOrder_145 (lv_at hl 1 rfl) ?_
                        refine pM_12_61 (v := x65948_4) hx hb ht hown hK hP hD hS m_1200 dX12_findOrder_147 (fun H locs hP hD hS => ?_)
                        have hP : va_P (dC, dI) classes (WM h g ca (u2 (u2 iv 12 60 x65602_3) 12 61 x65948_4) lv (u2 fa 12 59 w65948_a_12_59) la) H := hP
                        have hD : va_D A (WM h g ca (u2 (u2 iv 12 60 x65602_3) 12 61 x65948_4) lv (u2 fa 12 59 w65948_a_12_59) la) := hD
                        obtain ⟨v65952, ev65952⟩ : ∃ y : Int32, y = x65602_3 + 1 := ⟨_, rfl⟩
                        have tv65952 := z_add ev65952 rfl (by decide : (1 : Int32).toInt = 1) (by omega) (by omega)
                        refine lv_iinc (v := v65952) (lv' := [(3, .int v65952), (5, .int x65948_5), (4, .int x65948_4), (2, .int r49601), (0, .ref h), (1, .int mm)]) hx hb dX12_findOrder_150 hl (k := 2) rfl (by rw [ev65952]; rfl) (by decide) rfl (fun ls hl => ?_)
                        refine lv_goto (tgt := 21) hx hb dX12_findOrder_153 (by decide) ?_
                        exact ih65603 v65952 x65602_3 x65948_4 w65948_a_12_59 ⟨by omega, by omega⟩ hw65948_a_12_59 (by omega) _ _ ls hP hD hS (lv_sub hl [0, 3, 4, 5] rfl)
                      · have fc65951 := z_nlt (rfl : (w65602_i_12_60).toInt = _) (by decide : (0 : Int32).toInt = 0) c65951
                        refine lv_iload hx hb dX12_findOrder_130 (lv_at hl 1 rfl) ?_
                        refine lv_aload_n hx hb dX12_findOrder_132 rfl (lv_at hl 4 rfl) ?_
                        refine gM_12_61 hx hb ht hown hK hP m_1200 (v := w65602_i_12_61) rfl dX12_findOrder_133 ?_
                        refine lv_icmp_ge (tgt := 150) hx hb dX12_findOrder_136 (by decide) (fun c65953 => ?_) (fun c65953 => ?_)
                        · have fc65953 := z_le (rfl : (w65602_i_12_61).toInt = _) (rfl : (x65948_4).toInt = _) c65953
                          obtain ⟨v65954, ev65954⟩ : ∃ y : Int32, y = x65602_3 + 1 := ⟨_, rfl⟩
                          have tv65954 := z_add ev65954 rfl (by decide : (1 : Int32).toInt = 1) (by omega) (by omega)
                          refine lv_iinc (v := v65954) (lv' := [(3, .int v65954), (5, .int x65948_5), (4, .int x65948_4), (2, .int r49601), (0, .ref h), (1, .int mm)]) hx hb dX12_findOrder_150 hl (k := 2) rfl (by rw [ev65954]; rfl) (by decide) rfl (fun ls hl => ?_)
                          refine lv_goto (tgt := 21) hx hb dX12_findOrder_153 (by decide) ?_
                          exact ih65603 v65954 w65602_i_12_60 w65602_i_12_61 w65948_a_12_59 ⟨by omega, by omega⟩ hw65948_a_12_59 (by omega) _ _ ls hP hD hS (lv_sub hl [0, 3, 4, 5] rfl)
                        · have fc65953 := z_nle (rfl : (w65602_i_12_61).toInt = _) (rfl : (x65948_4).toInt = _) c65953
                          refine lv_aload_n hx hb dX12_findOrder_139 rfl (lv_at hl 4 rfl) ?_
                          refine lv_iload_n hx hb dX12_findOrder_140 rfl (lv_at hl 2 rfl) ?_
                          refine pM_12_60 (v := x65602_3) hx hb ht hown hK hP hD hS m_1199 dX12_findOrder_141 (fun H locs hP hD hS => ?_)
                          have hP : va_P (dC, dI) classes (WM h g ca (u2 (u2 iv 12 60 x65602_3) 12 61 w65602_i_12_61) lv (u2 fa 12 59 w65948_a_12_59) la) H := hP
                          have hD : va_D A (WM h g ca (u2 (u2 iv 12 60 x65602_3) 12 61 w65602_i_12_61) lv (u2 fa 12 59 w65948_a_12_59) la) := hD
                          refine lv_aload_n hx hb dX12_findOrder_144 rfl (lv_at hl 4 rfl) ?_
                          refine lv_iload hx hb dX12_findOrder_145 (lv_at hl 1 rfl) ?_
                          refine pM_12_61 (v := x65948_4) hx hb ht hown hK hP hD hS m_1200 dX12_findOrder_147 (fun H locs hP hD hS => ?_)
                          have hP : va_P (dC, dI) classes (WM h g ca (u2 (u2 iv 12 60 x65602_3) 12 61 x65948_4) lv (u2 fa 12 59 w65948_a_12_59) la) H := hP
                          have hD : va_D A (WM h g ca (u2 (u2 iv 12 60 x65602_3) 12 61 x65948_4) lv (u2 fa 12 59 w65948_a_12_59) la) := hD
                          obtain ⟨v65955, ev65955⟩ : ∃ y : Int32, y = x65602_3 + 1 := ⟨_, rfl⟩
                          have tv65955 := z_add ev65955 rfl (by decide : (1 : Int32).toInt = 1) (by omega) (by omega)
                          refine lv_iinc (v := v65955) (lv' := [(3, .int v65955), (5, .int x65948_5), (4, .int x65948_4), (2, .int r49601), (0, .ref h), (1, .int mm)]) hx hb dX12_findOrder_150 hl (k := 2) rfl (by rw [ev65955]; rfl) (by decide) rfl (fun ls hl => ?_)
                          refine lv_goto (tgt := 21) hx hb dX12_findOrder_153 (by decide) ?_
                          exact ih65603 v65955 x65602_3 x65948_4 w65948_a_12_59 ⟨by omega, by omega⟩ hw65948_a_12_59 (by omega) _ _ ls hP hD hS (lv_sub hl [0, 3, 4, 5] rfl)
                    · have fc65950 := z_nle (rfl : ((iv 12 57)).toInt = _) (rfl : (x65948_5).toInt = _) c65950
                      refine lv_aload_n hx hb dX12_findOrder_64 rfl (lv_at hl 4 rfl) ?_
                      refine lv_iload_n hx hb dX12_findOrder_65 rfl (lv_at hl 2 rfl) ?_
                      refine lv_iload_n hx hb dX12_findOrder_66 rfl (lv_at hl 5 rfl) ?_
                      refine lv_iload hx hb dX12_findOrder_67 (lv_at hl 0 rfl) ?_
                      refine vp_callSi (W.runV (As := [.int x65602_3, .int mm, .int x65948_5]) (rest := []) ⟨hx, hb, hml, hown, ht⟩ (c_X12_ovenOf_0 l dC dI h g ca (u2 (u2 iv 12 60 w65602_i_12_60) 12 61 w65602_i_12_61) lv (u2 fa 12 59 w65948_a_12_59) la (IX_a (c := 12) (k := 59) (IX_i (c := 12) (k := 61) (IX_i (c := 12) (k := 60) hI (full_i _)) (full_i _)) hw65948_a_12_59) x65602_3 mm x65948_5 (show 1 ≤ ((iv 12 57) : Int32).toInt ∧ ((iv 12 57) : Int32).toInt ≤ 8 from ⟨by omega, by omega⟩) ⟨by omega, by omega⟩ ⟨by omega, by omega⟩ ⟨by omega, by omega⟩ (show (x65948_5 : Int32).toInt + 1 ≤ ((iv 12 57) : Int32).toInt from by omega)) (kV 3 ht m_1652 m_1654 m_70 m_89 m_1655 rfl rfl hd_X12_ovenOf_v ⟨Nat.le_of_ble_eq_true rfl, Nat.le_of_ble_eq_true rfl⟩) (vR hP hK (rM_12 hK hP)) rfl rfl hl.1 rfl (lv_room (Nat.le_of_ble_eq_true rfl)) dX12_findOrder_69 ⟨Nat.le_of_ble_eq_true rfl, Nat.le_of_ble_eq_true rfl⟩) (fun r65956 hr65956 => ?_)
                      refine lv_istore (lv' := [(6, .int r65956), (5, .int x65948_5), (4, .int x65948_4), (3, .int x65602_3), (2, .int r49601), (0, .ref h), (1, .int mm)]) hx hb dX12_findOrder_72 hl (by decide) rfl (fun ls hl => ?_)
                      refine lv_aload_n hx hb dX12_findOrder_74 rfl (lv_at hl 5 rfl) ?_
                      refine gM_12_59 hx hb ht hown hK hP m_1198 dX12_findOrder_75 ?_
                      refine lv_iload hx hb dX12_findOrder_78 (lv_at hl 0 rfl) ?_
                      refine lv_dup2_11 hx hb dX12_findOrder_80 rfl rfl ?_
                      refine lM_12_59 hx hb hK hP (f := w65948_a_12_59) rfl (vp_in_iff.mpr ⟨by omega, by omega⟩) dX12_findOrder_81 ?_
                      refine lv_topi (fun v65957 ev65957 => ?_)
                      refine lv_aload_n hx hb dX12_findOrder_82 rfl (lv_at hl 5 rfl) ?_
                      refine gM_12_58 hx hb ht hown hK hP m_1197 dX12_findOrder_83 ?_
                      refine lv_iload hx hb dX12_findOrder_86 (lv_at hl 1 rfl) ?_
                      refine lM_12_58 hx hb hK hP (f := (fa 12 58)) rfl (vp_in_iff.mpr ⟨by omega, by omega⟩) dX12_findOrder_88 ?_
                      refine lv_topi (fun v65958 ev65958 => ?_)
                      refine lv_iadd hx hb dX12_findOrder_89 ?_
                      refine lv_topi (fun v65959 ev65959 => ?_)
                      refine tM_12_59 hx hb hK hP hD hS (f0 := w65948_a_12_59) rfl (i := r65956) (x := v65959) (vp_in_iff.mpr ⟨by omega, by omega⟩) dX12_findOrder_90 (fun f65960 ef65960 H locs hP hD hS => ?_)
                      have hf65960 : ∀ j, inb (bA 12 59 j) (f65960 j) := fun j => full_i _
                      have hP : va_P (dC, dI) classes (WM h g ca (u2 (u2 iv 12 60 w65602_i_12_60) 12 61 w65602_i_12_61) lv (u2 fa 12 59 f65960) la) H := hP
                      have hD : va_D A (WM h g ca (u2 (u2 iv 12 60 w65602_i_12_60) 12 61 w65602_i_12_61) lv (u2 fa 12 59 f65960) la) := hD
                      refine lv_aload_n hx hb dX12_findOrder_91 rfl (lv_at hl 5 rfl) ?_
                      refine gM_12_59 hx hb ht hown hK hP m_1198 dX12_findOrder_92 ?_
                      refine lv_iload hx hb dX12_findOrder_95 (lv_at hl 0 rfl) ?_
                      refine lM_12_59 hx hb hK hP (f := f65960) rfl (vp_in_iff.mpr ⟨by omega, by omega⟩) dX12_findOrder_97 ?_
                      refine lv_topi (fun v65961 ev65961 => ?_)
                      refine lv_iload hx hb dX12_findOrder_98 (lv_at hl 2 rfl) ?_
                      refine lv_icmp_le (tgt := 113) hx hb dX12_findOrder_100 (by decide) (fun c65962 => ?_) (fun c65962 => ?_)
                      · have fc65962 := z_le (rfl : (v65961).toInt = _) (rfl : (x65948_4).toInt = _) c65962
                        refine lv_iload hx hb dX12_findOrder_113 (lv_at hl 2 rfl) ?_
                        refine lv_istore (lv' := [(4, .int x65948_4), (6, .int r65956), (5, .int x65948_5), (3, .int x65602_3), (2, .int r49601), (0, .ref h), (1, .int mm)]) hx hb dX12_findOrder_115 hl (by decide) rfl (fun ls hl => ?_)
                        obtain ⟨v65963, ev65963⟩ : ∃ y : Int32, y = x65948_5 + 1 := ⟨_, rfl⟩
                        have tv65963 := z_add ev65963 rfl (by decide : (1 : Int32).toInt = 1) (by omega) (by omega)
                        refine lv_iinc (v := v65963) (lv' := [(5, .int v65963), (4, .int x65948_4), (6, .int r65956), (3, .int x65602_3), (2, .int r49601), (0, .ref h), (1, .int mm)]) hx hb dX12_findOrder_117 hl (k := 2) rfl (by rw [ev65963]; rfl) (by decide) rfl (fun ls hl => ?_)
                        refine lv_goto (tgt := 55) hx hb dX12_findOrder_120 (by decide) ?_
                        exact ih65949 v65963 x65948_4 f65960 ⟨by omega, by omega⟩ (by omega) hf65960 (by omega) _ _ ls hP hD hS (lv_sub hl [0, 1, 3, 4, 5, 6] rfl)
                      · have fc65962 := z_nle (rfl : (v65961).toInt = _) (rfl : (x65948_4).toInt = _) c65962
                        refine lv_aload_n hx hb dX12_findOrder_103 rfl (lv_at hl 5 rfl) ?_
                        refine gM_12_59 hx hb ht hown hK hP m_1198 dX12_findOrder_104 ?_
                        refine lv_iload hx hb dX12_findOrder_107 (lv_at hl 0 rfl) ?_
                        refine lM_12_59 hx hb hK hP (f := f65960) rfl (vp_in_iff.mpr ⟨by omega, by omega⟩) dX12_findOrder_109 ?_
                        refine lv_topi (fun v65964 ev65964 => ?_)
                        obtain rfl : v65961 = v65964 := ev65961.trans ev65964.symm
                        refine lv_goto (tgt := 115) hx hb dX12_findOrder_110 (by decide) ?_
                        refine lv_istore (lv' := [(4, .int v65961), (6, .int r65956), (5, .int x65948_5), (3, .int x65602_3), (2, .int r49601), (0, .ref h), (1, .int mm)]) hx hb dX12_findOrder_115 hl (by decide) rfl (fun ls hl => ?_)
                        obtain ⟨v65965, ev65965⟩ : ∃ y : Int32, y = x65948_5 + 1 := ⟨_, rfl⟩
                        have tv65965 := z_add ev65965 rfl (by decide : (1 : Int32).toInt = 1) (by omega) (by omega)
                        refine lv_iinc (v := v65965) (lv' := [(5, .int v65965), (4, .int v65961), (6, .int r65956), (3, .int x65602_3), (2, .int r49601), (0, .ref h), (1, .int mm)]) hx hb dX12_findOrder_117 hl (k := 2) rfl (by rw [ev65965]; rfl) (by decide) rfl (fun ls hl => ?_)
                        refine lv_goto (tgt := 55) hx hb dX12_findOrder_120 (by decide) ?_
                        exact ih65949 v65965 v65961 f65960 ⟨by omega, by omega⟩ (by omega) hf65960 (by omega) _ _ ls hP hD hS (lv_sub hl [0, 1, 3, 4, 5, 6] rfl)
                exact lp65949 9 0 0 w65792_a_12_59 ⟨by decide, by decide⟩ (by decide) hw65792_a_12_59 (by first | decide | omega) _ _ ls hP hD hS (lv_sub hl [0, 1, 2, 3, 4, 5] rfl)
              · have fc65794 := z_nle (by decide : (3 : Int32).toInt = 3) (rfl : (x65792_4).toInt = _) c65794
                refine lv_aload_n hx hb dX12_findOrder_35 rfl (lv_at hl 3 rfl) ?_
                refine gM_12_59 hx hb ht hown hK hP m_1198 dX12_findOrder_36 ?_
                refine lv_iload hx hb dX12_findOrder_39 (lv_at hl 0 rfl) ?_
                refine lv_iconst (v := 0) hx hb dX12_findOrder_41 (by decide) ?_
                refine tM_12_59 hx hb hK hP hD hS (f0 := w65792_a_12_59) rfl (i := x65792_4) (x := 0) (vp_in_iff.mpr ⟨by omega, by omega⟩) dX12_findOrder_42 (fun f65966 ef65966 H locs hP hD hS => ?_)
                have hf65966 : ∀ j, inb (bA 12 59 j) (f65966 j) := fun j => full_i _
                have hP : va_P (dC, dI) classes (WM h g ca (u2 (u2 iv 12 60 w65602_i_12_60) 12 61 w65602_i_12_61) lv (u2 fa 12 59 f65966) la) H := hP
                have hD : va_D A (WM h g ca (u2 (u2 iv 12 60 w65602_i_12_60) 12 61 w65602_i_12_61) lv (u2 fa 12 59 f65966) la) := hD
                obtain ⟨v65967, ev65967⟩ : ∃ y : Int32, y = x65792_4 + 1 := ⟨_, rfl⟩
                have tv65967 := z_add ev65967 rfl (by decide : (1 : Int32).toInt = 1) (by omega) (by omega)
                refine lv_iinc (v := v65967) (lv' := [(4, .int v65967), (3, .int x65602_3), (2, .int r49601), (0, .ref h), (1, .int mm)]) hx hb dX12_findOrder_43 hl (k := 0) rfl (by rw [ev65967]; rfl) (by decide) rfl (fun ls hl => ?_)
                refine lv_goto (tgt := 29) hx hb dX12_findOrder_46 (by decide) ?_
                exact ih65793 v65967 f65966 ⟨by omega, by omega⟩ hf65966 (by omega) _ _ ls hP hD hS (lv_sub hl [0, 1, 2, 3, 4] rfl)
          exact lp65793 4 0 w65602_a_12_59 ⟨by decide, by decide⟩ hw65602_a_12_59 (by first | decide | omega) _ _ ls hP hD hS (lv_sub hl [0, 1, 2, 3, 4] rfl)
    exact lp65603 3001 0 (-1) 0 (fa 12 59) ⟨by decide, by decide⟩ (hI.2 12 59) (by first | decide | omega) _ _ ls hP hD hS (lv_sub hl [0, 1, 2, 3] rfl)
  · have hq8 : (iv 12 57) = 8 := z_of (by decide) q1
    rw [hq8]
    have : (8 : Int32).toInt = 8 := by decide
    refine vp_callSi (W.runS (As := [.int mm, .int 8]) (rest := []) ⟨hx, hb, hml, hown, ht⟩ (c_X12_power_8 l dC dI mm ⟨by omega, by omega⟩) (kS 2 ht m_1649 m_1650 m_89 m_1651 rfl rfl hd_X12_power_v ⟨Nat.le_of_ble_eq_true rfl, Nat.le_of_ble_eq_true rfl⟩) (sR noP (hK.sub (tys' := []) [] rfl)) rfl rfl hl.1 rfl (lv_room (Nat.le_of_ble_eq_true rfl)) dX12_findOrder_15 ⟨Nat.le_of_ble_eq_true rfl, Nat.le_of_ble_eq_true rfl⟩) (fun r65968 hr65968 => ?_)
    refine lv_istore_n (lv' := [(2, .int r65968), (0, .ref h), (1, .int mm)]) hx hb dX12_findOrder_18 rfl hl (by decide) rfl (fun ls hl => ?_)
    refine lv_iconst (v := 0) hx hb dX12_findOrder_19 (by decide) ?_
    refine lv_istore_n (lv' := [(3, .int 0), (2, .int r65968), (0, .ref h), (1, .int mm)]) hx hb dX12_findOrder_20 rfl hl (by decide) rfl (fun ls hl => ?_)
    have lp82335 : ∀ (nn82335 : Nat) (x82334_3 : Int32) (w82334_i_12_60 : Int32) (w82334_i_12_61 : Int32) (w82334_a_12_59 : Nat → Int32), 0 ≤ x82334_3.toInt ∧ x82334_3.toInt ≤ 9999 → (∀ j, inb (bA 12 59 j) (w82334_a_12_59 j)) → 9999 - x82334_3.toInt < (nn82335 : Int) → ∀ (H : Heap) (locs : List Loc), ∀ (ls : Array Slot), va_P (dC, dI) classes (WM h g ca (u2 (u2 iv 12 60 w82334_i_12_60) 12 61 w82334_i_12_61) lv (u2 fa 12 59 w82334_a_12_59) la) H → va_D A (WM h g ca (u2 (u2 iv 12 60 w82334_i_12_60) 12 61 w82334_i_12_61) lv (u2 fa 12 59 w82334_a_12_59) la) → va_S A s.heap H locs → lv_has ls 7 [(3, .int x82334_3), (2, .int r65968), (0, .ref h), (1, .int mm)] → W p l e ({ frames := 2, cells := 0, slots := 0, locals := 46 } : Room) s m ([.ref h, .int mm] : List Value).toArray below meth c H locs 0 0 (MQ below (va_Qv (fun (u : SS) => ∃ (na_12_59 : Nat → Int32) (ni_12_60 : Int32) (ni_12_61 : Int32), u = ((u2 (u2 iv 12 60 ni_12_60) 12 61 ni_12_61), lv, (u2 fa 12 59 na_12_59), la)) (bM (dC, dI) h g ca A) A) ([.ref h, .int mm] : List Value).toArray s 0 0 A) (F0 m 21 ls []) := by
      intro nn82335
      induction nn82335 with
      | zero => intro x82334_3 w82334_i_12_60 w82334_i_12_61 w82334_a_12_59 hx82334_3 hw82334_a_12_59 hm82335; exfalso; omega
      | succ nn82335 ih82335 =>
        intro x82334_3 w82334_i_12_60 w82334_i_12_61 w82334_a_12_59 hx82334_3 hw82334_a_12_59 hm82335 H locs ls hP hD hS hl
        refine lv_iload_n hx hb dX12_findOrder_21 rfl (lv_at hl 0 rfl) ?_
        refine lv_iload_n hx hb dX12_findOrder_22 rfl (lv_at hl 1 rfl) ?_
        refine lv_icmp_ge (tgt := 156) hx hb dX12_findOrder_23 (by decide) (fun c82336 => ?_) (fun c82336 => ?_)
        · have fc82336 := z_le (rfl : (r65968).toInt = _) (rfl : (x82334_3).toInt = _) c82336
          have hP9 : va_P (dC, dI) classes (WM h g ca (u2 (u2 iv 12 60 w82334_i_12_60) 12 61 w82334_i_12_61) lv (u2 fa 12 59 w82334_a_12_59) la) H := hP
          have hD9 : va_D A (WM h g ca (u2 (u2 iv 12 60 w82334_i_12_60) 12 61 w82334_i_12_61) lv (u2 fa 12 59 w82334_a_12_59) la) := hD
          exact W.vret hx hb hr (fun t ht9 hW => ⟨⟨((u2 (u2 iv 12 60 w82334_i_12_60) 12 61 w82334_i_12_61), lv, (u2 fa 12 59 w82334_a_12_59), la), rfl, ⟨w82334_a_12_59, w82334_i_12_60, w82334_i_12_61, rfl⟩, by rw [ht9]; exact hP9, hD9⟩, hS.F ht9⟩) hS.2.2 dX12_findOrder_156
        · have fc82336 := z_nle (rfl : (r65968).toInt = _) (rfl : (x82334_3).toInt = _) c82336
          refine lv_iconst (v := 0) hx hb dX12_findOrder_26 (by decide) ?_
          refine lv_istore (lv' := [(4, .int 0), (3, .int x82334_3), (2, .int r65968), (0, .ref h), (1, .int mm)]) hx hb dX12_findOrder_27 hl (by decide) rfl (fun ls hl => ?_)
          have lp82525 : ∀ (nn82525 : Nat) (x82524_4 : Int32) (w82524_a_12_59 : Nat → Int32), 0 ≤ x82524_4.toInt ∧ x82524_4.toInt ≤ 3 → (∀ j, inb (bA 12 59 j) (w82524_a_12_59 j)) → 3 - x82524_4.toInt < (nn82525 : Int) → ∀ (H : Heap) (locs : List Loc), ∀ (ls : Array Slot), va_P (dC, dI) classes (WM h g ca (u2 (u2 iv 12 60 w82334_i_12_60) 12 61 w82334_i_12_61) lv (u2 fa 12 59 w82524_a_12_59) la) H → va_D A (WM h g ca (u2 (u2 iv 12 60 w82334_i_12_60) 12 61 w82334_i_12_61) lv (u2 fa 12 59 w82524_a_12_59) la) → va_S A s.heap H locs → lv_has ls 7 [(4, .int x82524_4), (3, .int x82334_3), (2, .int r65968), (0, .ref h), (1, .int mm)] → W p l e ({ frames := 2, cells := 0, slots := 0, locals := 46 } : Room) s m ([.ref h, .int mm] : List Value).toArray below meth c H locs 0 0 (MQ below (va_Qv (fun (u : SS) => ∃ (na_12_59 : Nat → Int32) (ni_12_60 : Int32) (ni_12_61 : Int32), u = ((u2 (u2 iv 12 60 ni_12_60) 12 61 ni_12_61), lv, (u2 fa 12 59 na_12_59), la)) (bM (dC, dI) h g ca A) A) ([.ref h, .int mm] : List Value).toArray s 0 0 A) (F0 m 29 ls []) := by
            intro nn82525
            induction nn82525 with
            | zero => intro x82524_4 w82524_a_12_59 hx82524_4 hw82524_a_12_59 hm82525; exfalso; omega
            | succ nn82525 ih82525 =>
              intro x82524_4 w82524_a_12_59 hx82524_4 hw82524_a_12_59 hm82525 H locs ls hP hD hS hl
              refine lv_iload hx hb dX12_findOrder_29 (lv_at hl 0 rfl) ?_
              refine lv_iconst (v := 3) hx hb dX12_findOrder_31 (by decide) ?_
              refine lv_icmp_ge (tgt := 49) hx hb dX12_findOrder_32 (by decide) (fun c82526 => ?_) (fun c82526 => ?_)
              · have fc82526 := z_le (by decide : (3 : Int32).toInt = 3) (rfl : (x82524_4).toInt = _) c82526
                refine lv_iconst (v := 0) hx hb dX12_findOrder_49 (by decide) ?_
                refine lv_istore (lv' := [(4, .int 0), (3, .int x82334_3), (2, .int r65968), (0, .ref h), (1, .int mm)]) hx hb dX12_findOrder_50 hl (by decide) rfl (fun ls hl => ?_)
                refine lv_iconst (v := 0) hx hb dX12_findOrder_52 (by decide) ?_
                refine lv_istore (lv' := [(5, .int 0), (4, .int 0), (3, .int x82334_3), (2, .int r65968), (0, .ref h), (1, .int mm)]) hx hb dX12_findOrder_53 hl (by decide) rfl (fun ls hl => ?_)
                have lp82681 : ∀ (nn82681 : Nat) (x82680_5 : Int32) (x82680_4 : Int32) (w82680_a_12_59 : Nat → Int32), 0 ≤ x82680_5.toInt ∧ x82680_5.toInt ≤ 8 → 0 ≤ x82680_4.toInt → (∀ j, inb (bA 12 59 j) (w82680_a_12_59 j)) → 8 - x82680_5.toInt < (nn82681 : Int) → ∀ (H : Heap) (locs : List Loc), ∀ (ls : Array Slot), va_P (dC, dI) classes (WM h g ca (u2 (u2 iv 12 60 w82334_i_12_60) 12 61 w82334_i_12_61) lv (u2 fa 12 59 w82680_a_12_59) la) H → va_D A (WM h g ca (u2 (u2 iv 12 60 w82334_i_12_60) 12 61 w82334_i_12_61) lv (u2 fa 12 59 w82680_a_12_59) la) → va_S A s.heap H locs → lv_has ls 7 [(5, .int x82680_5), (4, .int x82680_4), (3, .int x82334_3), (2, .int r65968), (0, .ref h), (1, .int mm)] → W p l e ({ frames := 2, cells := 0, slots := 0, locals := 46 } : Room) s m ([.ref h, .int mm] : List Value).toArray below meth c H locs 0 0 (MQ below (va_Qv (fun (u : SS) => ∃ (na_12_59 : Nat → Int32) (ni_12_60 : Int32) (ni_12_61 : Int32), u = ((u2 (u2 iv 12 60 ni_12_60) 12 61 ni_12_61), lv, (u2 fa 12 59 na_12_59), la)) (bM (dC, dI) h g ca A) A) ([.ref h, .int mm] : List Value).toArray s 0 0 A) (F0 m 55 ls []) := by
                  intro nn82681
                  induction nn82681 with
                  | zero => intro x82680_5 x82680_4 w82680_a_12_59 hx82680_5 hx82680_4 hw82680_a_12_59 hm82681; exfalso; omega
                  | succ nn82681 ih82681 =>
                    intro x82680_5 x82680_4 w82680_a_12_59 hx82680_5 hx82680_4 hw82680_a_12_59 hm82681 H locs ls hP hD hS hl
                    refine lv_iload hx hb dX12_findOrder_55 (lv_at hl 0 rfl) ?_
                    refine lv_aload_n hx hb dX12_findOrder_57 rfl (lv_at hl 4 rfl) ?_
                    refine gM_12_57 hx hb ht hown hK hP m_1196 (v := (iv 12 57)) rfl dX12_findOrder_58 ?_
                    refine lv_icmp_ge (tgt := 123) hx hb dX12_findOrder_61 (by decide) (fun c82682 => ?_) (fun c82682 => ?_)
                    · have fc82682 := z_le (rfl : ((iv 12 57)).toInt = _) (rfl : (x82680_5).toInt = _) c82682
                      refine lv_aload_n hx hb dX12_findOrder_123 rfl (lv_at hl 4 rfl) ?_
                      refine gM_12_60 hx hb ht hown hK hP m_1199 (v := w82334_i_12_60) rfl dX12_findOrder_124 ?_
                      refine lv_if_lt (tgt := 139) hx hb dX12_findOrder_127 (by decide) (fun c82683 => ?_) (fun c82683 => ?_)
                      · have fc82683 := z_lt (rfl : (w82334_i_12_60).toInt = _) (by decide : (0 : Int32).toInt = 0) c82683
                        refine lv_aload_n hx hb dX12_findOrder_139 rfl (lv_at hl 4 rfl) ?_
                        refine lv_iload_n hx hb dX12_findOrder_140 rfl (lv_at hl 2 rfl) ?_
                        refine pM_12_60 (v := x82334_3) hx hb ht hown hK hP hD hS m_1199 dX12_findOrder_141 (fun H locs hP hD hS => ?_)
                        have hP : va_P (dC, dI) classes (WM h g ca (u2 (u2 iv 12 60 x82334_3) 12 61 w82334_i_12_61) lv (u2 fa 12 59 w82680_a_12_59) la) H := hP
                        have hD : va_D A (WM h g ca (u2 (u2 iv 12 60 x82334_3) 12 61 w82334_i_12_61) lv (u2 fa 12 59 w82680_a_12_59) la) := hD
                        refine lv_aload_n hx hb dX12_findOrder_144 rfl (lv_at hl 4 rfl) ?_
                        refine lv_iload hx hb dX12_findOrder_145 (lv_at hl 1 rfl) ?_
                        refine pM_12_61 (v := x82680_4) hx hb ht hown hK hP hD hS m_1200 dX12_findOrder_147 (fun H locs hP hD hS => ?_)
                        have hP : va_P (dC, dI) classes (WM h g ca (u2 (u2 iv 12 60 x82334_3) 12 61 x82680_4) lv (u2 fa 12 59 w82680_a_12_59) la) H := hP
                        have hD : va_D A (WM h g ca (u2 (u2 iv 12 60 x82334_3) 12 61 x82680_4) lv (u2 fa 12 59 w82680_a_12_59) la) := hD
                        obtain ⟨v82684, ev82684⟩ : ∃ y : Int32, y = x82334_3 + 1 := ⟨_, rfl⟩
                        have tv82684 := z_add ev82684 rfl (by decide : (1 : Int32).toInt = 1) (by omega) (by omega)
                        refine lv_iinc (v := v82684) (lv' := [(3, .int v82684), (5, .int x82680_5), (4, .int x82680_4), (2, .int r65968), (0, .ref h), (1, .int mm)]) hx hb dX12_findOrder_150 hl (k := 2) rfl (by rw [ev82684]; rfl) (by decide) rfl (fun ls hl => ?_)
                        refine lv_goto (tgt := 21) hx hb dX12_findOrder_153 (by decide) ?_
                        exact ih82335 v82684 x82334_3 x82680_4 w82680_a_12_59 ⟨by omega, by omega⟩ hw82680_a_12_59 (by omega) _ _ ls hP hD hS (lv_sub hl [0, 3, 4, 5] rfl)
                      · have fc82683 := z_nlt (rfl : (w82334_i_12_60).toInt = _) (by decide : (0 : Int32).toInt = 0) c82683
                        refine lv_iload hx hb dX12_findOrder_130 (lv_at hl 1 rfl) ?_
                        refine lv_aload_n hx hb dX12_findOrder_132 rfl (lv_at hl 4 rfl) ?_
                        refine gM_12_61 hx hb ht hown hK hP m_1200 (v := w82334_i_12_61) rfl dX12_findOrder_133 ?_
                        refine lv_icmp_ge (tgt := 150) hx hb dX12_findOrder_136 (by decide) (fun c82685 => ?_) (fun c82685 => ?_)
                        · have fc82685 := z_le (rfl : (w82334_i_12_61).toInt = _) (rfl : (x82680_4).toInt = _) c82685
                          obtain ⟨v82686, ev82686⟩ : ∃ y : Int32, y = x82334_3 + 1 := ⟨_, rfl⟩
                          have tv82686 := z_add ev82686 rfl (by decide : (1 : Int32).toInt = 1) (by omega) (by omega)
                          refine lv_iinc (v := v82686) (lv' := [(3, .int v82686), (5, .int x82680_5), (4, .int x82680_4), (2, .int r65968), (0, .ref h), (1, .int mm)]) hx hb dX12_findOrder_150 hl (k := 2) rfl (by rw [ev82686]; rfl) (by decide) rfl (fun ls hl => ?_)
                          refine lv_goto (tgt := 21) hx hb dX12_findOrder_153 (by decide) ?_
                          exact ih82335 v82686 w82334_i_12_60 w82334_i_12_61 w82680_a_12_59 ⟨by omega, by omega⟩ hw82680_a_12_59 (by omega) _ _ ls hP hD hS (lv_sub hl [0, 3, 4, 5] rfl)
                        · have fc82685 := z_nle (rfl : (w82334_i_12_61).toInt = _) (rfl : (x82680_4).toInt = _) c82685
                          refine lv_aload_n hx hb dX12_findOrder_139 rfl (lv_at hl 4 rfl) ?_
                          refine lv_iload_n hx hb dX12_findOrder_140 rfl (lv_at hl 2 rfl) ?_
                          refine pM_12_60 (v := x82334_3) hx hb ht hown hK hP hD hS m_1199 dX12_findOrder_141 (fun H locs hP hD hS => ?_)
                          have hP : va_P (dC, dI) classes (WM h g ca (u2 (u2 iv 12 60 x82334_3) 12 61 w82334_i_12_61) lv (u2 fa 12 59 w82680_a_12_59) la) H := hP
                          have hD : va_D A (WM h g ca (u2 (u2 iv 12 60 x82334_3) 12 61 w82334_i_12_61) lv (u2 fa 12 59 w82680_a_12_59) la) := hD
                          refine lv_aload_n hx hb dX12_findOrder_144 rfl (lv_at hl 4 rfl) ?_
                          refine lv_iload hx hb dX12_findOrder_145 (lv_at hl 1 rfl) ?_
                          refine pM_12_61 (v := x82680_4) hx hb ht hown hK hP hD hS m_1200 dX12_findOrder_147 (fun H locs hP hD hS => ?_)
                          have hP : va_P (dC, dI) classes (WM h g ca (u2 (u2 iv 12 60 x82334_3) 12 61 x82680_4) lv (u2 fa 12 59 w82680_a_12_59) la) H := hP
                          have hD : va_D A (WM h g ca (u2 (u2 iv 12 60 x82334_3) 12 61 x82680_4) lv (u2 fa 12 59 w82680_a_12_59) la) := hD
                          obtain ⟨v82687, ev82687⟩ : ∃ y : Int32, y = x82334_3 + 1 := ⟨_, rfl⟩
                          have tv82687 := z_add ev82687 rfl (by decide : (1 : Int32).toInt = 1) (by omega) (by omega)
                          refine lv_iinc (v := v82687) (lv' := [(3, .int v82687), (5, .int x82680_5), (4, .int x82680_4), (2, .int r65968), (0, .ref h), (1, .int mm)]) hx hb dX12_findOrder_150 hl (k := 2) rfl (by rw [ev82687]; rfl) (by decide) rfl (fun ls hl => ?_)
                          refine lv_goto (tgt := 21) hx hb dX12_findOrder_153 (by decide) ?_
                          exact ih82335 v82687 x82334_3 x82680_4 w82680_a_12_59 ⟨by omega, by omega⟩ hw82680_a_12_59 (by omega) _ _ ls hP hD hS (lv_sub hl [0, 3, 4, 5] rfl)
                    · have fc82682 := z_nle (rfl : ((iv 12 57)).toInt = _) (rfl : (x82680_5).toInt = _) c82682
                      refine lv_aload_n hx hb dX12_findOrder_64 rfl (lv_at hl 4 rfl) ?_
                      refine lv_iload_n hx hb dX12_findOrder_65 rfl (lv_at hl 2 rfl) ?_
                      refine lv_iload_n hx hb dX12_findOrder_66 rfl (lv_at hl 5 rfl) ?_
                      refine lv_iload hx hb dX12_findOrder_67 (lv_at hl 0 rfl) ?_
                      refine vp_callSi (W.runV (As := [.int x82334_3, .int mm, .int x82680_5]) (rest := []) ⟨hx, hb, hml, hown, ht⟩ (c_X12_ovenOf_0 l dC dI h g ca (u2 (u2 iv 12 60 w82334_i_12_60) 12 61 w82334_i_12_61) lv (u2 fa 12 59 w82680_a_12_59) la (IX_a (c := 12) (k := 59) (IX_i (c := 12) (k := 61) (IX_i (c := 12) (k := 60) hI (full_i _)) (full_i _)) hw82680_a_12_59) x82334_3 mm x82680_5 (show 1 ≤ ((iv 12 57) : Int32).toInt ∧ ((iv 12 57) : Int32).toInt ≤ 8 from ⟨by omega, by omega⟩) ⟨by omega, by omega⟩ ⟨by omega, by omega⟩ ⟨by omega, by omega⟩ (show (x82680_5 : Int32).toInt + 1 ≤ ((iv 12 57) : Int32).toInt from by omega)) (kV 3 ht m_1652 m_1654 m_70 m_89 m_1655 rfl rfl hd_X12_ovenOf_v ⟨Nat.le_of_ble_eq_true rfl, Nat.le_of_ble_eq_true rfl⟩) (vR hP hK (rM_12 hK hP)) rfl rfl hl.1 rfl (lv_room (Nat.le_of_ble_eq_true rfl)) dX12_findOrder_69 ⟨Nat.le_of_ble_eq_true rfl, Nat.le_of_ble_eq_true rfl⟩) (fun r82688 hr82688 => ?_)
                      refine lv_istore (lv' := [(6, .int r82688), (5, .int x82680_5), (4, .int x82680_4), (3, .int x82334_3), (2, .int r65968), (0, .ref h), (1, .int mm)]) hx hb dX12_findOrder_72 hl (by decide) rfl (fun ls hl => ?_)
                      refine lv_aload_n hx hb dX12_findOrder_74 rfl (lv_at hl 5 rfl) ?_
                      refine gM_12_59 hx hb ht hown hK hP m_1198 dX12_findOrder_75 ?_
                      refine lv_iload hx hb dX12_findOrder_78 (lv_at hl 0 rfl) ?_
                      refine lv_dup2_11 hx hb dX12_findOrder_80 rfl rfl ?_
                      refine lM_12_59 hx hb hK hP (f := w82680_a_12_59) rfl (vp_in_iff.mpr ⟨by omega, by omega⟩) dX12_findOrder_81 ?_
                      refine lv_topi (fun v82689 ev82689 => ?_)
                      refine lv_aload_n hx hb dX12_findOrder_82 rfl (lv_at hl 5 rfl) ?_
                      refine gM_12_58 hx hb ht hown hK hP m_1197 dX12_findOrder_83 ?_
                      refine lv_iload hx hb dX12_findOrder_86 (lv_at hl 1 rfl) ?_
                      refine lM_12_58 hx hb hK hP (f := (fa 12 58)) rfl (vp_in_iff.mpr ⟨by omega, by omega⟩) dX12_findOrder_88 ?_
                      refine lv_topi (fun v82690 ev82690 => ?_)
                      refine lv_iadd hx hb dX12_findOrder_89 ?_
                      refine lv_topi (fun v82691 ev82691 => ?_)
                      refine tM_12_59 hx hb hK hP hD hS (f0 := w82680_a_12_59) rfl (i := r82688) (x := v82691) (vp_in_iff.mpr ⟨by omega, by omega⟩) dX12_findOrder_90 (fun f82692 ef82692 H locs hP hD hS => ?_)
                      have hf82692 : ∀ j, inb (bA 12 59 j) (f82692 j) := fun j => full_i _
                      have hP : va_P (dC, dI) classes (WM h g ca (u2 (u2 iv 12 60 w82334_i_12_60) 12 61 w82334_i_12_61) lv (u2 fa 12 59 f82692) la) H := hP
                      have hD : va_D A (WM h g ca (u2 (u2 iv 12 60 w82334_i_12_60) 12 61 w82334_i_12_61) lv (u2 fa 12 59 f82692) la) := hD
                      refine lv_aload_n hx hb dX12_findOrder_91 rfl (lv_at hl 5 rfl) ?_
                      refine gM_12_59 hx hb ht hown hK hP m_1198 dX12_findOrder_92 ?_
                      refine lv_iload hx hb dX12_findOrder_95 (lv_at hl 0 rfl) ?_
                      refine lM_12_59 hx hb hK hP (f := f82692) rfl (vp_in_iff.mpr ⟨by omega, by omega⟩) dX12_findOrder_97 ?_
                      refine lv_topi (fun v82693 ev82693 => ?_)
                      refine lv_iload hx hb dX12_findOrder_98 (lv_at hl 2 rfl) ?_
                      refine lv_icmp_le (tgt := 113) hx hb dX12_findOrder_100 (by decide) (fun c82694 => ?_) (fun c82694 => ?_)
                      · have fc82694 := z_le (rfl : (v82693).toInt = _) (rfl : (x82680_4).toInt = _) c82694
                        refine lv_iload hx hb dX12_findOrder_113 (lv_at hl 2 rfl) ?_
                        refine lv_istore (lv' := [(4, .int x82680_4), (6, .int r82688), (5, .int x82680_5), (3, .int x82334_3), (2, .int r65968), (0, .ref h), (1, .int mm)]) hx hb dX12_findOrder_115 hl (by decide) rfl (fun ls hl => ?_)
                        obtain ⟨v82695, ev82695⟩ : ∃ y : Int32, y = x82680_5 + 1 := ⟨_, rfl⟩
                        have tv82695 := z_add ev82695 rfl (by decide : (1 : Int32).toInt = 1) (by omega) (by omega)
                        refine lv_iinc (v := v82695) (lv' := [(5, .int v82695), (4, .int x82680_4), (6, .int r82688), (3, .int x82334_3), (2, .int r65968), (0, .ref h), (1, .int mm)]) hx hb dX12_findOrder_117 hl (k := 2) rfl (by rw [ev82695]; rfl) (by decide) rfl (fun ls hl => ?_)
                        refine lv_goto (tgt := 55) hx hb dX12_findOrder_120 (by decide) ?_
                        exact ih82681 v82695 x82680_4 f82692 ⟨by omega, by omega⟩ (by omega) hf82692 (by omega) _ _ ls hP hD hS (lv_sub hl [0, 1, 3, 4, 5, 6] rfl)
                      · have fc82694 := z_nle (rfl : (v82693).toInt = _) (rfl : (x82680_4).toInt = _) c82694
                        refine lv_aload_n hx hb dX12_findOrder_103 rfl (lv_at hl 5 rfl) ?_
                        refine gM_12_59 hx hb ht hown hK hP m_1198 dX12_findOrder_104 ?_
                        refine lv_iload hx hb dX12_findOrder_107 (lv_at hl 0 rfl) ?_
                        refine lM_12_59 hx hb hK hP (f := f82692) rfl (vp_in_iff.mpr ⟨by omega, by omega⟩) dX12_findOrder_109 ?_
                        refine lv_topi (fun v82696 ev82696 => ?_)
                        obtain rfl : v82693 = v82696 := ev82693.trans ev82696.symm
                        refine lv_goto (tgt := 115) hx hb dX12_findOrder_110 (by decide) ?_
                        refine lv_istore (lv' := [(4, .int v82693), (6, .int r82688), (5, .int x82680_5), (3, .int x82334_3), (2, .int r65968), (0, .ref h), (1, .int mm)]) hx hb dX12_findOrder_115 hl (by decide) rfl (fun ls hl => ?_)
                        obtain ⟨v82697, ev82697⟩ : ∃ y : Int32, y = x82680_5 + 1 := ⟨_, rfl⟩
                        have tv82697 := z_add ev82697 rfl (by decide : (1 : Int32).toInt = 1) (by omega) (by omega)
                        refine lv_iinc (v := v82697) (lv' := [(5, .int v82697), (4, .int v82693), (6, .int r82688), (3, .int x82334_3), (2, .int r65968), (0, .ref h), (1, .int mm)]) hx hb dX12_findOrder_117 hl (k := 2) rfl (by rw [ev82697]; rfl) (by decide) rfl (fun ls hl => ?_)
                        refine lv_goto (tgt := 55) hx hb dX12_findOrder_120 (by decide) ?_
                        exact ih82681 v82697 v82693 f82692 ⟨by omega, by omega⟩ (by omega) hf82692 (by omega) _ _ ls hP hD hS (lv_sub hl [0, 1, 3, 4, 5, 6] rfl)
                exact lp82681 9 0 0 w82524_a_12_59 ⟨by decide, by decide⟩ (by decide) hw82524_a_12_59 (by first | decide | omega) _ _ ls hP hD hS (lv_sub hl [0, 1, 2, 3, 4, 5] rfl)
              · have fc82526 := z_nle (by decide : (3 : Int32).toInt = 3) (rfl : (x82524_4).toInt = _) c82526
                refine lv_aload_n hx hb dX12_findOrder_35 rfl (lv_at hl 3 rfl) ?_
                refine gM_12_59 hx hb ht hown hK hP m_1198 dX12_findOrder_36 ?_
                refine lv_iload hx hb dX12_findOrder_39 (lv_at hl 0 rfl) ?_
                refine lv_iconst (v := 0) hx hb dX12_findOrder_41 (by decide) ?_
                refine tM_12_59 hx hb hK hP hD hS (f0 := w82524_a_12_59) rfl (i := x82524_4) (x := 0) (vp_in_iff.mpr ⟨by omega, by omega⟩) dX12_findOrder_42 (fun f82698 ef82698 H locs hP hD hS => ?_)
                have hf82698 : ∀ j, inb (bA 12 59 j) (f82698 j) := fun j => full_i _
                have hP : va_P (dC, dI) classes (WM h g ca (u2 (u2 iv 12 60 w82334_i_12_60) 12 61 w82334_i_12_61) lv (u2 fa 12 59 f82698) la) H := hP
                have hD : va_D A (WM h g ca (u2 (u2 iv 12 60 w82334_i_12_60) 12 61 w82334_i_12_61) lv (u2 fa 12 59 f82698) la) := hD
                obtain ⟨v82699, ev82699⟩ : ∃ y : Int32, y = x82524_4 + 1 := ⟨_, rfl⟩
                have tv82699 := z_add ev82699 rfl (by decide : (1 : Int32).toInt = 1) (by omega) (by omega)
                refine lv_iinc (v := v82699) (lv' := [(4, .int v82699), (3, .int x82334_3), (2, .int r65968), (0, .ref h), (1, .int mm)]) hx hb dX12_findOrder_43 hl (k := 0) rfl (by rw [ev82699]; rfl) (by decide) rfl (fun ls hl => ?_)
                refine lv_goto (tgt := 29) hx hb dX12_findOrder_46 (by decide) ?_
                exact ih82525 v82699 f82698 ⟨by omega, by omega⟩ hf82698 (by omega) _ _ ls hP hD hS (lv_sub hl [0, 1, 2, 3, 4] rfl)
          exact lp82525 4 0 w82334_a_12_59 ⟨by decide, by decide⟩ hw82334_a_12_59 (by first | decide | omega) _ _ ls hP hD hS (lv_sub hl [0, 1, 2, 3, 4] rfl)
    exact lp82335 10000 0 (-1) 0 (fa 12 59) ⟨by decide, by decide⟩ (hI.2 12 59) (by first | decide | omega) _ _ ls hP hD hS (lv_sub hl [0, 1, 2, 3] rfl)
set_option maxHeartbeats 4000000 in
set_option maxRecDepth 100000 in
/-- X12_order -/
theorem c_X12_order (l : Launch) (dC : Nat → ClassId) (dI : Nat → Nat → Nat) (sz : Nat) (h : Nat) (g : Nat → Nat → Nat) (ca : Nat → Nat → ClassId) (iv : Nat → Nat → Int32) (lv : Nat → Nat → Int64) (fa : Nat → Nat → Nat → Int32) (la : Nat → Nat → Nat → Int64) (hI : IX iv fa) (a : Int32) (b : Int32) : Met l yX12_order (wc yX12_order cX12_order 3 (some .int)) ({ frames := 3, cells := 0, slots := 0, locals := 72 } : Room) (pW (dC, dI) classes (WM h g ca iv lv fa la) (TM ca) sz [.ref h, .int a, .int b]) (va_Qi (fun r (u : SS) => ∃ (na_12_59 : Nat → Int32) (ni_12_60 : Int32) (ni_12_61 : Int32), (True) ∧ u = ((u2 (u2 iv 12 60 ni_12_60) 12 61 ni_12_61), lv, (u2 fa 12 59 na_12_59), la)) (bM (dC, dI) h g ca (va_A (WM h g ca iv lv fa la) sz)) (va_A (WM h g ca iv lv fa la) sz)) 0 0 (va_A (WM h g ca iv lv fa la) sz) := by
  refine Met.ofW (cc := cX12_order) (maxL := 3) (ret := (some .int)) (by decide) rfl ?_
  intro p e s m args below meth c s₁ B hml hv
  obtain ⟨rfl, hsz, hP, hK, hD0⟩ := hv
  have hx := B.exec
  have hb := B.bytes
  have hr := B.returns
  have ht := tb_tl (atoms_spec (ws := wc yX12_order cX12_order 3 (some .int)) B.pre)
  have hown : s.vm.findClass RX12 = some m.cls := findClass_of_methodNamed B.named
  have hlocks := B.notSynchronized
  subst hsz
  have hD := hD0.self (sz := s.heap.size)
  generalize hAe : va_A (WM h g ca iv lv fa la) s.heap.size = A at hD ⊢
  have hA : ∀ q : Nat, s.heap.size ≤ q → A q := fun q h => by rw [← hAe]; exact Or.inr h
  have hS : va_S A s.heap s.heap [] := va_S.rf
  have hl := lv_entry [.ref h, .int a, .int b] (n := 3) (Nat.le_of_ble_eq_true rfl)
  rw [lg_entry_eq]
  generalize (lg_sl [.ref h, .int a, .int b] ++ List.replicate (3 - (lg_sl [.ref h, .int a, .int b]).length) Slot.unset).toArray = ls at hl ⊢
  have hl : lv_has ls 3 [(0, .ref h), (1, .int a), (2, .int b)] := hl
  refine lv_iload_n hx hb dX12_order_0 rfl (lv_at hl 1 rfl) ?_
  refine lv_i2l (v := (a.toInt64)) hx hb dX12_order_1 rfl ?_
  refine lv_lconst (v := 1) hx hb dX12_order_2 (by decide) ?_
  refine lv_ldc2 hx hb hown (ht _ m_1391) dX12_order_3 ?_
  refine vp_callSi (W.runS (As := [.long (a.toInt64), .long 1, .long 3]) (rest := []) ⟨hx, hb, hml, hown, ht⟩ (c_X12_in l dC dI (a.toInt64) 1 3 (a.toInt) (1) (3) ((Int32.toInt_toInt64 a).trans rfl) (by decide : (1 : Int64).toInt = 1) (by decide : (3 : Int64).toInt = 3)) (kS 3 ht m_1370 m_1371 m_89 m_1372 rfl rfl hd_X12_in_v ⟨Nat.le_of_ble_eq_true rfl, Nat.le_of_ble_eq_true rfl⟩) (sR noP (hK.sub (tys' := []) [] rfl)) rfl rfl hl.1 rfl (lv_room (Nat.le_of_ble_eq_true rfl)) dX12_order_6 ⟨Nat.le_of_ble_eq_true rfl, Nat.le_of_ble_eq_true rfl⟩) (fun r1 hr1 => ?_)
  rcases hr1 with ⟨rfl, fr1⟩ | ⟨rfl, fr1⟩
  · skip
    refine lv_if_ne (tgt := 15) hx hb dX12_order_9 (by decide) (fun c2 => ?_) (fun c2 => ?_)
    · skip
      refine lv_aload_n hx hb dX12_order_15 rfl (lv_at hl 0 rfl) ?_
      refine lv_iload_n hx hb dX12_order_16 rfl (lv_at hl 1 rfl) ?_
      have hFc := free_all hD hS hA
      refine va_callv (va_runV (As := [.int a]) (rest := []) ⟨hx, hb, hml, hown, ht⟩ (c_X12_findOrder l dC dI s.heap.size h g ca iv lv fa la hI a ⟨by omega, by omega⟩) (kV 1 ht m_1645 m_1647 m_69 m_89 m_1648 rfl rfl hd_X12_findOrder_v ⟨Nat.le_of_ble_eq_true rfl, Nat.le_of_ble_eq_true rfl⟩) (vW hP hK hD (rM_12 hK hP)) rfl rfl hl.1 rfl (lv_room (Nat.le_of_ble_eq_true rfl)) dX12_order_17 ⟨Nat.le_of_ble_eq_true rfl, Nat.le_of_ble_eq_true rfl⟩) hS (fun q _ h => hFc q h) hFc (fun u t H1 locs ht9 hvm hr3 hB hz1 hk1 hS => ?_)
      obtain ⟨n4, n5, n6, rfl⟩ := hr3
      have hn4 : ∀ j, inb (bA 12 59 j) (n4 j) := fun j => full_i _
      obtain ⟨hP, hD⟩ := hB
      rw [ht9] at hP
      generalize H1 = H at hP hS ⊢
      have hP : va_P (dC, dI) classes (WM h g ca (u2 (u2 iv 12 60 n5) 12 61 n6) lv (u2 fa 12 59 n4) la) H := hP
      have hD : va_D A (WM h g ca (u2 (u2 iv 12 60 n5) 12 61 n6) lv (u2 fa 12 59 n4) la) := (show va_D _ (WM h g ca (u2 (u2 iv 12 60 n5) 12 61 n6) lv (u2 fa 12 59 n4) la) from hD).weaken (fun _ _ _ h => hFc _ h)
      refine lv_iload_n hx hb dX12_order_20 rfl (lv_at hl 2 rfl) ?_
      refine lv_iconst (v := (-1)) hx hb dX12_order_21 (by decide) ?_
      refine lv_icmp_ne (tgt := 32) hx hb dX12_order_22 (by decide) (fun c7 => ?_) (fun c7 => ?_)
      · have fc7 := z_ne (rfl : (b).toInt = _) (by decide : ((-1) : Int32).toInt = (-1)) c7
        refine lv_iload_n hx hb dX12_order_32 rfl (lv_at hl 2 rfl) ?_
        refine lv_i2l (v := (b.toInt64)) hx hb dX12_order_33 rfl ?_
        refine lv_lconst (v := 0) hx hb dX12_order_34 (by decide) ?_
        refine lv_aload_n hx hb dX12_order_35 rfl (lv_at hl 0 rfl) ?_
        have i_12_57 : 0 ≤ (iv 12 57).toInt ∧ (iv 12 57).toInt ≤ 8 := hI.1 12 57
        refine gM_12_57 hx hb ht hown hK hP m_1196 (v := (iv 12 57)) rfl dX12_order_36 ?_
        refine lv_iconst (v := 1) hx hb dX12_order_39 (by decide) ?_
        refine lv_isub hx hb dX12_order_40 ?_
        refine lv_topi (fun v8 ev8 => ?_)
        have tv8 := z_sub ev8 (rfl : ((iv 12 57)).toInt = _) (by decide : (1 : Int32).toInt = 1) (by omega) (by omega)
        refine lv_i2l (v := (v8.toInt64)) hx hb dX12_order_41 rfl ?_
        refine vp_callSi (W.runS (As := [.long (b.toInt64), .long 0, .long (v8.toInt64)]) (rest := []) ⟨hx, hb, hml, hown, ht⟩ (c_X12_in l dC dI (b.toInt64) 0 (v8.toInt64) (b.toInt) (0) (v8.toInt) ((Int32.toInt_toInt64 b).trans rfl) (by decide : (0 : Int64).toInt = 0) ((Int32.toInt_toInt64 v8).trans rfl)) (kS 3 ht m_1370 m_1371 m_89 m_1372 rfl rfl hd_X12_in_v ⟨Nat.le_of_ble_eq_true rfl, Nat.le_of_ble_eq_true rfl⟩) (sR noP (hK.sub (tys' := []) [] rfl)) rfl rfl hl.1 rfl (lv_room (Nat.le_of_ble_eq_true rfl)) dX12_order_42 ⟨Nat.le_of_ble_eq_true rfl, Nat.le_of_ble_eq_true rfl⟩) (fun r9 hr9 => ?_)
        rcases hr9 with ⟨rfl, fr9⟩ | ⟨rfl, fr9⟩
        · skip
          refine lv_if_eq (tgt := 61) hx hb dX12_order_45 (by decide) (fun c10 => ?_) (fun c10 => ?_)
          · exact absurd c10 (by decide)
          · skip
            refine lv_aload_n hx hb dX12_order_48 rfl (lv_at hl 0 rfl) ?_
            refine lv_aload_n hx hb dX12_order_49 rfl (lv_at hl 0 rfl) ?_
            refine gM_12_60 hx hb ht hown hK hP m_1199 (v := n5) rfl dX12_order_50 ?_
            refine lv_iload_n hx hb dX12_order_53 rfl (lv_at hl 1 rfl) ?_
            refine lv_iload_n hx hb dX12_order_54 rfl (lv_at hl 2 rfl) ?_
            have : 1 ≤ ((iv 12 57) : Int32).toInt ∧ ((iv 12 57) : Int32).toInt ≤ 8 := ⟨by omega, by omega⟩
            refine vp_callSi (W.runV (As := [.int n5, .int a, .int b]) (rest := []) ⟨hx, hb, hml, hown, ht⟩ (c_X12_ovenOf l dC dI h g ca (u2 (u2 iv 12 60 n5) 12 61 n6) lv (u2 fa 12 59 n4) la (IX_a (c := 12) (k := 59) (IX_i (c := 12) (k := 61) (IX_i (c := 12) (k := 60) hI (full_i _)) (full_i _)) hn4) n5 a b (show 1 ≤ ((iv 12 57) : Int32).toInt ∧ ((iv 12 57) : Int32).toInt ≤ 8 from ⟨by omega, by omega⟩) ⟨by omega, by omega⟩ ⟨by omega, by omega⟩ (show (b : Int32).toInt + 1 ≤ ((iv 12 57) : Int32).toInt from by omega)) (kV 3 ht m_1652 m_1654 m_70 m_89 m_1655 rfl rfl hd_X12_ovenOf_v ⟨Nat.le_of_ble_eq_true rfl, Nat.le_of_ble_eq_true rfl⟩) (vR hP hK (rM_12 hK hP)) rfl rfl hl.1 rfl (lv_room (Nat.le_of_ble_eq_true rfl)) dX12_order_55 ⟨Nat.le_of_ble_eq_true rfl, Nat.le_of_ble_eq_true rfl⟩) (fun r11 hr11 => ?_)
            refine lv_goto (tgt := 62) hx hb dX12_order_58 (by decide) ?_
            have hP9 : va_P (dC, dI) classes (WM h g ca (u2 (u2 iv 12 60 n5) 12 61 n6) lv (u2 fa 12 59 n4) la) H := hP
            have hD9 : va_D A (WM h g ca (u2 (u2 iv 12 60 n5) 12 61 n6) lv (u2 fa 12 59 n4) la) := hD
            exact W.iret (v := r11) hx hb hr (fun t ht9 hW => ⟨⟨r11, ((u2 (u2 iv 12 60 n5) 12 61 n6), lv, (u2 fa 12 59 n4), la), rfl, ⟨n4, n5, n6, trivial, rfl⟩, by rw [ht9]; exact hP9, hD9⟩, hS.F ht9⟩) hS.2.2 dX12_order_62
        · skip
          refine lv_if_eq (tgt := 61) hx hb dX12_order_45 (by decide) (fun c12 => ?_) (fun c12 => ?_)
          · skip
            refine lv_iconst (v := (-1)) hx hb dX12_order_61 (by decide) ?_
            have hP9 : va_P (dC, dI) classes (WM h g ca (u2 (u2 iv 12 60 n5) 12 61 n6) lv (u2 fa 12 59 n4) la) H := hP
            have hD9 : va_D A (WM h g ca (u2 (u2 iv 12 60 n5) 12 61 n6) lv (u2 fa 12 59 n4) la) := hD
            exact W.iret (v := (-1)) hx hb hr (fun t ht9 hW => ⟨⟨(-1), ((u2 (u2 iv 12 60 n5) 12 61 n6), lv, (u2 fa 12 59 n4), la), rfl, ⟨n4, n5, n6, trivial, rfl⟩, by rw [ht9]; exact hP9, hD9⟩, hS.F ht9⟩) hS.2.2 dX12_order_62
          · exact absurd rfl c12
      · have fc7 := z_eq (rfl : (b).toInt = _) (by decide : ((-1) : Int32).toInt = (-1)) c7
        refine lv_aload_n hx hb dX12_order_25 rfl (lv_at hl 0 rfl) ?_
        refine gM_12_61 hx hb ht hown hK hP m_1200 (v := n6) rfl dX12_order_26 ?_
        refine lv_goto (tgt := 62) hx hb dX12_order_29 (by decide) ?_
        have hP9 : va_P (dC, dI) classes (WM h g ca (u2 (u2 iv 12 60 n5) 12 61 n6) lv (u2 fa 12 59 n4) la) H := hP
        have hD9 : va_D A (WM h g ca (u2 (u2 iv 12 60 n5) 12 61 n6) lv (u2 fa 12 59 n4) la) := hD
        exact W.iret (v := n6) hx hb hr (fun t ht9 hW => ⟨⟨n6, ((u2 (u2 iv 12 60 n5) 12 61 n6), lv, (u2 fa 12 59 n4), la), rfl, ⟨n4, n5, n6, trivial, rfl⟩, by rw [ht9]; exact hP9, hD9⟩, hS.F ht9⟩) hS.2.2 dX12_order_62
    · exact absurd c2 (by decide)
  · skip
    refine lv_if_ne (tgt := 15) hx hb dX12_order_9 (by decide) (fun c13 => ?_) (fun c13 => ?_)
    · exact absurd rfl c13
    · skip
      refine lv_ldc hx hb hown (ht _ m_1373) dX12_order_12 ?_
      have hP9 : va_P (dC, dI) classes (WM h g ca (u2 (u2 iv 12 60 (iv 12 60)) 12 61 (iv 12 61)) lv (u2 fa 12 59 (fa 12 59)) la) s.heap := hP
      have hD9 : va_D A (WM h g ca (u2 (u2 iv 12 60 (iv 12 60)) 12 61 (iv 12 61)) lv (u2 fa 12 59 (fa 12 59)) la) := hD
      exact W.iret (v := (-100002)) hx hb hr (fun t ht9 hW => ⟨⟨(-100002), ((u2 (u2 iv 12 60 (iv 12 60)) 12 61 (iv 12 61)), lv, (u2 fa 12 59 (fa 12 59)), la), rfl, ⟨(fa 12 59), (iv 12 60), (iv 12 61), trivial, rfl⟩, by rw [ht9]; exact hP9, hD9⟩, hS.F ht9⟩) hS.2.2 dX12_order_14
