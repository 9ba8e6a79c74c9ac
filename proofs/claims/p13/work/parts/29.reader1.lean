/-! ===== reader1 ===== -/
set_option maxRecDepth 100000 in
theorem m_16 : Cond.selects RX8 yX8_skipBlanks yX8_skipBlanks ∈ tb := tb_in 16 (by decide +kernel) rfl
set_option maxRecDepth 100000 in
theorem m_19 : Cond.selects RX8 yX8_endOfRun yX8_endOfRun ∈ tb := tb_in 19 (by decide +kernel) rfl
set_option maxRecDepth 100000 in
theorem m_20 : Cond.selects RX8 yX8_isSame yX8_isSame ∈ tb := tb_in 20 (by decide +kernel) rfl
set_option maxRecDepth 100000 in
theorem m_21 : Cond.selects RX8 yX8_fail yX8_fail ∈ tb := tb_in 21 (by decide +kernel) rfl
theorem m_82 : Cond.initialized RX8 ∈ tb := mb_1_0 _ (List.mem_of_getElem? (i := 5) rfl)
theorem m_688 : Cond.methodLink RX8 37 yX8_skipBlanks ∈ tb := mb_3_4 _ (List.mem_of_getElem? (i := 23) rfl)
theorem m_690 : Cond.instanceMethod yX8_skipBlanks ∈ tb := mb_3_5 _ (List.mem_of_getElem? (i := 0) rfl)
theorem m_691 : Cond.code yX8_skipBlanks cX8_skipBlanks 1 (some .boolean) ∈ tb := mb_3_5 _ (List.mem_of_getElem? (i := 1) rfl)
theorem m_701 : Cond.methodLink RX8 99 yX8_endOfRun ∈ tb := mb_3_5 _ (List.mem_of_getElem? (i := 8) rfl)
theorem m_703 : Cond.instanceMethod yX8_endOfRun ∈ tb := mb_3_5 _ (List.mem_of_getElem? (i := 9) rfl)
theorem m_704 : Cond.code yX8_endOfRun cX8_endOfRun 4 (some .int) ∈ tb := mb_3_5 _ (List.mem_of_getElem? (i := 10) rfl)
theorem m_705 : Cond.methodLink RX8 107 yJ0_length_8abf5 ∈ tb := mbJ_3_0 _ (List.mem_of_getElem? (i := 0) rfl)
theorem m_706 : Cond.instanceMethod yJ0_length_8abf5 ∈ tb := mbJ_3_0 _ (List.mem_of_getElem? (i := 1) rfl)
theorem m_707 : Cond.selects "java/lang/String" yJ0_length_8abf5 yJ0_length_8abf5 ∈ tb := mbJ_3_0 _ (List.mem_of_getElem? (i := 2) rfl)
theorem m_708 : Cond.code yJ0_length_8abf5 cJ0_length_8abf5 1 (some .int) ∈ tb := mbJ_3_0 _ (List.mem_of_getElem? (i := 3) rfl)
theorem m_715 : Cond.methodLink RX8 112 yJ0_charAt_5068e ∈ tb := mbJ_3_0 _ (List.mem_of_getElem? (i := 8) rfl)
theorem m_716 : Cond.instanceMethod yJ0_charAt_5068e ∈ tb := mbJ_3_0 _ (List.mem_of_getElem? (i := 9) rfl)
theorem m_717 : Cond.selects "java/lang/String" yJ0_charAt_5068e yJ0_charAt_5068e ∈ tb := mbJ_3_0 _ (List.mem_of_getElem? (i := 10) rfl)
theorem m_718 : Cond.code yJ0_charAt_5068e cJ0_charAt_5068e 2 (some .char) ∈ tb := mbJ_3_0 _ (List.mem_of_getElem? (i := 11) rfl)
theorem m_753 : Cond.methodLink RX8 116 yX8_isSame ∈ tb := mb_3_5 _ (List.mem_of_getElem? (i := 13) rfl)
theorem m_755 : Cond.instanceMethod yX8_isSame ∈ tb := mb_3_5 _ (List.mem_of_getElem? (i := 14) rfl)
theorem m_756 : Cond.code yX8_isSame cX8_isSame 6 (some .boolean) ∈ tb := mb_3_5 _ (List.mem_of_getElem? (i := 15) rfl)
theorem m_757 : Cond.methodLink RX8 53 yX8_fail ∈ tb := mb_3_5 _ (List.mem_of_getElem? (i := 16) rfl)
theorem m_759 : Cond.instanceMethod yX8_fail ∈ tb := mb_3_5 _ (List.mem_of_getElem? (i := 17) rfl)
theorem m_760 : Cond.code yX8_fail cX8_fail 3 (some .boolean) ∈ tb := mb_3_5 _ (List.mem_of_getElem? (i := 18) rfl)
theorem hd_J0_charAt_5068e_v : yJ0_charAt_5068e.cls = RJ0 ∧ yJ0_charAt_5068e.cls ≠ "java/lang/invoke/MethodHandle" ∧ yJ0_charAt_5068e.cls ≠ "java/lang/invoke/VarHandle" ∧ (parseMethodDescriptor yJ0_charAt_5068e.desc).map (fun d => d.parameters.length) = some 1 := by decide +kernel
theorem hd_J0_length_8abf5_v : yJ0_length_8abf5.cls = RJ0 ∧ yJ0_length_8abf5.cls ≠ "java/lang/invoke/MethodHandle" ∧ yJ0_length_8abf5.cls ≠ "java/lang/invoke/VarHandle" ∧ (parseMethodDescriptor yJ0_length_8abf5.desc).map (fun d => d.parameters.length) = some 0 := by decide +kernel
theorem hd_X8_endOfRun_v : yX8_endOfRun.cls = RX8 ∧ yX8_endOfRun.cls ≠ "java/lang/invoke/MethodHandle" ∧ yX8_endOfRun.cls ≠ "java/lang/invoke/VarHandle" ∧ (parseMethodDescriptor yX8_endOfRun.desc).map (fun d => d.parameters.length) = some 2 := by decide +kernel
theorem hd_X8_fail_v : yX8_fail.cls = RX8 ∧ yX8_fail.cls ≠ "java/lang/invoke/MethodHandle" ∧ yX8_fail.cls ≠ "java/lang/invoke/VarHandle" ∧ (parseMethodDescriptor yX8_fail.desc).map (fun d => d.parameters.length) = some 2 := by decide +kernel
theorem hd_X8_isSame_v : yX8_isSame.cls = RX8 ∧ yX8_isSame.cls ≠ "java/lang/invoke/MethodHandle" ∧ yX8_isSame.cls ≠ "java/lang/invoke/VarHandle" ∧ (parseMethodDescriptor yX8_isSame.desc).map (fun d => d.parameters.length) = some 4 := by decide +kernel
theorem hd_X8_skipBlanks_v : yX8_skipBlanks.cls = RX8 ∧ yX8_skipBlanks.cls ≠ "java/lang/invoke/MethodHandle" ∧ yX8_skipBlanks.cls ≠ "java/lang/invoke/VarHandle" ∧ (parseMethodDescriptor yX8_skipBlanks.desc).map (fun d => d.parameters.length) = some 0 := by decide +kernel
set_option maxRecDepth 100000 in
theorem dvX8_isSame_0 : ([(0, .iload_n 3, 1), (1, .iload_n 2, 1), (2, .isub, 1), (3, .iload 4, 2), (5, .aload_n 0, 1), (6, .getfield 25, 3), (9, .isub, 1), (10, .if_icmp .eq 5, 3), (13, .iconst 0, 1), (14, .ireturn, 1), (15, .iconst 0, 1), (16, .istore 5, 2), (18, .iload 5, 2), (20, .iload_n 3, 1), (21, .iload_n 2, 1), (22, .isub, 1), (23, .if_icmp .ge 34, 3), (26, .aload_n 1, 1), (27, .iload_n 2, 1), (28, .iload 5, 2), (30, .iadd, 1), (31, .invokevirtual 112, 3), (34, .aload_n 0, 1), (35, .getfield 11, 3)] : List (Nat × Instr × Nat)).all (fun q => decide (decode cX8_isSame q.1 = .ok (q.2.1, q.2.2))) = true := by decide +kernel
theorem dX8_isSame_0 : decode cX8_isSame 0 = .ok (.iload_n 3, 1) := all_at dvX8_isSame_0 0 rfl
theorem dX8_isSame_1 : decode cX8_isSame 1 = .ok (.iload_n 2, 1) := all_at dvX8_isSame_0 1 rfl
theorem dX8_isSame_2 : decode cX8_isSame 2 = .ok (.isub, 1) := all_at dvX8_isSame_0 2 rfl
theorem dX8_isSame_3 : decode cX8_isSame 3 = .ok (.iload 4, 2) := all_at dvX8_isSame_0 3 rfl
theorem dX8_isSame_5 : decode cX8_isSame 5 = .ok (.aload_n 0, 1) := all_at dvX8_isSame_0 4 rfl
theorem dX8_isSame_6 : decode cX8_isSame 6 = .ok (.getfield 25, 3) := all_at dvX8_isSame_0 5 rfl
theorem dX8_isSame_9 : decode cX8_isSame 9 = .ok (.isub, 1) := all_at dvX8_isSame_0 6 rfl
theorem dX8_isSame_10 : decode cX8_isSame 10 = .ok (.if_icmp .eq 5, 3) := all_at dvX8_isSame_0 7 rfl
theorem dX8_isSame_13 : decode cX8_isSame 13 = .ok (.iconst 0, 1) := all_at dvX8_isSame_0 8 rfl
theorem dX8_isSame_14 : decode cX8_isSame 14 = .ok (.ireturn, 1) := all_at dvX8_isSame_0 9 rfl
theorem dX8_isSame_15 : decode cX8_isSame 15 = .ok (.iconst 0, 1) := all_at dvX8_isSame_0 10 rfl
theorem dX8_isSame_16 : decode cX8_isSame 16 = .ok (.istore 5, 2) := all_at dvX8_isSame_0 11 rfl
theorem dX8_isSame_18 : decode cX8_isSame 18 = .ok (.iload 5, 2) := all_at dvX8_isSame_0 12 rfl
theorem dX8_isSame_20 : decode cX8_isSame 20 = .ok (.iload_n 3, 1) := all_at dvX8_isSame_0 13 rfl
theorem dX8_isSame_21 : decode cX8_isSame 21 = .ok (.iload_n 2, 1) := all_at dvX8_isSame_0 14 rfl
theorem dX8_isSame_22 : decode cX8_isSame 22 = .ok (.isub, 1) := all_at dvX8_isSame_0 15 rfl
theorem dX8_isSame_23 : decode cX8_isSame 23 = .ok (.if_icmp .ge 34, 3) := all_at dvX8_isSame_0 16 rfl
theorem dX8_isSame_26 : decode cX8_isSame 26 = .ok (.aload_n 1, 1) := all_at dvX8_isSame_0 17 rfl
theorem dX8_isSame_27 : decode cX8_isSame 27 = .ok (.iload_n 2, 1) := all_at dvX8_isSame_0 18 rfl
theorem dX8_isSame_28 : decode cX8_isSame 28 = .ok (.iload 5, 2) := all_at dvX8_isSame_0 19 rfl
theorem dX8_isSame_30 : decode cX8_isSame 30 = .ok (.iadd, 1) := all_at dvX8_isSame_0 20 rfl
theorem dX8_isSame_31 : decode cX8_isSame 31 = .ok (.invokevirtual 112, 3) := all_at dvX8_isSame_0 21 rfl
theorem dX8_isSame_34 : decode cX8_isSame 34 = .ok (.aload_n 0, 1) := all_at dvX8_isSame_0 22 rfl
theorem dX8_isSame_35 : decode cX8_isSame 35 = .ok (.getfield 11, 3) := all_at dvX8_isSame_0 23 rfl
set_option maxRecDepth 100000 in
theorem dvX8_isSame_38 : ([(38, .aload_n 0, 1), (39, .getfield 25, 3), (42, .iload 5, 2), (44, .iadd, 1), (45, .baload, 1), (46, .if_icmp .eq 5, 3), (49, .iconst 0, 1), (50, .ireturn, 1), (51, .iinc 5 1, 3), (54, .goto (-36), 3), (57, .iconst 1, 1), (58, .ireturn, 1)] : List (Nat × Instr × Nat)).all (fun q => decide (decode cX8_isSame q.1 = .ok (q.2.1, q.2.2))) = true := by decide +kernel
theorem dX8_isSame_38 : decode cX8_isSame 38 = .ok (.aload_n 0, 1) := all_at dvX8_isSame_38 0 rfl
theorem dX8_isSame_39 : decode cX8_isSame 39 = .ok (.getfield 25, 3) := all_at dvX8_isSame_38 1 rfl
theorem dX8_isSame_42 : decode cX8_isSame 42 = .ok (.iload 5, 2) := all_at dvX8_isSame_38 2 rfl
theorem dX8_isSame_44 : decode cX8_isSame 44 = .ok (.iadd, 1) := all_at dvX8_isSame_38 3 rfl
theorem dX8_isSame_45 : decode cX8_isSame 45 = .ok (.baload, 1) := all_at dvX8_isSame_38 4 rfl
theorem dX8_isSame_46 : decode cX8_isSame 46 = .ok (.if_icmp .eq 5, 3) := all_at dvX8_isSame_38 5 rfl
theorem dX8_isSame_49 : decode cX8_isSame 49 = .ok (.iconst 0, 1) := all_at dvX8_isSame_38 6 rfl
theorem dX8_isSame_50 : decode cX8_isSame 50 = .ok (.ireturn, 1) := all_at dvX8_isSame_38 7 rfl
theorem dX8_isSame_51 : decode cX8_isSame 51 = .ok (.iinc 5 1, 3) := all_at dvX8_isSame_38 8 rfl
theorem dX8_isSame_54 : decode cX8_isSame 54 = .ok (.goto (-36), 3) := all_at dvX8_isSame_38 9 rfl
theorem dX8_isSame_57 : decode cX8_isSame 57 = .ok (.iconst 1, 1) := all_at dvX8_isSame_38 10 rfl
theorem dX8_isSame_58 : decode cX8_isSame 58 = .ok (.ireturn, 1) := all_at dvX8_isSame_38 11 rfl
set_option maxRecDepth 100000 in
theorem dvX8_readOneOf_0 : ([(0, .aload_n 0, 1), (1, .invokevirtual 37, 3), (4, .pop, 1), (5, .aload_n 0, 1), (6, .bipush 97, 2), (8, .bipush 122, 2), (10, .invokevirtual 99, 3), (13, .istore_n 2, 1), (14, .iconst 0, 1), (15, .istore_n 3, 1), (16, .iconst 0, 1), (17, .istore 4, 2), (19, .iconst 0, 1), (20, .istore 5, 2), (22, .iload 5, 2), (24, .aload_n 1, 1), (25, .invokevirtual 107, 3), (28, .if_icmp .ge 49, 3), (31, .aload_n 1, 1), (32, .iload 5, 2), (34, .invokevirtual 112, 3), (37, .bipush 32, 2), (39, .if_icmp .ne 32, 3), (42, .aload_n 0, 1)] : List (Nat × Instr × Nat)).all (fun q => decide (decode cX8_readOneOf q.1 = .ok (q.2.1, q.2.2))) = true := by decide +kernel
theorem dX8_readOneOf_0 : decode cX8_readOneOf 0 = .ok (.aload_n 0, 1) := all_at dvX8_readOneOf_0 0 rfl
theorem dX8_readOneOf_1 : decode cX8_readOneOf 1 = .ok (.invokevirtual 37, 3) := all_at dvX8_readOneOf_0 1 rfl
theorem dX8_readOneOf_4 : decode cX8_readOneOf 4 = .ok (.pop, 1) := all_at dvX8_readOneOf_0 2 rfl
theorem dX8_readOneOf_5 : decode cX8_readOneOf 5 = .ok (.aload_n 0, 1) := all_at dvX8_readOneOf_0 3 rfl
theorem dX8_readOneOf_6 : decode cX8_readOneOf 6 = .ok (.bipush 97, 2) := all_at dvX8_readOneOf_0 4 rfl
theorem dX8_readOneOf_8 : decode cX8_readOneOf 8 = .ok (.bipush 122, 2) := all_at dvX8_readOneOf_0 5 rfl
theorem dX8_readOneOf_10 : decode cX8_readOneOf 10 = .ok (.invokevirtual 99, 3) := all_at dvX8_readOneOf_0 6 rfl
theorem dX8_readOneOf_13 : decode cX8_readOneOf 13 = .ok (.istore_n 2, 1) := all_at dvX8_readOneOf_0 7 rfl
theorem dX8_readOneOf_14 : decode cX8_readOneOf 14 = .ok (.iconst 0, 1) := all_at dvX8_readOneOf_0 8 rfl
theorem dX8_readOneOf_15 : decode cX8_readOneOf 15 = .ok (.istore_n 3, 1) := all_at dvX8_readOneOf_0 9 rfl
theorem dX8_readOneOf_16 : decode cX8_readOneOf 16 = .ok (.iconst 0, 1) := all_at dvX8_readOneOf_0 10 rfl
theorem dX8_readOneOf_17 : decode cX8_readOneOf 17 = .ok (.istore 4, 2) := all_at dvX8_readOneOf_0 11 rfl
theorem dX8_readOneOf_19 : decode cX8_readOneOf 19 = .ok (.iconst 0, 1) := all_at dvX8_readOneOf_0 12 rfl
theorem dX8_readOneOf_20 : decode cX8_readOneOf 20 = .ok (.istore 5, 2) := all_at dvX8_readOneOf_0 13 rfl
theorem dX8_readOneOf_22 : decode cX8_readOneOf 22 = .ok (.iload 5, 2) := all_at dvX8_readOneOf_0 14 rfl
theorem dX8_readOneOf_24 : decode cX8_readOneOf 24 = .ok (.aload_n 1, 1) := all_at dvX8_readOneOf_0 15 rfl
theorem dX8_readOneOf_25 : decode cX8_readOneOf 25 = .ok (.invokevirtual 107, 3) := all_at dvX8_readOneOf_0 16 rfl
theorem dX8_readOneOf_28 : decode cX8_readOneOf 28 = .ok (.if_icmp .ge 49, 3) := all_at dvX8_readOneOf_0 17 rfl
theorem dX8_readOneOf_31 : decode cX8_readOneOf 31 = .ok (.aload_n 1, 1) := all_at dvX8_readOneOf_0 18 rfl
theorem dX8_readOneOf_32 : decode cX8_readOneOf 32 = .ok (.iload 5, 2) := all_at dvX8_readOneOf_0 19 rfl
theorem dX8_readOneOf_34 : decode cX8_readOneOf 34 = .ok (.invokevirtual 112, 3) := all_at dvX8_readOneOf_0 20 rfl
theorem dX8_readOneOf_37 : decode cX8_readOneOf 37 = .ok (.bipush 32, 2) := all_at dvX8_readOneOf_0 21 rfl
theorem dX8_readOneOf_39 : decode cX8_readOneOf 39 = .ok (.if_icmp .ne 32, 3) := all_at dvX8_readOneOf_0 22 rfl
theorem dX8_readOneOf_42 : decode cX8_readOneOf 42 = .ok (.aload_n 0, 1) := all_at dvX8_readOneOf_0 23 rfl
set_option maxRecDepth 100000 in
theorem dvX8_readOneOf_43 : ([(43, .aload_n 1, 1), (44, .iload 4, 2), (46, .iload 5, 2), (48, .iload_n 2, 1), (49, .invokevirtual 116, 3), (52, .ifCond .eq 10, 3), (55, .aload_n 0, 1), (56, .iload_n 2, 1), (57, .putfield 25, 3), (60, .iload_n 3, 1), (61, .ireturn, 1), (62, .iinc 3 1, 3), (65, .iload 5, 2), (67, .iconst 1, 1), (68, .iadd, 1), (69, .istore 4, 2), (71, .iinc 5 1, 3), (74, .goto (-52), 3), (77, .aload_n 0, 1), (78, .iconst 1, 1), (79, .aload_n 0, 1), (80, .getfield 25, 3), (83, .invokevirtual 53, 3), (86, .pop, 1)] : List (Nat × Instr × Nat)).all (fun q => decide (decode cX8_readOneOf q.1 = .ok (q.2.1, q.2.2))) = true := by decide +kernel
theorem dX8_readOneOf_43 : decode cX8_readOneOf 43 = .ok (.aload_n 1, 1) := all_at dvX8_readOneOf_43 0 rfl
theorem dX8_readOneOf_44 : decode cX8_readOneOf 44 = .ok (.iload 4, 2) := all_at dvX8_readOneOf_43 1 rfl
theorem dX8_readOneOf_46 : decode cX8_readOneOf 46 = .ok (.iload 5, 2) := all_at dvX8_readOneOf_43 2 rfl
theorem dX8_readOneOf_48 : decode cX8_readOneOf 48 = .ok (.iload_n 2, 1) := all_at dvX8_readOneOf_43 3 rfl
theorem dX8_readOneOf_49 : decode cX8_readOneOf 49 = .ok (.invokevirtual 116, 3) := all_at dvX8_readOneOf_43 4 rfl
theorem dX8_readOneOf_52 : decode cX8_readOneOf 52 = .ok (.ifCond .eq 10, 3) := all_at dvX8_readOneOf_43 5 rfl
theorem dX8_readOneOf_55 : decode cX8_readOneOf 55 = .ok (.aload_n 0, 1) := all_at dvX8_readOneOf_43 6 rfl
theorem dX8_readOneOf_56 : decode cX8_readOneOf 56 = .ok (.iload_n 2, 1) := all_at dvX8_readOneOf_43 7 rfl
theorem dX8_readOneOf_57 : decode cX8_readOneOf 57 = .ok (.putfield 25, 3) := all_at dvX8_readOneOf_43 8 rfl
theorem dX8_readOneOf_60 : decode cX8_readOneOf 60 = .ok (.iload_n 3, 1) := all_at dvX8_readOneOf_43 9 rfl
theorem dX8_readOneOf_61 : decode cX8_readOneOf 61 = .ok (.ireturn, 1) := all_at dvX8_readOneOf_43 10 rfl
theorem dX8_readOneOf_62 : decode cX8_readOneOf 62 = .ok (.iinc 3 1, 3) := all_at dvX8_readOneOf_43 11 rfl
theorem dX8_readOneOf_65 : decode cX8_readOneOf 65 = .ok (.iload 5, 2) := all_at dvX8_readOneOf_43 12 rfl
theorem dX8_readOneOf_67 : decode cX8_readOneOf 67 = .ok (.iconst 1, 1) := all_at dvX8_readOneOf_43 13 rfl
theorem dX8_readOneOf_68 : decode cX8_readOneOf 68 = .ok (.iadd, 1) := all_at dvX8_readOneOf_43 14 rfl
theorem dX8_readOneOf_69 : decode cX8_readOneOf 69 = .ok (.istore 4, 2) := all_at dvX8_readOneOf_43 15 rfl
theorem dX8_readOneOf_71 : decode cX8_readOneOf 71 = .ok (.iinc 5 1, 3) := all_at dvX8_readOneOf_43 16 rfl
theorem dX8_readOneOf_74 : decode cX8_readOneOf 74 = .ok (.goto (-52), 3) := all_at dvX8_readOneOf_43 17 rfl
theorem dX8_readOneOf_77 : decode cX8_readOneOf 77 = .ok (.aload_n 0, 1) := all_at dvX8_readOneOf_43 18 rfl
theorem dX8_readOneOf_78 : decode cX8_readOneOf 78 = .ok (.iconst 1, 1) := all_at dvX8_readOneOf_43 19 rfl
theorem dX8_readOneOf_79 : decode cX8_readOneOf 79 = .ok (.aload_n 0, 1) := all_at dvX8_readOneOf_43 20 rfl
theorem dX8_readOneOf_80 : decode cX8_readOneOf 80 = .ok (.getfield 25, 3) := all_at dvX8_readOneOf_43 21 rfl
theorem dX8_readOneOf_83 : decode cX8_readOneOf 83 = .ok (.invokevirtual 53, 3) := all_at dvX8_readOneOf_43 22 rfl
theorem dX8_readOneOf_86 : decode cX8_readOneOf 86 = .ok (.pop, 1) := all_at dvX8_readOneOf_43 23 rfl
theorem dX8_readOneOf_87 : decode cX8_readOneOf 87 = .ok (.iconst (-1), 1) := by decide +kernel
theorem dX8_readOneOf_88 : decode cX8_readOneOf 88 = .ok (.ireturn, 1) := by decide +kernel
set_option maxRecDepth 100000 in
theorem dvX8_take_0 : ([(0, .iload_n 1, 1), (1, .iconst 1, 1), (2, .isub, 1), (3, .istore 4, 2), (5, .iload 4, 2), (7, .ifCond .lt 37, 3), (10, .aload_n 0, 1), (11, .getfield 11, 3), (14, .aload_n 0, 1), (15, .getfield 15, 3), (18, .lload_n 2, 1), (19, .bipush 8, 2), (21, .iload 4, 2), (23, .imul, 1), (24, .lushr, 1), (25, .l2i, 1), (26, .i2b, 1), (27, .bastore, 1), (28, .aload_n 0, 1), (29, .dup, 1), (30, .getfield 15, 3), (33, .iconst 1, 1), (34, .iadd, 1), (35, .putfield 15, 3)] : List (Nat × Instr × Nat)).all (fun q => decide (decode cX8_take q.1 = .ok (q.2.1, q.2.2))) = true := by decide +kernel
theorem dX8_take_0 : decode cX8_take 0 = .ok (.iload_n 1, 1) := all_at dvX8_take_0 0 rfl
theorem dX8_take_1 : decode cX8_take 1 = .ok (.iconst 1, 1) := all_at dvX8_take_0 1 rfl
theorem dX8_take_2 : decode cX8_take 2 = .ok (.isub, 1) := all_at dvX8_take_0 2 rfl
theorem dX8_take_3 : decode cX8_take 3 = .ok (.istore 4, 2) := all_at dvX8_take_0 3 rfl
theorem dX8_take_5 : decode cX8_take 5 = .ok (.iload 4, 2) := all_at dvX8_take_0 4 rfl
theorem dX8_take_7 : decode cX8_take 7 = .ok (.ifCond .lt 37, 3) := all_at dvX8_take_0 5 rfl
theorem dX8_take_10 : decode cX8_take 10 = .ok (.aload_n 0, 1) := all_at dvX8_take_0 6 rfl
theorem dX8_take_11 : decode cX8_take 11 = .ok (.getfield 11, 3) := all_at dvX8_take_0 7 rfl
theorem dX8_take_14 : decode cX8_take 14 = .ok (.aload_n 0, 1) := all_at dvX8_take_0 8 rfl
theorem dX8_take_15 : decode cX8_take 15 = .ok (.getfield 15, 3) := all_at dvX8_take_0 9 rfl
theorem dX8_take_18 : decode cX8_take 18 = .ok (.lload_n 2, 1) := all_at dvX8_take_0 10 rfl
theorem dX8_take_19 : decode cX8_take 19 = .ok (.bipush 8, 2) := all_at dvX8_take_0 11 rfl
theorem dX8_take_21 : decode cX8_take 21 = .ok (.iload 4, 2) := all_at dvX8_take_0 12 rfl
theorem dX8_take_23 : decode cX8_take 23 = .ok (.imul, 1) := all_at dvX8_take_0 13 rfl
theorem dX8_take_24 : decode cX8_take 24 = .ok (.lushr, 1) := all_at dvX8_take_0 14 rfl
theorem dX8_take_25 : decode cX8_take 25 = .ok (.l2i, 1) := all_at dvX8_take_0 15 rfl
theorem dX8_take_26 : decode cX8_take 26 = .ok (.i2b, 1) := all_at dvX8_take_0 16 rfl
theorem dX8_take_27 : decode cX8_take 27 = .ok (.bastore, 1) := all_at dvX8_take_0 17 rfl
theorem dX8_take_28 : decode cX8_take 28 = .ok (.aload_n 0, 1) := all_at dvX8_take_0 18 rfl
theorem dX8_take_29 : decode cX8_take 29 = .ok (.dup, 1) := all_at dvX8_take_0 19 rfl
theorem dX8_take_30 : decode cX8_take 30 = .ok (.getfield 15, 3) := all_at dvX8_take_0 20 rfl
theorem dX8_take_33 : decode cX8_take 33 = .ok (.iconst 1, 1) := all_at dvX8_take_0 21 rfl
theorem dX8_take_34 : decode cX8_take 34 = .ok (.iadd, 1) := all_at dvX8_take_0 22 rfl
theorem dX8_take_35 : decode cX8_take 35 = .ok (.putfield 15, 3) := all_at dvX8_take_0 23 rfl
set_option maxRecDepth 100000 in
theorem dvX8_take_38 : ([(38, .iinc 4 (-1), 3), (41, .goto (-36), 3), (44, .aload_n 0, 1), (45, .getfield 15, 3), (48, .ireturn, 1)] : List (Nat × Instr × Nat)).all (fun q => decide (decode cX8_take q.1 = .ok (q.2.1, q.2.2))) = true := by decide +kernel
theorem dX8_take_38 : decode cX8_take 38 = .ok (.iinc 4 (-1), 3) := all_at dvX8_take_38 0 rfl
theorem dX8_take_41 : decode cX8_take 41 = .ok (.goto (-36), 3) := all_at dvX8_take_38 1 rfl
theorem dX8_take_44 : decode cX8_take 44 = .ok (.aload_n 0, 1) := all_at dvX8_take_38 2 rfl
theorem dX8_take_45 : decode cX8_take 45 = .ok (.getfield 15, 3) := all_at dvX8_take_38 3 rfl
theorem dX8_take_48 : decode cX8_take 48 = .ok (.ireturn, 1) := all_at dvX8_take_38 4 rfl
