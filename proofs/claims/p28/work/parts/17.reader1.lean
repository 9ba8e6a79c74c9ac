/-! ===== reader1 ===== -/
set_option maxRecDepth 100000 in
theorem m_16 : Cond.selects RX8 yX8_skipBlanks yX8_skipBlanks ∈ tb := tb_in 16 (by decide +kernel) rfl
set_option maxRecDepth 100000 in
theorem m_19 : Cond.selects RX8 yX8_endOfRun yX8_endOfRun ∈ tb := tb_in 19 (by decide +kernel) rfl
set_option maxRecDepth 100000 in
theorem m_20 : Cond.selects RX8 yX8_isSame yX8_isSame ∈ tb := tb_in 20 (by decide +kernel) rfl
set_option maxRecDepth 100000 in
theorem m_21 : Cond.selects RX8 yX8_fail yX8_fail ∈ tb := tb_in 21 (by decide +kernel) rfl
theorem m_82 : Cond.initialized RX8 ∈ tb := mb_1_0 _ (List.mem_of_getElem? (i := 5) rfl)
theorem m_688 : Cond.methodLink RX8 37 yX8_skipBlanks ∈ tb := mb_3_4 _ (List.mem_of_getElem? (i := 23) rfl)
theorem m_690 : Cond.instanceMethod yX8_skipBlanks ∈ tb := mb_3_5 _ (List.mem_of_getElem? (i := 0) rfl)
theorem m_691 : Cond.code yX8_skipBlanks cX8_skipBlanks 1 (some .boolean) ∈ tb := mb_3_5 _ (List.mem_of_getElem? (i := 1) rfl)
theorem m_701 : Cond.methodLink RX8 99 yX8_endOfRun ∈ tb := mb_3_5 _ (List.mem_of_getElem? (i := 8) rfl)
theorem m_703 : Cond.instanceMethod yX8_endOfRun ∈ tb := mb_3_5 _ (List.mem_of_getElem? (i := 9) rfl)
theorem m_704 : Cond.code yX8_endOfRun cX8_endOfRun 4 (some .int) ∈ tb := mb_3_5 _ (List.mem_of_getElem? (i := 10) rfl)
theorem m_705 : Cond.methodLink RX8 107 yJ0_length_8abf5 ∈ tb := mbJ_3_0 _ (List.mem_of_getElem? (i := 0) rfl)
theorem m_706 : Cond.instanceMethod yJ0_length_8abf5 ∈ tb := mbJ_3_0 _ (List.mem_of_getElem? (i := 1) rfl)
theorem m_707 : Cond.selects "java/lang/String" yJ0_length_8abf5 yJ0_length_8abf5 ∈ tb := mbJ_3_0 _ (List.mem_of_getElem? (i := 2) rfl)
theorem m_708 : Cond.code yJ0_length_8abf5 cJ0_length_8abf5 1 (some .int) ∈ tb := mbJ_3_0 _ (List.mem_of_getElem? (i := 3) rfl)
theorem m_715 : Cond.methodLink RX8 112 yJ0_charAt_5068e ∈ tb := mbJ_3_0 _ (List.mem_of_getElem? (i := 8) rfl)
theorem m_716 : Cond.instanceMethod yJ0_charAt_5068e ∈ tb := mbJ_3_0 _ (List.mem_of_getElem? (i := 9) rfl)
theorem m_717 : Cond.selects "java/lang/String" yJ0_charAt_5068e yJ0_charAt_5068e ∈ tb := mbJ_3_0 _ (List.mem_of_getElem? (i := 10) rfl)
theorem m_718 : Cond.code yJ0_charAt_5068e cJ0_charAt_5068e 2 (some .char) ∈ tb := mbJ_3_0 _ (List.mem_of_getElem? (i := 11) rfl)
theorem m_753 : Cond.methodLink RX8 116 yX8_isSame ∈ tb := mb_3_5 _ (List.mem_of_getElem? (i := 13) rfl)
theorem m_755 : Cond.instanceMethod yX8_isSame ∈ tb := mb_3_5 _ (List.mem_of_getElem? (i := 14) rfl)
theorem m_756 : Cond.code yX8_isSame cX8_isSame 6 (some .boolean) ∈ tb := mb_3_5 _ (List.mem_of_getElem? (i := 15) rfl)
theorem m_757 : Cond.methodLink RX8 53 yX8_fail ∈ tb := mb_3_5 _ (List.mem_of_getElem? (i := 16) rfl)
theorem m_759 : Cond.instanceMethod yX8_fail ∈ tb := mb_3_5 _ (List.mem_of_getElem? (i := 17) rfl)
theorem m_760 : Cond.code yX8_fail cX8_fail 3 (some .boolean) ∈ tb := mb_3_5 _ (List.mem_of_getElem? (i := 18) rfl)
theorem hd_J0_charAt_5068e_v : yJ0_charAt_5068e.cls = RJ0 ∧ yJ0_charAt_5068e.cls ≠ "java/lang/invoke/MethodHandle" ∧ yJ0_charAt_5068e.cls ≠ "java/lang/invoke/VarHandle" ∧ (parseMethodDescriptor yJ0_charAt_5068e.desc).map (fun d => d.parameters.length) = some 1 := by decide +kernel
theorem hd_J0_length_8abf5_v : yJ0_length_8abf5.cls = RJ0 ∧ yJ0_length_8abf5.cls ≠ "java/lang/invoke/MethodHandle" ∧ yJ0_length_8abf5.cls ≠ "java/lang/invoke/VarHandle" ∧ (parseMethodDescriptor yJ0_length_8abf5.desc).map (fun d => d.parameters.length) = some 0 := by decide +kernel
theorem hd_X8_endOfRun_v : yX8_endOfRun.cls = RX8 ∧ yX8_endOfRun.cls ≠ "java/lang/invoke/MethodHandle" ∧ yX8_endOfRun.cls ≠ "java/lang/invoke/VarHandle" ∧ (parseMethodDescriptor yX8_endOfRun.desc).map (fun d => d.parameters.length) = some 2 := by decide +kernel
theorem hd_X8_fail_v : yX8_fail.cls = RX8 ∧ yX8_fail.cls ≠ "java/lang/invoke/MethodHandle" ∧ yX8_fail.cls ≠ "java/lang/invoke/VarHandle" ∧ (parseMethodDescriptor yX8_fail.desc).map (fun d => d.parameters.length) = some 2 := by decide +kernel
theorem hd_X8_isSame_v : yX8_isSame.cls = RX8 ∧ yX8_isSame.cls ≠ "java/lang/invoke/MethodHandle" ∧ yX8_isSame.cls ≠ "java/lang/invoke/VarHandle" ∧ (parseMethodDescriptor yX8_isSame.desc).map (fun d => d.parameters.length) = some 4 := by decide +kernel
theorem hd_X8_skipBlanks_v : yX8_skipBlanks.cls = RX8 ∧ yX8_skipBlanks.cls ≠ "java/lang/invoke/MethodHandle" ∧ yX8_skipBlanks.cls ≠ "java/lang/invoke/VarHandle" ∧ (parseMethodDescriptor yX8_skipBlanks.desc).map (fun d => d.parameters.length) = some 0 := by decide +kernel
set_option maxRecDepth 100000 in
theorem dvX8_isSame_0 : ([(0, .iload_n 3, 1), (1, .iload_n 2, 1), (2, .isub, 1), (3, .iload 4, 2), (5, .aload_n 0, 1), (6, .getfield 25, 3), (9, .isub, 1), (10, .if_icmp .eq 5, 3), (13, .iconst 0, 1), (14, .ireturn, 1), (15, .iconst 0, 1), (16, .istore 5, 2), (18, .iload 5, 2), (20, .iload_n 3, 1), (21, .iload_n 2, 1), (22, .isub, 1), (23, .if_icmp .ge 34, 3), (26, .aload_n 1, 1), (27, .iload_n 2, 1), (28, .iload 5, 2), (30, .iadd, 1), (31, .invokevirtual 112, 3), (34, .aload_n 0, 1), (35, .getfield 11, 3)] : List (Nat × Instr × Nat)).all (fun q => decide (decode cX8_isSame q.1 = .ok (q.2.1, q.2.2))) = true := by decide +kernel
theorem dX8_isSame_0 : decode cX8_isSame 0 = .ok (.iload_n 3, 1) := all_at dvX8_isSame_0 0 rfl
theorem dX8_isSame_1 : decode cX8_isSame 1 = .ok (.iload_n 2, 1) := all_at dvX8_isSame_0 1 rfl
theorem dX8_isSame_2 : decode cX8_isSame 2 = .ok (.isub, 1) := all_at dvX8_isSame_0 2 rfl
theorem dX8_isSame_3 : decode cX8_isSame 3 = .ok (.iload 4, 2) := all_at dvX8_isSame_0 3 rfl
theorem dX8_isSame_5 : decode cX8_isSame 5 = .ok (.aload_n 0, 1) := all_at dvX8_isSame_0 4 rfl
theorem dX8_isSame_6 : decode cX8_isSame 6 = .ok (.getfield 25, 3) := all_at dvX8_isSame_0 5 rfl
theorem dX8_isSame_9 : decode cX8_isSame 9 = .ok (.isub, 1) := all_at dvX8_isSame_0 6 rfl
theorem dX8_isSame_10 : decode cX8_isSame 10 = .ok (.if_icmp .eq 5, 3) := all_at dvX8_isSame_0 7 rfl
theorem dX8_isSame_13 : decode cX8_isSame 13 = .ok (.iconst 0, 1) := all_at dvX8_isSame_0 8 rfl
theorem dX8_isSame_14 : decode cX8_isSame 14 = .ok (.ireturn, 1) := all_at dvX8_isSame_0 9 rfl
theorem dX8_isSame_15 : decode cX8_isSame 15 = .ok (.iconst 0, 1) := all_at dvX8_isSame_0 10 rfl
theorem dX8_isSame_16 : decode cX8_isSame 16 = .ok (.istore 5, 2) := all_at dvX8_isSame_0 11 rfl
theorem dX8_isSame_18 : decode cX8_isSame 18 = .ok (.iload 5, 2) := all_at dvX8_isSame_0 12 rfl
theorem dX8_isSame_20 : decode cX8_isSame 20 = .ok (.iload_n 3, 1) := all_at dvX8_isSame_0 13 rfl
theorem dX8_isSame_21 : decode cX8_isSame 21 = .ok (.iload_n 2, 1) := all_at dvX8_isSame_0 14 rfl
theorem dX8_isSame_22 : decode cX8_isSame 22 = .ok (.isub, 1) := all_at dvX8_isSame_0 15 rfl
theorem dX8_isSame_23 : decode cX8_isSame 23 = .ok (.if_icmp .ge 34, 3) := all_at dvX8_isSame_0 16 rfl
theorem dX8_isSame_26 : decode cX8_isSame 26 = .ok (.aload_n 1, 1) := all_at dvX8_isSame_0 17 rfl
theorem dX8_isSame_27 : decode cX8_isSame 27 = .ok (.iload_n 2, 1) := all_at dvX8_isSame_0 18 rfl
theorem dX8_isSame_28 : decode cX8_isSame 28 = .ok (.iload 5, 2) := all_at dvX8_isSame_0 19 rfl
theorem dX8_isSame_30 : decode cX8_isSame 30 = .ok (.iadd, 1) := all_at dvX8_isSame_0 20 rfl
theorem dX8_isSame_31 : decode cX8_isSame 31 = .ok (.invokevirtual 112, 3) := all_at dvX8_isSame_0 21 rfl
theorem dX8_isSame_34 : decode cX8_isSame 34 = .ok (.aload_n 0, 1) := all_at dvX8_isSame_0 22 rfl
theorem dX8_isSame_35 : decode cX8_isSame 35 = .ok (.getfield 11, 3) := all_at dvX8_isSame_0 23 rfl
set_option maxRecDepth 100000 in
theorem dvX8_isSame_38 : ([(38, .aload_n 0, 1), (39, .getfield 25, 3), (42, .iload 5, 2), (44, .iadd, 1), (45, .baload, 1), (46, .if_icmp .eq 5, 3), (49, .iconst 0, 1), (50, .ireturn, 1), (51, .iinc 5 1, 3), (54, .goto (-36), 3), (57, .iconst 1, 1), (58, .ireturn, 1)] : List (Nat × Instr × Nat)).all (fun q => decide (decode cX8_isSame q.1 = .ok (q.2.1, q.2.2))) = true := by decide +kernel
theorem dX8_isSame_38 : decode cX8_isSame 38 = .ok (.aload_n 0, 1) := all_at dvX8_isSame_38 0 rfl
theorem dX8_isSame_39 : decode cX8_isSame 39 = .ok (.getfield 25, 3) := all_at dvX8_isSame_38 1 rfl
theorem dX8_isSame_42 : decode cX8_isSame 42 = .ok (.iload 5, 2) := all_at dvX8_isSame_38 2 rfl
theorem dX8_isSame_44 : decode cX8_isSame 44 = .ok (.iadd, 1) := all_at dvX8_isSame_38 3 rfl
theorem dX8_isSame_45 : decode cX8_isSame 45 = .ok (.baload, 1) := all_at dvX8_isSame_38 4 rfl
theorem dX8_isSame_46 : decode cX8_isSame 46 = .ok (.if_icmp .eq 5, 3) := all_at dvX8_isSame_38 5 rfl
theorem dX8_isSame_49 : decode cX8_isSame 49 = .ok (.iconst 0, 1) := all_at dvX8_isSame_38 6 rfl
theorem dX8_isSame_50 : decode cX8_isSame 50 = .ok (.ireturn, 1) := all_at dvX8_isSame_38 7 rfl
theorem dX8_isSame_51 : decode cX8_isSame 51 = .ok (.iinc 5 1, 3) := all_at dvX8_isSame_38 8 rfl
theorem dX8_isSame_54 : decode cX8_isSame 54 = .ok (.goto (-36), 3) := all_at dvX8_isSame_38 9 rfl
theorem dX8_isSame_57 : decode cX8_isSame 57 = .ok (.iconst 1, 1) := all_at dvX8_isSame_38 10 rfl
theorem dX8_isSame_58 : decode cX8_isSame 58 = .ok (.ireturn, 1) := all_at dvX8_isSame_38 11 rfl
set_option maxRecDepth 100000 in
theorem dvX8_readOneOf_0 : ([(0, .aload_n 0, 1), (1, .invokevirtual 37, 3), (4, .pop, 1), (5, .aload_n 0, 1), (6, .bipush 97, 2), (8, .bipush 122, 2), (10, .invokevirtual 99, 3), (13, .istore_n 2, 1), (14, .iconst 0, 1), (15, .istore_n 3, 1), (16, .iconst 0, 1), (17, .istore 4, 2), (19, .iconst 0, 1), (20, .istore 5, 2), (22, .iload 5, 2), (24, .aload_n 1, 1), (25, .invokevirtual 107, 3), (28, .if_icmp .ge 49, 3), (31, .aload_n 1, 1), (32, .iload 5, 2), (34, .invokevirtual 112, 3), (37, .bipush 32, 2), (39, .if_icmp .ne 32, 3), (42, .aload_n 0, 1)] : List (Nat × Instr × Nat)).all (fun q => decide (decode cX8_readOneOf q.1 = .ok (q.2.1, q.2.2))) = true := by decide +kernel
theorem dX8_readOneOf_0 : decode cX8_readOneOf 0 = .ok (.aload_n 0, 1) := all_at dvX8_readOneOf_0 0 rfl
theorem dX8_readOneOf_1 : decode cX8_readOneOf 1 = .ok (.invokevirtual 37, 3) := all_at dvX8_readOneOf_0 1 rfl
theorem dX8_readOneOf_4 : decode cX8_readOneOf 4 = .ok (.pop, 1) := all_at dvX8_readOneOf_0 2 rfl
theorem dX8_readOneOf_5 : decode cX8_readOneOf 5 = .ok (.aload_n 0, 1) := all_at dvX8_readOneOf_0 3 rfl
theorem dX8_readOneOf_6 : decode cX8_readOneOf 6 = .ok (.bipush 97, 2) := all_at dvX8_readOneOf_0 4 rfl
theorem dX8_readOneOf_8 : decode cX8_readOneOf 8 = .ok (.bipush 122, 2) := all_at dvX8_readOneOf_0 5 rfl
theorem dX8_readOneOf_10 : decode cX8_readOneOf 10 = .ok (.invokevirtual 99, 3) := all_at dvX8_readOneOf_0 6 rfl
theorem dX8_readOneOf_13 : decode cX8_readOneOf 13 = .ok (.istore_n 2, 1) := all_at dvX8_readOneOf_0 7 rfl
theorem dX8_readOneOf_14 : decode cX8_readOneOf 14 = .ok (.iconst 0, 1) := all_at dvX8_readOneOf_0 8 rfl
theorem dX8_readOneOf_15 : decode cX8_readOneOf 15 = .ok (.istore_n 3, 1) := all_at dvX8_readOneOf_0 9 rfl
theorem dX8_readOneOf_16 : decode cX8_readOneOf 16 = .ok (.iconst 0, 1) := all_at dvX8_readOneOf_0 10 rfl
theorem dX8_readOneOf_17 : decode cX8_readOneOf 17 = .ok (.istore 4, 2) := all_at dvX8_readOneOf_0 11 rfl
theorem dX8_readOneOf_19 : decode cX8_readOneOf 19 = .ok (.iconst 0, 1) := all_at dvX8_readOneOf_0 12 rfl
theorem dX8_readOneOf_20 : decode cX8_readOneOf 20 = .ok (.istore 5, 2) := all_at dvX8_readOneOf_0 13 rfl
theorem dX8_readOneOf_22 : decode cX8_readOneOf 22 = .ok (.iload 5, 2) := all_at dvX8_readOneOf_0 14 rfl
theorem dX8_readOneOf_24 : decode cX8_readOneOf 24 = .ok (.aload_n 1, 1) := all_at dvX8_readOneOf_0 15 rfl
theorem dX8_readOneOf_25 : decode cX8_readOneOf 25 = .ok (.invokevirtual 107, 3) := all_at dvX8_readOneOf_0 16 rfl
theorem dX8_readOneOf_28 : decode cX8_readOneOf 28 = .ok (.if_icmp .ge 49, 3) := all_at dvX8_readOneOf_0 17 rfl
theorem dX8_readOneOf_31 : decode cX8_readOneOf 31 = .ok (.aload_n 1, 1) := all_at dvX8_readOneOf_0 18 rfl
theorem dX8_readOneOf_32 : decode cX8_readOneOf 32 = .ok (.iload 5, 2) := all_at dvX8_readOneOf_0 19 rfl
theorem dX8_readOneOf_34 : decode cX8_readOneOf 34 = .ok (.invokevirtual 112, 3) := all_at dvX8_readOneOf_0 20 rfl
theorem dX8_readOneOf_37 : decode cX8_readOneOf 37 = .ok (.bipush 32, 2) := all_at dvX8_readOneOf_0 21 rfl
theorem dX8_readOneOf_39 : decode cX8_readOneOf 39 = .ok (.if_icmp .ne 32, 3) := all_at dvX8_readOneOf_0 22 rfl
theorem dX8_readOneOf_42 : decode cX8_readOneOf 42 = .ok (.aload_n 0, 1) := all_at dvX8_readOneOf_0 23 rfl
set_option maxRecDepth 100000 in
theorem dvX8_readOneOf_43 : ([(43, .aload_n 1, 1), (44, .iload 4, 2), (46, .iload 5, 2), (48, .iload_n 2, 1), (49, .invokevirtual 116, 3), (52, .ifCond .eq 10, 3), (55, .aload_n 0, 1), (56, .iload_n 2, 1), (57, .putfield 25, 3), (60, .iload_n 3, 1), (61, .ireturn, 1), (62, .iinc 3 1, 3), (65, .iload 5, 2), (67, .iconst 1, 1), (68, .iadd, 1), (69, .istore 4, 2), (71, .iinc 5 1, 3), (74, .goto (-52), 3), (77, .aload_n 0, 1), (78, .iconst 1, 1), (79, .aload_n 0, 1), (80, .getfield 25, 3), (83, .invokevirtual 53, 3), (86, .pop, 1)] : List (Nat × Instr × Nat)).all (fun q => decide (decode cX8_readOneOf q.1 = .ok (q.2.1, q.2.2))) = true := by decide +kernel
theorem dX8_readOneOf_43 : decode cX8_readOneOf 43 = .ok (.aload_n 1, 1) := all_at dvX8_readOneOf_43 0 rfl
theorem dX8_readOneOf_44 : decode cX8_readOneOf 44 = .ok (.iload 4, 2) := all_at dvX8_readOneOf_43 1 rfl
theorem dX8_readOneOf_46 : decode cX8_readOneOf 46 = .ok (.iload 5, 2) := all_at dvX8_readOneOf_43 2 rfl
theorem dX8_readOneOf_48 : decode cX8_readOneOf 48 = .ok (.iload_n 2, 1) := all_at dvX8_readOneOf_43 3 rfl
theorem dX8_readOneOf_49 : decode cX8_readOneOf 49 = .ok (.invokevirtual 116, 3) := all_at dvX8_readOneOf_43 4 rfl
theorem dX8_readOneOf_52 : decode cX8_readOneOf 52 = .ok (.ifCond .eq 10, 3) := all_at dvX8_readOneOf_43 5 rfl
theorem dX8_readOneOf_55 : decode cX8_readOneOf 55 = .ok (.aload_n 0, 1) := all_at dvX8_readOneOf_43 6 rfl
theorem dX8_readOneOf_56 : decode cX8_readOneOf 56 = .ok (.iload_n 2, 1) := all_at dvX8_readOneOf_43 7 rfl
theorem dX8_readOneOf_57 : decode cX8_readOneOf 57 = .ok (.putfield 25, 3) := all_at dvX8_readOneOf_43 8 rfl
theorem dX8_readOneOf_60 : decode cX8_readOneOf 60 = .ok (.iload_n 3, 1) := all_at dvX8_readOneOf_43 9 rfl
theorem dX8_readOneOf_61 : decode cX8_readOneOf 61 = .ok (.ireturn, 1) := all_at dvX8_readOneOf_43 10 rfl
theorem dX8_readOneOf_62 : decode cX8_readOneOf 62 = .ok (.iinc 3 1, 3) := all_at dvX8_readOneOf_43 11 rfl
theorem dX8_readOneOf_65 : decode cX8_readOneOf 65 = .ok (.iload 5, 2) := all_at dvX8_readOneOf_43 12 rfl
theorem dX8_readOneOf_67 : decode cX8_readOneOf 67 = .ok (.iconst 1, 1) := all_at dvX8_readOneOf_43 13 rfl
theorem dX8_readOneOf_68 : decode cX8_readOneOf 68 = .ok (.iadd, 1) := all_at dvX8_readOneOf_43 14 rfl
theorem dX8_readOneOf_69 : decode cX8_readOneOf 69 = .ok (.istore 4, 2) := all_at dvX8_readOneOf_43 15 rfl
theorem dX8_readOneOf_71 : decode cX8_readOneOf 71 = .ok (.iinc 5 1, 3) := all_at dvX8_readOneOf_43 16 rfl
theorem dX8_readOneOf_74 : decode cX8_readOneOf 74 = .ok (.goto (-52), 3) := all_at dvX8_readOneOf_43 17 rfl
theorem dX8_readOneOf_77 : decode cX8_readOneOf 77 = .ok (.aload_n 0, 1) := all_at dvX8_readOneOf_43 18 rfl
theorem dX8_readOneOf_78 : decode cX8_readOneOf 78 = .ok (.iconst 1, 1) := all_at dvX8_readOneOf_43 19 rfl
theorem dX8_readOneOf_79 : decode cX8_readOneOf 79 = .ok (.aload_n 0, 1) := all_at dvX8_readOneOf_43 20 rfl
theorem dX8_readOneOf_80 : decode cX8_readOneOf 80 = .ok (.getfield 25, 3) := all_at dvX8_readOneOf_43 21 rfl
theorem dX8_readOneOf_83 : decode cX8_readOneOf 83 = .ok (.invokevirtual 53, 3) := all_at dvX8_readOneOf_43 22 rfl
theorem dX8_readOneOf_86 : decode cX8_readOneOf 86 = .ok (.pop, 1) := all_at dvX8_readOneOf_43 23 rfl
theorem dX8_readOneOf_87 : decode cX8_readOneOf 87 = .ok (.iconst (-1), 1) := by decide +kernel
theorem dX8_readOneOf_88 : decode cX8_readOneOf 88 = .ok (.ireturn, 1) := by decide +kernel
set_option maxRecDepth 100000 in
theorem dvX8_take_0 : ([(0, .iload_n 1, 1), (1, .iconst 1, 1), (2, .isub, 1), (3, .istore 4, 2), (5, .iload 4, 2), (7, .ifCond .lt 37, 3), (10, .aload_n 0, 1), (11, .getfield 11, 3), (14, .aload_n 0, 1), (15, .getfield 15, 3), (18, .lload_n 2, 1), (19, .bipush 8, 2), (21, .iload 4, 2), (23, .imul, 1), (24, .lushr, 1), (25, .l2i, 1), (26, .i2b, 1), (27, .bastore, 1), (28, .aload_n 0, 1), (29, .dup, 1), (30, .getfield 15, 3), (33, .iconst 1, 1), (34, .iadd, 1), (35, .putfield 15, 3)] : List (Nat × Instr × Nat)).all (fun q => decide (decode cX8_take q.1 = .ok (q.2.1, q.2.2))) = true := by decide +kernel
theorem dX8_take_0 : decode cX8_take 0 = .ok (.iload_n 1, 1) := all_at dvX8_take_0 0 rfl
theorem dX8_take_1 : decode cX8_take 1 = .ok (.iconst 1, 1) := all_at dvX8_take_0 1 rfl
theorem dX8_take_2 : decode cX8_take 2 = .ok (.isub, 1) := all_at dvX8_take_0 2 rfl
theorem dX8_take_3 : decode cX8_take 3 = .ok (.istore 4, 2) := all_at dvX8_take_0 3 rfl
theorem dX8_take_5 : decode cX8_take 5 = .ok (.iload 4, 2) := all_at dvX8_take_0 4 rfl
theorem dX8_take_7 : decode cX8_take 7 = .ok (.ifCond .lt 37, 3) := all_at dvX8_take_0 5 rfl
theorem dX8_take_10 : decode cX8_take 10 = .ok (.aload_n 0, 1) := all_at dvX8_take_0 6 rfl
theorem dX8_take_11 : decode cX8_take 11 = .ok (.getfield 11, 3) := all_at dvX8_take_0 7 rfl
theorem dX8_take_14 : decode cX8_take 14 = .ok (.aload_n 0, 1) := all_at dvX8_take_0 8 rfl
theorem dX8_take_15 : decode cX8_take 15 = .ok (.getfield 15, 3) := all_at dvX8_take_0 9 rfl
theorem dX8_take_18 : decode cX8_take 18 = .ok (.lload_n 2, 1) := all_at dvX8_take_0 10 rfl
theorem dX8_take_19 : decode cX8_take 19 = .ok (.bipush 8, 2) := all_at dvX8_take_0 11 rfl
theorem dX8_take_21 : decode cX8_take 21 = .ok (.iload 4, 2) := all_at dvX8_take_0 12 rfl
theorem dX8_take_23 : decode cX8_take 23 = .ok (.imul, 1) := all_at dvX8_take_0 13 rfl
theorem dX8_take_24 : decode cX8_take 24 = .ok (.lushr, 1) := all_at dvX8_take_0 14 rfl
theorem dX8_take_25 : decode cX8_take 25 = .ok (.l2i, 1) := all_at dvX8_take_0 15 rfl
theorem dX8_take_26 : decode cX8_take 26 = .ok (.i2b, 1) := all_at dvX8_take_0 16 rfl
theorem dX8_take_27 : decode cX8_take 27 = .ok (.bastore, 1) := all_at dvX8_take_0 17 rfl
theorem dX8_take_28 : decode cX8_take 28 = .ok (.aload_n 0, 1) := all_at dvX8_take_0 18 rfl
theorem dX8_take_29 : decode cX8_take 29 = .ok (.dup, 1) := all_at dvX8_take_0 19 rfl
theorem dX8_take_30 : decode cX8_take 30 = .ok (.getfield 15, 3) := all_at dvX8_take_0 20 rfl
theorem dX8_take_33 : decode cX8_take 33 = .ok (.iconst 1, 1) := all_at dvX8_take_0 21 rfl
theorem dX8_take_34 : decode cX8_take 34 = .ok (.iadd, 1) := all_at dvX8_take_0 22 rfl
theorem dX8_take_35 : decode cX8_take 35 = .ok (.putfield 15, 3) := all_at dvX8_take_0 23 rfl
set_option maxRecDepth 100000 in
theorem dvX8_take_38 : ([(38, .iinc 4 (-1), 3), (41, .goto (-36), 3), (44, .aload_n 0, 1), (45, .getfield 15, 3), (48, .ireturn, 1)] : List (Nat × Instr × Nat)).all (fun q => decide (decode cX8_take q.1 = .ok (q.2.1, q.2.2))) = true := by decide +kernel
theorem dX8_take_38 : decode cX8_take 38 = .ok (.iinc 4 (-1), 3) := all_at dvX8_take_38 0 rfl
theorem dX8_take_41 : decode cX8_take 41 = .ok (.goto (-36), 3) := all_at dvX8_take_38 1 rfl
theorem dX8_take_44 : decode cX8_take 44 = .ok (.aload_n 0, 1) := all_at dvX8_take_38 2 rfl
theorem dX8_take_45 : decode cX8_take 45 = .ok (.getfield 15, 3) := all_at dvX8_take_38 3 rfl
theorem dX8_take_48 : decode cX8_take 48 = .ok (.ireturn, 1) := all_at dvX8_take_38 4 rfl
set_option maxHeartbeats 4000000 in
set_option maxRecDepth 100000 in
/-- X8_take -/
theorem c_X8_take (l : Launch) (dC : Nat → ClassId) (dI : Nat → Nat → Nat) (sz : Nat) (h : Nat) (g : Nat → Nat → Nat) (ca : Nat → Nat → ClassId) (iv : Nat → Nat → Int32) (lv : Nat → Nat → Int64) (fa : Nat → Nat → Nat → Int32) (la : Nat → Nat → Nat → Int64) (hI : IX iv fa) (n : Int32) (a : Int64) (h_n : 1 ≤ n.toInt ∧ n.toInt ≤ 8) (p_0 : (iv 8 2).toInt + n.toInt ≤ 200) : Met l yX8_take (wc yX8_take cX8_take 5 (some .int)) ({ frames := 0, cells := 0, slots := 0, locals := 0 } : Room) (pW (dC, dI) classes (WX h g ca iv lv fa la) (TX ca) sz [.ref (g 11 4), .int n, .long a]) (va_Qi (fun r (u : SS) => ∃ (na_8_1 : Nat → Int32) (ni_8_2 : Int32), inb (bI 8 2) ni_8_2 ∧ (0 ≤ r.toInt ∧ r.toInt ≤ 200) ∧ u = ((u2 iv 8 2 ni_8_2), lv, (u2 fa 8 1 na_8_1), la)) (bX (dC, dI) h g ca (va_A (WX h g ca iv lv fa la) sz)) (va_A (WX h g ca iv lv fa la) sz)) 0 0 (va_A (WX h g ca iv lv fa la) sz) := by
  refine Met.ofW (cc := cX8_take) (maxL := 5) (ret := (some .int)) (by decide) rfl ?_
  intro p e s m args below meth c s₁ B hml hv
  obtain ⟨rfl, hsz, hP, hK, hD0⟩ := hv
  have hx := B.exec
  have hb := B.bytes
  have hr := B.returns
  have ht := tb_tl (atoms_spec (ws := wc yX8_take cX8_take 5 (some .int)) B.pre)
  have hown : s.vm.findClass RX8 = some m.cls := findClass_of_methodNamed B.named
  have hlocks := B.notSynchronized
  subst hsz
  have hD := hD0.self (sz := s.heap.size)
  generalize hAe : va_A (WX h g ca iv lv fa la) s.heap.size = A at hD ⊢
  have hA : ∀ q : Nat, s.heap.size ≤ q → A q := fun q h => by rw [← hAe]; exact Or.inr h
  have hS : va_S A s.heap s.heap [] := va_S.rf
  have hl := lv_entry [.ref (g 11 4), .int n, .long a] (n := 5) (Nat.le_of_ble_eq_true rfl)
  rw [lg_entry_eq]
  generalize (lg_sl [.ref (g 11 4), .int n, .long a] ++ List.replicate (5 - (lg_sl [.ref (g 11 4), .int n, .long a]).length) Slot.unset).toArray = ls at hl ⊢
  have hl : lv_has ls 5 [(0, .ref (g 11 4)), (1, .int n), (2, .long a)] := hl
  refine lv_iload_n hx hb dX8_take_0 rfl (lv_at hl 1 rfl) ?_
  refine lv_iconst (v := 1) hx hb dX8_take_1 (by decide) ?_
  refine lv_isub hx hb dX8_take_2 ?_
  refine lv_topi (fun v1 ev1 => ?_)
  have tv1 := z_sub ev1 (rfl : (n).toInt = _) (by decide : (1 : Int32).toInt = 1) (by omega) (by omega)
  refine lv_istore (lv' := [(4, .int v1), (0, .ref (g 11 4)), (1, .int n), (2, .long a)]) hx hb dX8_take_3 hl (by decide) rfl (fun ls hl => ?_)
  have lp21 : ∀ (nn21 : Nat) (x20_4 : Int32) (w20_i_8_2 : Int32) (w20_a_8_1 : Nat → Int32), (-1) ≤ x20_4.toInt ∧ x20_4.toInt ≤ 7 → 0 ≤ w20_i_8_2.toInt ∧ w20_i_8_2.toInt ≤ 200 → (∀ j, inb (bA 8 1 j) (w20_a_8_1 j)) → (w20_i_8_2 : Int32).toInt + (x20_4 : Int32).toInt ≤ 199 → x20_4.toInt - (-1) < (nn21 : Int) → ∀ (H : Heap) (locs : List Loc), ∀ (ls : Array Slot), va_P (dC, dI) classes (WX h g ca (u2 iv 8 2 w20_i_8_2) lv (u2 fa 8 1 w20_a_8_1) la) H → va_D A (WX h g ca (u2 iv 8 2 w20_i_8_2) lv (u2 fa 8 1 w20_a_8_1) la) → va_S A s.heap H locs → lv_has ls 5 [(4, .int x20_4), (0, .ref (g 11 4)), (1, .int n), (2, .long a)] → W p l e ({ frames := 0, cells := 0, slots := 0, locals := 0 } : Room) s m ([.ref (g 11 4), .int n, .long a] : List Value).toArray below meth c H locs 0 0 (MQ below (va_Qi (fun r (u : SS) => ∃ (na_8_1 : Nat → Int32) (ni_8_2 : Int32), inb (bI 8 2) ni_8_2 ∧ (0 ≤ r.toInt ∧ r.toInt ≤ 200) ∧ u = ((u2 iv 8 2 ni_8_2), lv, (u2 fa 8 1 na_8_1), la)) (bX (dC, dI) h g ca A) A) ([.ref (g 11 4), .int n, .long a] : List Value).toArray s 0 0 A) (F0 m 5 ls []) := by
    intro nn21
    induction nn21 with
    | zero => intro x20_4 w20_i_8_2 w20_a_8_1 hx20_4 hw20_i_8_2 hw20_a_8_1 hq21_0 hm21; exfalso; omega
    | succ nn21 ih21 =>
      intro x20_4 w20_i_8_2 w20_a_8_1 hx20_4 hw20_i_8_2 hw20_a_8_1 hq21_0 hm21 H locs ls hP hD hS hl
      refine lv_iload hx hb dX8_take_5 (lv_at hl 0 rfl) ?_
      refine lv_if_lt (tgt := 44) hx hb dX8_take_7 (by decide) (fun c22 => ?_) (fun c22 => ?_)
      · have fc22 := z_lt (rfl : (x20_4).toInt = _) (by decide : (0 : Int32).toInt = 0) c22
        refine lv_aload_n hx hb dX8_take_44 rfl (lv_at hl 1 rfl) ?_
        refine gX_8_2 hx hb ht hown hK hP m_230 (v := w20_i_8_2) rfl dX8_take_45 ?_
        have hP9 : va_P (dC, dI) classes (WX h g ca (u2 iv 8 2 w20_i_8_2) lv (u2 fa 8 1 w20_a_8_1) la) H := hP
        have hD9 : va_D A (WX h g ca (u2 iv 8 2 w20_i_8_2) lv (u2 fa 8 1 w20_a_8_1) la) := hD
        exact W.iret (v := w20_i_8_2) hx hb hr (fun t ht9 hW => ⟨⟨w20_i_8_2, ((u2 iv 8 2 w20_i_8_2), lv, (u2 fa 8 1 w20_a_8_1), la), rfl, ⟨w20_a_8_1, w20_i_8_2, (show inb (0, 200) w20_i_8_2 from ⟨by omega, by omega⟩), ⟨by omega, by omega⟩, rfl⟩, by rw [ht9]; exact hP9, hD9⟩, hS.F ht9⟩) hS.2.2 dX8_take_48
      · have fc22 := z_nlt (rfl : (x20_4).toInt = _) (by decide : (0 : Int32).toInt = 0) c22
        refine lv_aload_n hx hb dX8_take_10 rfl (lv_at hl 1 rfl) ?_
        refine gX_8_1 hx hb ht hown hK hP m_229 dX8_take_11 ?_
        refine lv_aload_n hx hb dX8_take_14 rfl (lv_at hl 1 rfl) ?_
        refine gX_8_2 hx hb ht hown hK hP m_230 (v := w20_i_8_2) rfl dX8_take_15 ?_
        refine lv_lload_n hx hb dX8_take_18 rfl (lv_at hl 3 rfl) ?_
        refine lv_bipush (v := 8) hx hb dX8_take_19 (by decide) ?_
        refine lv_iload hx hb dX8_take_21 (lv_at hl 0 rfl) ?_
        refine lv_imul hx hb dX8_take_23 ?_
        refine lv_topi (fun v23 ev23 => ?_)
        have tv23 := z_mul ev23 (by decide : (8 : Int32).toInt = 8) (rfl : (x20_4).toInt = _) (by omega) (by omega)
        obtain ⟨w24, ew24⟩ : ∃ y : Int64, (a.toUInt64 >>> ((v23 : Int32).toInt64.toUInt64 &&& Int64.toUInt64 63)).toInt64 = y := ⟨_, rfl⟩
        refine lv_lushr (v := w24) hx hb dX8_take_24 ew24 ?_
        obtain ⟨v25, ev25⟩ : ∃ y : Int32, w24.toInt32 = y := ⟨_, rfl⟩
        refine lv_l2i (v := v25) hx hb dX8_take_25 ev25 ?_
        obtain ⟨v26, ev26⟩ : ∃ y : Int32, v25.toInt8.toInt32 = y := ⟨_, rfl⟩
        refine lv_i2b (v := v26) hx hb dX8_take_26 ev26 ?_
        have : 0 ≤ (w20_i_8_2 : Int32).toInt ∧ (w20_i_8_2 : Int32).toInt ≤ 199 := ⟨by omega, by omega⟩
        refine tX_8_1 hx hb hK hP hD hS (f0 := w20_a_8_1) rfl (i := w20_i_8_2) (x := v26) (vp_in_iff.mpr ⟨by omega, by omega⟩) dX8_take_27 (fun f27 ef27 H locs hP hD hS => ?_)
        have hf27 : ∀ j, inb (bA 8 1 j) (f27 j) := fun j => full_i _
        have hP : va_P (dC, dI) classes (WX h g ca (u2 iv 8 2 w20_i_8_2) lv (u2 fa 8 1 f27) la) H := hP
        have hD : va_D A (WX h g ca (u2 iv 8 2 w20_i_8_2) lv (u2 fa 8 1 f27) la) := hD
        refine lv_aload_n hx hb dX8_take_28 rfl (lv_at hl 1 rfl) ?_
        refine lv_dup hx hb dX8_take_29 rfl ?_
        refine gX_8_2 hx hb ht hown hK hP m_230 (v := w20_i_8_2) rfl dX8_take_30 ?_
        refine lv_iconst (v := 1) hx hb dX8_take_33 (by decide) ?_
        refine lv_iadd hx hb dX8_take_34 ?_
        refine lv_topi (fun v28 ev28 => ?_)
        have tv28 := z_add ev28 (rfl : (w20_i_8_2).toInt = _) (by decide : (1 : Int32).toInt = 1) (by omega) (by omega)
        refine pX_8_2 (v := v28) hx hb ht hown hK hP hD hS m_230 dX8_take_35 (fun H locs hP hD hS => ?_)
        have hP : va_P (dC, dI) classes (WX h g ca (u2 iv 8 2 v28) lv (u2 fa 8 1 f27) la) H := hP
        have hD : va_D A (WX h g ca (u2 iv 8 2 v28) lv (u2 fa 8 1 f27) la) := hD
        obtain ⟨v29, ev29⟩ : ∃ y : Int32, y = x20_4 + (-1) := ⟨_, rfl⟩
        have tv29 := z_add ev29 rfl (by decide : ((-1) : Int32).toInt = (-1)) (by omega) (by omega)
        refine lv_iinc (v := v29) (lv' := [(4, .int v29), (0, .ref (g 11 4)), (1, .int n), (2, .long a)]) hx hb dX8_take_38 hl (k := 0) rfl (by rw [ev29]; rfl) (by decide) rfl (fun ls hl => ?_)
        refine lv_goto (tgt := 5) hx hb dX8_take_41 (by decide) ?_
        exact ih21 v29 v28 f27 ⟨by omega, by omega⟩ ⟨by omega, by omega⟩ hf27 (show (v28 : Int32).toInt + (v29 : Int32).toInt ≤ 199 from by omega) (by omega) _ _ ls hP hD hS (lv_sub hl [0, 1, 2, 3] rfl)
  have i_8_2 : 0 ≤ (iv 8 2).toInt ∧ (iv 8 2).toInt ≤ 200 := hI.1 8 2
  exact lp21 9 v1 (iv 8 2) (fa 8 1) ⟨by omega, by omega⟩ ⟨by omega, by omega⟩ (hI.2 8 1) (show ((iv 8 2) : Int32).toInt + (v1 : Int32).toInt ≤ 199 from by omega) (by first | decide | omega) _ _ ls hP hD hS (lv_sub hl [0, 1, 2, 3] rfl)
set_option maxHeartbeats 4000000 in
set_option maxRecDepth 100000 in
/-- X8_isSame -/
theorem c_X8_isSame_0 (l : Launch) (dC : Nat → ClassId) (dI : Nat → Nat → Nat) (ak av : Nat → Nat) (h : Nat) (g : Nat → Nat → Nat) (ca : Nat → Nat → ClassId) (iv : Nat → Nat → Int32) (lv : Nat → Nat → Int64) (fa : Nat → Nat → Nat → Int32) (la : Nat → Nat → Nat → Int64) (hI : IX iv fa) (a : Int32) (b : Int32) (d : Int32) (h_a : 0 ≤ a.toInt ∧ a.toInt ≤ 21) (h_b : 0 ≤ b.toInt ∧ b.toInt ≤ 20) (h_d : 0 ≤ d.toInt ∧ d.toInt ≤ 200) : Met l yX8_isSame (wc yX8_isSame cX8_isSame 6 (some .boolean)) ({ frames := 4, cells := 0, slots := 0, locals := 85 } : Room) (pRZ ak av (dC, dI) classes (WX h g ca iv lv fa la) (TX ca) [.ref (g 11 4), .ref (ak 0), .int a, .int b, .int d]) (vp_Si (fun r => 0 ≤ r.toInt ∧ r.toInt ≤ 1)) 0 0 (fun _ => False) := by
  refine Met.ofW (cc := cX8_isSame) (maxL := 6) (ret := (some .boolean)) (by decide) rfl ?_
  intro p e s m args below meth c s₁ B hml hv
  obtain ⟨rfl, hP, hK, hZ⟩ := hv
  have hx := B.exec
  have hb := B.bytes
  have hr := B.returns
  have ht := tb_tl (atoms_spec (ws := wc yX8_isSame cX8_isSame 6 (some .boolean)) B.pre)
  have hown : s.vm.findClass RX8 = some m.cls := findClass_of_methodNamed B.named
  have hlocks := B.notSynchronized
  have hl := lv_entry [.ref (g 11 4), .ref (ak 0), .int a, .int b, .int d] (n := 6) (Nat.le_of_ble_eq_true rfl)
  rw [lg_entry_eq]
  generalize (lg_sl [.ref (g 11 4), .ref (ak 0), .int a, .int b, .int d] ++ List.replicate (6 - (lg_sl [.ref (g 11 4), .ref (ak 0), .int a, .int b, .int d]).length) Slot.unset).toArray = ls at hl ⊢
  have hl : lv_has ls 6 [(0, .ref (g 11 4)), (1, .ref (ak 0)), (2, .int a), (3, .int b), (4, .int d)] := hl
  refine lv_iload_n hx hb dX8_isSame_0 rfl (lv_at hl 3 rfl) ?_
  refine lv_iload_n hx hb dX8_isSame_1 rfl (lv_at hl 2 rfl) ?_
  refine lv_isub hx hb dX8_isSame_2 ?_
  refine lv_topi (fun v1 ev1 => ?_)
  have tv1 := z_sub ev1 (rfl : (b).toInt = _) (rfl : (a).toInt = _) (by omega) (by omega)
  refine lv_iload hx hb dX8_isSame_3 (lv_at hl 4 rfl) ?_
  refine lv_aload_n hx hb dX8_isSame_5 rfl (lv_at hl 0 rfl) ?_
  have i_8_5 : 0 ≤ (iv 8 5).toInt ∧ (iv 8 5).toInt ≤ 200 := hI.1 8 5
  refine gX_8_5 hx hb ht hown hK hP m_235 (v := (iv 8 5)) rfl dX8_isSame_6 ?_
  refine lv_isub hx hb dX8_isSame_9 ?_
  refine lv_topi (fun v2 ev2 => ?_)
  have tv2 := z_sub ev2 (rfl : (d).toInt = _) (rfl : ((iv 8 5)).toInt = _) (by omega) (by omega)
  refine lv_icmp_eq (tgt := 15) hx hb dX8_isSame_10 (by decide) (fun c3 => ?_) (fun c3 => ?_)
  · have fc3 := z_eq (rfl : (v1).toInt = _) (rfl : (v2).toInt = _) c3
    refine lv_iconst (v := 0) hx hb dX8_isSame_15 (by decide) ?_
    refine lv_istore (lv' := [(5, .int 0), (0, .ref (g 11 4)), (1, .ref (ak 0)), (2, .int a), (3, .int b), (4, .int d)]) hx hb dX8_isSame_16 hl (by decide) rfl (fun ls hl => ?_)
    have lp149 : ∀ (nn149 : Nat) (x148_5 : Int32), 0 ≤ x148_5.toInt ∧ x148_5.toInt ≤ 29 → 29 - x148_5.toInt < (nn149 : Int) → ∀ (ls : Array Slot), lv_has ls 6 [(5, .int x148_5), (0, .ref (g 11 4)), (1, .ref (ak 0)), (2, .int a), (3, .int b), (4, .int d)] → W p l e ({ frames := 4, cells := 0, slots := 0, locals := 85 } : Room) s m ([.ref (g 11 4), .ref (ak 0), .int a, .int b, .int d] : List Value).toArray below meth c s.heap [] 0 0 (MQ below (vp_Si (fun r => 0 ≤ r.toInt ∧ r.toInt ≤ 1)) ([.ref (g 11 4), .ref (ak 0), .int a, .int b, .int d] : List Value).toArray s 0 0 (fun _ => False)) (F0 m 18 ls []) := by
      intro nn149
      induction nn149 with
      | zero => intro x148_5 hx148_5 hm149; exfalso; omega
      | succ nn149 ih149 =>
        intro x148_5 hx148_5 hm149 ls hl
        refine lv_iload hx hb dX8_isSame_18 (lv_at hl 0 rfl) ?_
        refine lv_iload_n hx hb dX8_isSame_20 rfl (lv_at hl 4 rfl) ?_
        refine lv_iload_n hx hb dX8_isSame_21 rfl (lv_at hl 3 rfl) ?_
        refine lv_isub hx hb dX8_isSame_22 ?_
        refine lv_topi (fun v150 ev150 => ?_)
        obtain rfl : v1 = v150 := ev1.trans ev150.symm
        refine lv_icmp_ge (tgt := 57) hx hb dX8_isSame_23 (by decide) (fun c151 => ?_) (fun c151 => ?_)
        · have fc151 := z_le (rfl : (v1).toInt = _) (rfl : (x148_5).toInt = _) c151
          refine lv_iconst (v := 1) hx hb dX8_isSame_57 (by decide) ?_
          exact W.zret (v := 1) hx hb hr rfl (fun t ht9 hW => ⟨1, rfl, ⟨by decide, by decide⟩, ht9⟩) (fun q hq => by cases hq) dX8_isSame_58
        · have fc151 := z_nle (rfl : (v1).toInt = _) (rfl : (x148_5).toInt = _) c151
          refine lv_aload_n hx hb dX8_isSame_26 rfl (lv_at hl 2 rfl) ?_
          refine lv_iload_n hx hb dX8_isSame_27 rfl (lv_at hl 3 rfl) ?_
          refine lv_iload hx hb dX8_isSame_28 (lv_at hl 0 rfl) ?_
          refine lv_iadd hx hb dX8_isSame_30 ?_
          refine lv_topi (fun v152 ev152 => ?_)
          have tv152 := z_add ev152 (rfl : (a).toInt = _) (rfl : (x148_5).toInt = _) (by omega) (by omega)
          have : 0 ≤ (v152 : Int32).toInt ∧ (v152 : Int32).toInt ≤ 20 := ⟨by omega, by omega⟩
          refine vp_callSi (W.runV (As := [.int v152]) (rest := []) ⟨hx, hb, hml, hown, ht⟩ (c_J0_charAt_5068e_0 l dC dI ak av v152 ⟨by omega, by omega⟩) (kV 1 ht m_715 m_716 m_717 m_91 m_718 rfl rfl hd_J0_charAt_5068e_v ⟨Nat.le_of_ble_eq_true rfl, Nat.le_of_ble_eq_true rfl⟩) (vRZ noP (hK.sub (tys' := []) [] rfl) hZ (vk_recv hZ.1.2.2.2.2.2 (i := 0) (by decide) va_S.rf)) rfl rfl hl.1 rfl (lv_room (Nat.le_of_ble_eq_true rfl)) dX8_isSame_31 ⟨Nat.le_of_ble_eq_true rfl, Nat.le_of_ble_eq_true rfl⟩) (fun r153 hr153 => ?_)
          refine lv_aload_n hx hb dX8_isSame_34 rfl (lv_at hl 1 rfl) ?_
          refine gX_8_1 hx hb ht hown hK hP m_229 dX8_isSame_35 ?_
          refine lv_aload_n hx hb dX8_isSame_38 rfl (lv_at hl 1 rfl) ?_
          refine gX_8_5 hx hb ht hown hK hP m_235 (v := (iv 8 5)) rfl dX8_isSame_39 ?_
          refine lv_iload hx hb dX8_isSame_42 (lv_at hl 0 rfl) ?_
          refine lv_iadd hx hb dX8_isSame_44 ?_
          refine lv_topi (fun v154 ev154 => ?_)
          have tv154 := z_add ev154 (rfl : ((iv 8 5)).toInt = _) (rfl : (x148_5).toInt = _) (by omega) (by omega)
          have : 0 ≤ (v154 : Int32).toInt ∧ (v154 : Int32).toInt ≤ 199 := ⟨by omega, by omega⟩
          refine lX_8_1 hx hb hK hP (f := (fa 8 1)) rfl (vp_in_iff.mpr ⟨by omega, by omega⟩) dX8_isSame_45 ?_
          refine lv_topi (fun v155 ev155 => ?_)
          refine lv_icmp_eq (tgt := 51) hx hb dX8_isSame_46 (by decide) (fun c156 => ?_) (fun c156 => ?_)
          · have fc156 := z_eq (rfl : (r153).toInt = _) (rfl : (v155).toInt = _) c156
            obtain ⟨v157, ev157⟩ : ∃ y : Int32, y = x148_5 + 1 := ⟨_, rfl⟩
            have tv157 := z_add ev157 rfl (by decide : (1 : Int32).toInt = 1) (by omega) (by omega)
            refine lv_iinc (v := v157) (lv' := [(5, .int v157), (0, .ref (g 11 4)), (1, .ref (ak 0)), (2, .int a), (3, .int b), (4, .int d)]) hx hb dX8_isSame_51 hl (k := 0) rfl (by rw [ev157]; rfl) (by decide) rfl (fun ls hl => ?_)
            refine lv_goto (tgt := 18) hx hb dX8_isSame_54 (by decide) ?_
            exact ih149 v157 ⟨by omega, by omega⟩ (by omega) ls (lv_sub hl [0, 1, 2, 3, 4, 5] rfl)
          · have fc156 := z_ne (rfl : (r153).toInt = _) (rfl : (v155).toInt = _) c156
            refine lv_iconst (v := 0) hx hb dX8_isSame_49 (by decide) ?_
            exact W.zret (v := 0) hx hb hr rfl (fun t ht9 hW => ⟨0, rfl, ⟨by decide, by decide⟩, ht9⟩) (fun q hq => by cases hq) dX8_isSame_50
    exact lp149 30 0 ⟨by decide, by decide⟩ (by first | decide | omega) ls (lv_sub hl [0, 1, 2, 3, 4, 5] rfl)
  · have fc3 := z_ne (rfl : (v1).toInt = _) (rfl : (v2).toInt = _) c3
    refine lv_iconst (v := 0) hx hb dX8_isSame_13 (by decide) ?_
    exact W.zret (v := 0) hx hb hr rfl (fun t ht9 hW => ⟨0, rfl, ⟨by decide, by decide⟩, ht9⟩) (fun q hq => by cases hq) dX8_isSame_14
set_option maxHeartbeats 4000000 in
set_option maxRecDepth 100000 in
/-- X8_isSame -/
theorem c_X8_isSame_1 (l : Launch) (dC : Nat → ClassId) (dI : Nat → Nat → Nat) (ak av : Nat → Nat) (h : Nat) (g : Nat → Nat → Nat) (ca : Nat → Nat → ClassId) (iv : Nat → Nat → Int32) (lv : Nat → Nat → Int64) (fa : Nat → Nat → Nat → Int32) (la : Nat → Nat → Nat → Int64) (hI : IX iv fa) (a : Int32) (b : Int32) (d : Int32) (h_a : 0 ≤ a.toInt ∧ a.toInt ≤ 28) (h_b : 0 ≤ b.toInt ∧ b.toInt ≤ 27) (h_d : 0 ≤ d.toInt ∧ d.toInt ≤ 200) : Met l yX8_isSame (wc yX8_isSame cX8_isSame 6 (some .boolean)) ({ frames := 4, cells := 0, slots := 0, locals := 85 } : Room) (pRZ ak av (dC, dI) classes (WX h g ca iv lv fa la) (TX ca) [.ref (g 11 4), .ref (ak 1), .int a, .int b, .int d]) (vp_Si (fun r => 0 ≤ r.toInt ∧ r.toInt ≤ 1)) 0 0 (fun _ => False) := by
  refine Met.ofW (cc := cX8_isSame) (maxL := 6) (ret := (some .boolean)) (by decide) rfl ?_
  intro p e s m args below meth c s₁ B hml hv
  obtain ⟨rfl, hP, hK, hZ⟩ := hv
  have hx := B.exec
  have hb := B.bytes
  have hr := B.returns
  have ht := tb_tl (atoms_spec (ws := wc yX8_isSame cX8_isSame 6 (some .boolean)) B.pre)
  have hown : s.vm.findClass RX8 = some m.cls := findClass_of_methodNamed B.named
  have hlocks := B.notSynchronized
  have hl := lv_entry [.ref (g 11 4), .ref (ak 1), .int a, .int b, .int d] (n := 6) (Nat.le_of_ble_eq_true rfl)
  rw [lg_entry_eq]
  generalize (lg_sl [.ref (g 11 4), .ref (ak 1), .int a, .int b, .int d] ++ List.replicate (6 - (lg_sl [.ref (g 11 4), .ref (ak 1), .int a, .int b, .int d]).length) Slot.unset).toArray = ls at hl ⊢
  have hl : lv_has ls 6 [(0, .ref (g 11 4)), (1, .ref (ak 1)), (2, .int a), (3, .int b), (4, .int d)] := hl
  refine lv_iload_n hx hb dX8_isSame_0 rfl (lv_at hl 3 rfl) ?_
  refine lv_iload_n hx hb dX8_isSame_1 rfl (lv_at hl 2 rfl) ?_
  refine lv_isub hx hb dX8_isSame_2 ?_
  refine lv_topi (fun v1 ev1 => ?_)
  have tv1 := z_sub ev1 (rfl : (b).toInt = _) (rfl : (a).toInt = _) (by omega) (by omega)
  refine lv_iload hx hb dX8_isSame_3 (lv_at hl 4 rfl) ?_
  refine lv_aload_n hx hb dX8_isSame_5 rfl (lv_at hl 0 rfl) ?_
  have i_8_5 : 0 ≤ (iv 8 5).toInt ∧ (iv 8 5).toInt ≤ 200 := hI.1 8 5
  refine gX_8_5 hx hb ht hown hK hP m_235 (v := (iv 8 5)) rfl dX8_isSame_6 ?_
  refine lv_isub hx hb dX8_isSame_9 ?_
  refine lv_topi (fun v2 ev2 => ?_)
  have tv2 := z_sub ev2 (rfl : (d).toInt = _) (rfl : ((iv 8 5)).toInt = _) (by omega) (by omega)
  refine lv_icmp_eq (tgt := 15) hx hb dX8_isSame_10 (by decide) (fun c3 => ?_) (fun c3 => ?_)
  · have fc3 := z_eq (rfl : (v1).toInt = _) (rfl : (v2).toInt = _) c3
    refine lv_iconst (v := 0) hx hb dX8_isSame_15 (by decide) ?_
    refine lv_istore (lv' := [(5, .int 0), (0, .ref (g 11 4)), (1, .ref (ak 1)), (2, .int a), (3, .int b), (4, .int d)]) hx hb dX8_isSame_16 hl (by decide) rfl (fun ls hl => ?_)
    have lp149 : ∀ (nn149 : Nat) (x148_5 : Int32), 0 ≤ x148_5.toInt ∧ x148_5.toInt ≤ 29 → 29 - x148_5.toInt < (nn149 : Int) → ∀ (ls : Array Slot), lv_has ls 6 [(5, .int x148_5), (0, .ref (g 11 4)), (1, .ref (ak 1)), (2, .int a), (3, .int b), (4, .int d)] → W p l e ({ frames := 4, cells := 0, slots := 0, locals := 85 } : Room) s m ([.ref (g 11 4), .ref (ak 1), .int a, .int b, .int d] : List Value).toArray below meth c s.heap [] 0 0 (MQ below (vp_Si (fun r => 0 ≤ r.toInt ∧ r.toInt ≤ 1)) ([.ref (g 11 4), .ref (ak 1), .int a, .int b, .int d] : List Value).toArray s 0 0 (fun _ => False)) (F0 m 18 ls []) := by
      intro nn149
      induction nn149 with
      | zero => intro x148_5 hx148_5 hm149; exfalso; omega
      | succ nn149 ih149 =>
        intro x148_5 hx148_5 hm149 ls hl
        refine lv_iload hx hb dX8_isSame_18 (lv_at hl 0 rfl) ?_
        refine lv_iload_n hx hb dX8_isSame_20 rfl (lv_at hl 4 rfl) ?_
        refine lv_iload_n hx hb dX8_isSame_21 rfl (lv_at hl 3 rfl) ?_
        refine lv_isub hx hb dX8_isSame_22 ?_
        refine lv_topi (fun v150 ev150 => ?_)
        obtain rfl : v1 = v150 := ev1.trans ev150.symm
        refine lv_icmp_ge (tgt := 57) hx hb dX8_isSame_23 (by decide) (fun c151 => ?_) (fun c151 => ?_)
        · have fc151 := z_le (rfl : (v1).toInt = _) (rfl : (x148_5).toInt = _) c151
          refine lv_iconst (v := 1) hx hb dX8_isSame_57 (by decide) ?_
          exact W.zret (v := 1) hx hb hr rfl (fun t ht9 hW => ⟨1, rfl, ⟨by decide, by decide⟩, ht9⟩) (fun q hq => by cases hq) dX8_isSame_58
        · have fc151 := z_nle (rfl : (v1).toInt = _) (rfl : (x148_5).toInt = _) c151
          refine lv_aload_n hx hb dX8_isSame_26 rfl (lv_at hl 2 rfl) ?_
          refine lv_iload_n hx hb dX8_isSame_27 rfl (lv_at hl 3 rfl) ?_
          refine lv_iload hx hb dX8_isSame_28 (lv_at hl 0 rfl) ?_
          refine lv_iadd hx hb dX8_isSame_30 ?_
          refine lv_topi (fun v152 ev152 => ?_)
          have tv152 := z_add ev152 (rfl : (a).toInt = _) (rfl : (x148_5).toInt = _) (by omega) (by omega)
          have : 0 ≤ (v152 : Int32).toInt ∧ (v152 : Int32).toInt ≤ 27 := ⟨by omega, by omega⟩
          refine vp_callSi (W.runV (As := [.int v152]) (rest := []) ⟨hx, hb, hml, hown, ht⟩ (c_J0_charAt_5068e_1 l dC dI ak av v152 ⟨by omega, by omega⟩) (kV 1 ht m_715 m_716 m_717 m_91 m_718 rfl rfl hd_J0_charAt_5068e_v ⟨Nat.le_of_ble_eq_true rfl, Nat.le_of_ble_eq_true rfl⟩) (vRZ noP (hK.sub (tys' := []) [] rfl) hZ (vk_recv hZ.1.2.2.2.2.2 (i := 1) (by decide) va_S.rf)) rfl rfl hl.1 rfl (lv_room (Nat.le_of_ble_eq_true rfl)) dX8_isSame_31 ⟨Nat.le_of_ble_eq_true rfl, Nat.le_of_ble_eq_true rfl⟩) (fun r153 hr153 => ?_)
          refine lv_aload_n hx hb dX8_isSame_34 rfl (lv_at hl 1 rfl) ?_
          refine gX_8_1 hx hb ht hown hK hP m_229 dX8_isSame_35 ?_
          refine lv_aload_n hx hb dX8_isSame_38 rfl (lv_at hl 1 rfl) ?_
          refine gX_8_5 hx hb ht hown hK hP m_235 (v := (iv 8 5)) rfl dX8_isSame_39 ?_
          refine lv_iload hx hb dX8_isSame_42 (lv_at hl 0 rfl) ?_
          refine lv_iadd hx hb dX8_isSame_44 ?_
          refine lv_topi (fun v154 ev154 => ?_)
          have tv154 := z_add ev154 (rfl : ((iv 8 5)).toInt = _) (rfl : (x148_5).toInt = _) (by omega) (by omega)
          have : 0 ≤ (v154 : Int32).toInt ∧ (v154 : Int32).toInt ≤ 199 := ⟨by omega, by omega⟩
          refine lX_8_1 hx hb hK hP (f := (fa 8 1)) rfl (vp_in_iff.mpr ⟨by omega, by omega⟩) dX8_isSame_45 ?_
          refine lv_topi (fun v155 ev155 => ?_)
          refine lv_icmp_eq (tgt := 51) hx hb dX8_isSame_46 (by decide) (fun c156 => ?_) (fun c156 => ?_)
          · have fc156 := z_eq (rfl : (r153).toInt = _) (rfl : (v155).toInt = _) c156
            obtain ⟨v157, ev157⟩ : ∃ y : Int32, y = x148_5 + 1 := ⟨_, rfl⟩
            have tv157 := z_add ev157 rfl (by decide : (1 : Int32).toInt = 1) (by omega) (by omega)
            refine lv_iinc (v := v157) (lv' := [(5, .int v157), (0, .ref (g 11 4)), (1, .ref (ak 1)), (2, .int a), (3, .int b), (4, .int d)]) hx hb dX8_isSame_51 hl (k := 0) rfl (by rw [ev157]; rfl) (by decide) rfl (fun ls hl => ?_)
            refine lv_goto (tgt := 18) hx hb dX8_isSame_54 (by decide) ?_
            exact ih149 v157 ⟨by omega, by omega⟩ (by omega) ls (lv_sub hl [0, 1, 2, 3, 4, 5] rfl)
          · have fc156 := z_ne (rfl : (r153).toInt = _) (rfl : (v155).toInt = _) c156
            refine lv_iconst (v := 0) hx hb dX8_isSame_49 (by decide) ?_
            exact W.zret (v := 0) hx hb hr rfl (fun t ht9 hW => ⟨0, rfl, ⟨by decide, by decide⟩, ht9⟩) (fun q hq => by cases hq) dX8_isSame_50
    exact lp149 30 0 ⟨by decide, by decide⟩ (by first | decide | omega) ls (lv_sub hl [0, 1, 2, 3, 4, 5] rfl)
  · have fc3 := z_ne (rfl : (v1).toInt = _) (rfl : (v2).toInt = _) c3
    refine lv_iconst (v := 0) hx hb dX8_isSame_13 (by decide) ?_
    exact W.zret (v := 0) hx hb hr rfl (fun t ht9 hW => ⟨0, rfl, ⟨by decide, by decide⟩, ht9⟩) (fun q hq => by cases hq) dX8_isSame_14
set_option maxHeartbeats 4000000 in
set_option maxRecDepth 100000 in
/-- X8_isSame -/
theorem c_X8_isSame_2 (l : Launch) (dC : Nat → ClassId) (dI : Nat → Nat → Nat) (ak av : Nat → Nat) (h : Nat) (g : Nat → Nat → Nat) (ca : Nat → Nat → ClassId) (iv : Nat → Nat → Int32) (lv : Nat → Nat → Int64) (fa : Nat → Nat → Nat → Int32) (la : Nat → Nat → Nat → Int64) (hI : IX iv fa) (a : Int32) (b : Int32) (d : Int32) (h_a : 0 ≤ a.toInt ∧ a.toInt ≤ 18) (h_b : 0 ≤ b.toInt ∧ b.toInt ≤ 17) (h_d : 0 ≤ d.toInt ∧ d.toInt ≤ 200) : Met l yX8_isSame (wc yX8_isSame cX8_isSame 6 (some .boolean)) ({ frames := 4, cells := 0, slots := 0, locals := 85 } : Room) (pRZ ak av (dC, dI) classes (WX h g ca iv lv fa la) (TX ca) [.ref (g 11 4), .ref (ak 2), .int a, .int b, .int d]) (vp_Si (fun r => 0 ≤ r.toInt ∧ r.toInt ≤ 1)) 0 0 (fun _ => False) := by
  refine Met.ofW (cc := cX8_isSame) (maxL := 6) (ret := (some .boolean)) (by decide) rfl ?_
  intro p e s m args below meth c s₁ B hml hv
  obtain ⟨rfl, hP, hK, hZ⟩ := hv
  have hx := B.exec
  have hb := B.bytes
  have hr := B.returns
  have ht := tb_tl (atoms_spec (ws := wc yX8_isSame cX8_isSame 6 (some .boolean)) B.pre)
  have hown : s.vm.findClass RX8 = some m.cls := findClass_of_methodNamed B.named
  have hlocks := B.notSynchronized
  have hl := lv_entry [.ref (g 11 4), .ref (ak 2), .int a, .int b, .int d] (n := 6) (Nat.le_of_ble_eq_true rfl)
  rw [lg_entry_eq]
  generalize (lg_sl [.ref (g 11 4), .ref (ak 2), .int a, .int b, .int d] ++ List.replicate (6 - (lg_sl [.ref (g 11 4), .ref (ak 2), .int a, .int b, .int d]).length) Slot.unset).toArray = ls at hl ⊢
  have hl : lv_has ls 6 [(0, .ref (g 11 4)), (1, .ref (ak 2)), (2, .int a), (3, .int b), (4, .int d)] := hl
  refine lv_iload_n hx hb dX8_isSame_0 rfl (lv_at hl 3 rfl) ?_
  refine lv_iload_n hx hb dX8_isSame_1 rfl (lv_at hl 2 rfl) ?_
  refine lv_isub hx hb dX8_isSame_2 ?_
  refine lv_topi (fun v1 ev1 => ?_)
  have tv1 := z_sub ev1 (rfl : (b).toInt = _) (rfl : (a).toInt = _) (by omega) (by omega)
  refine lv_iload hx hb dX8_isSame_3 (lv_at hl 4 rfl) ?_
  refine lv_aload_n hx hb dX8_isSame_5 rfl (lv_at hl 0 rfl) ?_
  have i_8_5 : 0 ≤ (iv 8 5).toInt ∧ (iv 8 5).toInt ≤ 200 := hI.1 8 5
  refine gX_8_5 hx hb ht hown hK hP m_235 (v := (iv 8 5)) rfl dX8_isSame_6 ?_
  refine lv_isub hx hb dX8_isSame_9 ?_
  refine lv_topi (fun v2 ev2 => ?_)
  have tv2 := z_sub ev2 (rfl : (d).toInt = _) (rfl : ((iv 8 5)).toInt = _) (by omega) (by omega)
  refine lv_icmp_eq (tgt := 15) hx hb dX8_isSame_10 (by decide) (fun c3 => ?_) (fun c3 => ?_)
  · have fc3 := z_eq (rfl : (v1).toInt = _) (rfl : (v2).toInt = _) c3
    refine lv_iconst (v := 0) hx hb dX8_isSame_15 (by decide) ?_
    refine lv_istore (lv' := [(5, .int 0), (0, .ref (g 11 4)), (1, .ref (ak 2)), (2, .int a), (3, .int b), (4, .int d)]) hx hb dX8_isSame_16 hl (by decide) rfl (fun ls hl => ?_)
    have lp140 : ∀ (nn140 : Nat) (x139_5 : Int32), 0 ≤ x139_5.toInt ∧ x139_5.toInt ≤ 19 → 19 - x139_5.toInt < (nn140 : Int) → ∀ (ls : Array Slot), lv_has ls 6 [(5, .int x139_5), (0, .ref (g 11 4)), (1, .ref (ak 2)), (2, .int a), (3, .int b), (4, .int d)] → W p l e ({ frames := 4, cells := 0, slots := 0, locals := 85 } : Room) s m ([.ref (g 11 4), .ref (ak 2), .int a, .int b, .int d] : List Value).toArray below meth c s.heap [] 0 0 (MQ below (vp_Si (fun r => 0 ≤ r.toInt ∧ r.toInt ≤ 1)) ([.ref (g 11 4), .ref (ak 2), .int a, .int b, .int d] : List Value).toArray s 0 0 (fun _ => False)) (F0 m 18 ls []) := by
      intro nn140
      induction nn140 with
      | zero => intro x139_5 hx139_5 hm140; exfalso; omega
      | succ nn140 ih140 =>
        intro x139_5 hx139_5 hm140 ls hl
        refine lv_iload hx hb dX8_isSame_18 (lv_at hl 0 rfl) ?_
        refine lv_iload_n hx hb dX8_isSame_20 rfl (lv_at hl 4 rfl) ?_
        refine lv_iload_n hx hb dX8_isSame_21 rfl (lv_at hl 3 rfl) ?_
        refine lv_isub hx hb dX8_isSame_22 ?_
        refine lv_topi (fun v141 ev141 => ?_)
        obtain rfl : v1 = v141 := ev1.trans ev141.symm
        refine lv_icmp_ge (tgt := 57) hx hb dX8_isSame_23 (by decide) (fun c142 => ?_) (fun c142 => ?_)
        · have fc142 := z_le (rfl : (v1).toInt = _) (rfl : (x139_5).toInt = _) c142
          refine lv_iconst (v := 1) hx hb dX8_isSame_57 (by decide) ?_
          exact W.zret (v := 1) hx hb hr rfl (fun t ht9 hW => ⟨1, rfl, ⟨by decide, by decide⟩, ht9⟩) (fun q hq => by cases hq) dX8_isSame_58
        · have fc142 := z_nle (rfl : (v1).toInt = _) (rfl : (x139_5).toInt = _) c142
          refine lv_aload_n hx hb dX8_isSame_26 rfl (lv_at hl 2 rfl) ?_
          refine lv_iload_n hx hb dX8_isSame_27 rfl (lv_at hl 3 rfl) ?_
          refine lv_iload hx hb dX8_isSame_28 (lv_at hl 0 rfl) ?_
          refine lv_iadd hx hb dX8_isSame_30 ?_
          refine lv_topi (fun v143 ev143 => ?_)
          have tv143 := z_add ev143 (rfl : (a).toInt = _) (rfl : (x139_5).toInt = _) (by omega) (by omega)
          have : 0 ≤ (v143 : Int32).toInt ∧ (v143 : Int32).toInt ≤ 17 := ⟨by omega, by omega⟩
          refine vp_callSi (W.runV (As := [.int v143]) (rest := []) ⟨hx, hb, hml, hown, ht⟩ (c_J0_charAt_5068e_2 l dC dI ak av v143 ⟨by omega, by omega⟩) (kV 1 ht m_715 m_716 m_717 m_91 m_718 rfl rfl hd_J0_charAt_5068e_v ⟨Nat.le_of_ble_eq_true rfl, Nat.le_of_ble_eq_true rfl⟩) (vRZ noP (hK.sub (tys' := []) [] rfl) hZ (vk_recv hZ.1.2.2.2.2.2 (i := 2) (by decide) va_S.rf)) rfl rfl hl.1 rfl (lv_room (Nat.le_of_ble_eq_true rfl)) dX8_isSame_31 ⟨Nat.le_of_ble_eq_true rfl, Nat.le_of_ble_eq_true rfl⟩) (fun r144 hr144 => ?_)
          refine lv_aload_n hx hb dX8_isSame_34 rfl (lv_at hl 1 rfl) ?_
          refine gX_8_1 hx hb ht hown hK hP m_229 dX8_isSame_35 ?_
          refine lv_aload_n hx hb dX8_isSame_38 rfl (lv_at hl 1 rfl) ?_
          refine gX_8_5 hx hb ht hown hK hP m_235 (v := (iv 8 5)) rfl dX8_isSame_39 ?_
          refine lv_iload hx hb dX8_isSame_42 (lv_at hl 0 rfl) ?_
          refine lv_iadd hx hb dX8_isSame_44 ?_
          refine lv_topi (fun v145 ev145 => ?_)
          have tv145 := z_add ev145 (rfl : ((iv 8 5)).toInt = _) (rfl : (x139_5).toInt = _) (by omega) (by omega)
          have : 0 ≤ (v145 : Int32).toInt ∧ (v145 : Int32).toInt ≤ 199 := ⟨by omega, by omega⟩
          refine lX_8_1 hx hb hK hP (f := (fa 8 1)) rfl (vp_in_iff.mpr ⟨by omega, by omega⟩) dX8_isSame_45 ?_
          refine lv_topi (fun v146 ev146 => ?_)
          refine lv_icmp_eq (tgt := 51) hx hb dX8_isSame_46 (by decide) (fun c147 => ?_) (fun c147 => ?_)
          · have fc147 := z_eq (rfl : (r144).toInt = _) (rfl : (v146).toInt = _) c147
            obtain ⟨v148, ev148⟩ : ∃ y : Int32, y = x139_5 + 1 := ⟨_, rfl⟩
            have tv148 := z_add ev148 rfl (by decide : (1 : Int32).toInt = 1) (by omega) (by omega)
            refine lv_iinc (v := v148) (lv' := [(5, .int v148), (0, .ref (g 11 4)), (1, .ref (ak 2)), (2, .int a), (3, .int b), (4, .int d)]) hx hb dX8_isSame_51 hl (k := 0) rfl (by rw [ev148]; rfl) (by decide) rfl (fun ls hl => ?_)
            refine lv_goto (tgt := 18) hx hb dX8_isSame_54 (by decide) ?_
            exact ih140 v148 ⟨by omega, by omega⟩ (by omega) ls (lv_sub hl [0, 1, 2, 3, 4, 5] rfl)
          · have fc147 := z_ne (rfl : (r144).toInt = _) (rfl : (v146).toInt = _) c147
            refine lv_iconst (v := 0) hx hb dX8_isSame_49 (by decide) ?_
            exact W.zret (v := 0) hx hb hr rfl (fun t ht9 hW => ⟨0, rfl, ⟨by decide, by decide⟩, ht9⟩) (fun q hq => by cases hq) dX8_isSame_50
    exact lp140 20 0 ⟨by decide, by decide⟩ (by first | decide | omega) ls (lv_sub hl [0, 1, 2, 3, 4, 5] rfl)
  · have fc3 := z_ne (rfl : (v1).toInt = _) (rfl : (v2).toInt = _) c3
    refine lv_iconst (v := 0) hx hb dX8_isSame_13 (by decide) ?_
    exact W.zret (v := 0) hx hb hr rfl (fun t ht9 hW => ⟨0, rfl, ⟨by decide, by decide⟩, ht9⟩) (fun q hq => by cases hq) dX8_isSame_14
set_option maxHeartbeats 4000000 in
set_option maxRecDepth 100000 in
/-- X8_isSame -/
theorem c_X8_isSame_3 (l : Launch) (dC : Nat → ClassId) (dI : Nat → Nat → Nat) (ak av : Nat → Nat) (h : Nat) (g : Nat → Nat → Nat) (ca : Nat → Nat → ClassId) (iv : Nat → Nat → Int32) (lv : Nat → Nat → Int64) (fa : Nat → Nat → Nat → Int32) (la : Nat → Nat → Nat → Int64) (hI : IX iv fa) (a : Int32) (b : Int32) (d : Int32) (h_a : 0 ≤ a.toInt ∧ a.toInt ≤ 3) (h_b : 0 ≤ b.toInt ∧ b.toInt ≤ 2) (h_d : 0 ≤ d.toInt ∧ d.toInt ≤ 200) : Met l yX8_isSame (wc yX8_isSame cX8_isSame 6 (some .boolean)) ({ frames := 4, cells := 0, slots := 0, locals := 85 } : Room) (pRZ ak av (dC, dI) classes (WX h g ca iv lv fa la) (TX ca) [.ref (g 11 4), .ref (ak 3), .int a, .int b, .int d]) (vp_Si (fun r => 0 ≤ r.toInt ∧ r.toInt ≤ 1)) 0 0 (fun _ => False) := by
  refine Met.ofW (cc := cX8_isSame) (maxL := 6) (ret := (some .boolean)) (by decide) rfl ?_
  intro p e s m args below meth c s₁ B hml hv
  obtain ⟨rfl, hP, hK, hZ⟩ := hv
  have hx := B.exec
  have hb := B.bytes
  have hr := B.returns
  have ht := tb_tl (atoms_spec (ws := wc yX8_isSame cX8_isSame 6 (some .boolean)) B.pre)
  have hown : s.vm.findClass RX8 = some m.cls := findClass_of_methodNamed B.named
  have hlocks := B.notSynchronized
  have hl := lv_entry [.ref (g 11 4), .ref (ak 3), .int a, .int b, .int d] (n := 6) (Nat.le_of_ble_eq_true rfl)
  rw [lg_entry_eq]
  generalize (lg_sl [.ref (g 11 4), .ref (ak 3), .int a, .int b, .int d] ++ List.replicate (6 - (lg_sl [.ref (g 11 4), .ref (ak 3), .int a, .int b, .int d]).length) Slot.unset).toArray = ls at hl ⊢
  have hl : lv_has ls 6 [(0, .ref (g 11 4)), (1, .ref (ak 3)), (2, .int a), (3, .int b), (4, .int d)] := hl
  refine lv_iload_n hx hb dX8_isSame_0 rfl (lv_at hl 3 rfl) ?_
  refine lv_iload_n hx hb dX8_isSame_1 rfl (lv_at hl 2 rfl) ?_
  refine lv_isub hx hb dX8_isSame_2 ?_
  refine lv_topi (fun v1 ev1 => ?_)
  have tv1 := z_sub ev1 (rfl : (b).toInt = _) (rfl : (a).toInt = _) (by omega) (by omega)
  refine lv_iload hx hb dX8_isSame_3 (lv_at hl 4 rfl) ?_
  refine lv_aload_n hx hb dX8_isSame_5 rfl (lv_at hl 0 rfl) ?_
  have i_8_5 : 0 ≤ (iv 8 5).toInt ∧ (iv 8 5).toInt ≤ 200 := hI.1 8 5
  refine gX_8_5 hx hb ht hown hK hP m_235 (v := (iv 8 5)) rfl dX8_isSame_6 ?_
  refine lv_isub hx hb dX8_isSame_9 ?_
  refine lv_topi (fun v2 ev2 => ?_)
  have tv2 := z_sub ev2 (rfl : (d).toInt = _) (rfl : ((iv 8 5)).toInt = _) (by omega) (by omega)
  refine lv_icmp_eq (tgt := 15) hx hb dX8_isSame_10 (by decide) (fun c3 => ?_) (fun c3 => ?_)
  · have fc3 := z_eq (rfl : (v1).toInt = _) (rfl : (v2).toInt = _) c3
    refine lv_iconst (v := 0) hx hb dX8_isSame_15 (by decide) ?_
    refine lv_istore (lv' := [(5, .int 0), (0, .ref (g 11 4)), (1, .ref (ak 3)), (2, .int a), (3, .int b), (4, .int d)]) hx hb dX8_isSame_16 hl (by decide) rfl (fun ls hl => ?_)
    have lp32 : ∀ (nn32 : Nat) (x31_5 : Int32), 0 ≤ x31_5.toInt ∧ x31_5.toInt ≤ 2 → 2 - x31_5.toInt < (nn32 : Int) → ∀ (ls : Array Slot), lv_has ls 6 [(5, .int x31_5), (0, .ref (g 11 4)), (1, .ref (ak 3)), (2, .int a), (3, .int b), (4, .int d)] → W p l e ({ frames := 4, cells := 0, slots := 0, locals := 85 } : Room) s m ([.ref (g 11 4), .ref (ak 3), .int a, .int b, .int d] : List Value).toArray below meth c s.heap [] 0 0 (MQ below (vp_Si (fun r => 0 ≤ r.toInt ∧ r.toInt ≤ 1)) ([.ref (g 11 4), .ref (ak 3), .int a, .int b, .int d] : List Value).toArray s 0 0 (fun _ => False)) (F0 m 18 ls []) := by
      intro nn32
      induction nn32 with
      | zero => intro x31_5 hx31_5 hm32; exfalso; omega
      | succ nn32 ih32 =>
        intro x31_5 hx31_5 hm32 ls hl
        refine lv_iload hx hb dX8_isSame_18 (lv_at hl 0 rfl) ?_
        refine lv_iload_n hx hb dX8_isSame_20 rfl (lv_at hl 4 rfl) ?_
        refine lv_iload_n hx hb dX8_isSame_21 rfl (lv_at hl 3 rfl) ?_
        refine lv_isub hx hb dX8_isSame_22 ?_
        refine lv_topi (fun v33 ev33 => ?_)
        obtain rfl : v1 = v33 := ev1.trans ev33.symm
        refine lv_icmp_ge (tgt := 57) hx hb dX8_isSame_23 (by decide) (fun c34 => ?_) (fun c34 => ?_)
        · have fc34 := z_le (rfl : (v1).toInt = _) (rfl : (x31_5).toInt = _) c34
          refine lv_iconst (v := 1) hx hb dX8_isSame_57 (by decide) ?_
          exact W.zret (v := 1) hx hb hr rfl (fun t ht9 hW => ⟨1, rfl, ⟨by decide, by decide⟩, ht9⟩) (fun q hq => by cases hq) dX8_isSame_58
        · have fc34 := z_nle (rfl : (v1).toInt = _) (rfl : (x31_5).toInt = _) c34
          refine lv_aload_n hx hb dX8_isSame_26 rfl (lv_at hl 2 rfl) ?_
          refine lv_iload_n hx hb dX8_isSame_27 rfl (lv_at hl 3 rfl) ?_
          refine lv_iload hx hb dX8_isSame_28 (lv_at hl 0 rfl) ?_
          refine lv_iadd hx hb dX8_isSame_30 ?_
          refine lv_topi (fun v35 ev35 => ?_)
          have tv35 := z_add ev35 (rfl : (a).toInt = _) (rfl : (x31_5).toInt = _) (by omega) (by omega)
          have : 0 ≤ (v35 : Int32).toInt ∧ (v35 : Int32).toInt ≤ 2 := ⟨by omega, by omega⟩
          refine vp_callSi (W.runV (As := [.int v35]) (rest := []) ⟨hx, hb, hml, hown, ht⟩ (c_J0_charAt_5068e_3 l dC dI ak av v35 ⟨by omega, by omega⟩) (kV 1 ht m_715 m_716 m_717 m_91 m_718 rfl rfl hd_J0_charAt_5068e_v ⟨Nat.le_of_ble_eq_true rfl, Nat.le_of_ble_eq_true rfl⟩) (vRZ noP (hK.sub (tys' := []) [] rfl) hZ (vk_recv hZ.1.2.2.2.2.2 (i := 3) (by decide) va_S.rf)) rfl rfl hl.1 rfl (lv_room (Nat.le_of_ble_eq_true rfl)) dX8_isSame_31 ⟨Nat.le_of_ble_eq_true rfl, Nat.le_of_ble_eq_true rfl⟩) (fun r36 hr36 => ?_)
          refine lv_aload_n hx hb dX8_isSame_34 rfl (lv_at hl 1 rfl) ?_
          refine gX_8_1 hx hb ht hown hK hP m_229 dX8_isSame_35 ?_
          refine lv_aload_n hx hb dX8_isSame_38 rfl (lv_at hl 1 rfl) ?_
          refine gX_8_5 hx hb ht hown hK hP m_235 (v := (iv 8 5)) rfl dX8_isSame_39 ?_
          refine lv_iload hx hb dX8_isSame_42 (lv_at hl 0 rfl) ?_
          refine lv_iadd hx hb dX8_isSame_44 ?_
          refine lv_topi (fun v37 ev37 => ?_)
          have tv37 := z_add ev37 (rfl : ((iv 8 5)).toInt = _) (rfl : (x31_5).toInt = _) (by omega) (by omega)
          have : 0 ≤ (v37 : Int32).toInt ∧ (v37 : Int32).toInt ≤ 199 := ⟨by omega, by omega⟩
          refine lX_8_1 hx hb hK hP (f := (fa 8 1)) rfl (vp_in_iff.mpr ⟨by omega, by omega⟩) dX8_isSame_45 ?_
          refine lv_topi (fun v38 ev38 => ?_)
          refine lv_icmp_eq (tgt := 51) hx hb dX8_isSame_46 (by decide) (fun c39 => ?_) (fun c39 => ?_)
          · have fc39 := z_eq (rfl : (r36).toInt = _) (rfl : (v38).toInt = _) c39
            obtain ⟨v40, ev40⟩ : ∃ y : Int32, y = x31_5 + 1 := ⟨_, rfl⟩
            have tv40 := z_add ev40 rfl (by decide : (1 : Int32).toInt = 1) (by omega) (by omega)
            refine lv_iinc (v := v40) (lv' := [(5, .int v40), (0, .ref (g 11 4)), (1, .ref (ak 3)), (2, .int a), (3, .int b), (4, .int d)]) hx hb dX8_isSame_51 hl (k := 0) rfl (by rw [ev40]; rfl) (by decide) rfl (fun ls hl => ?_)
            refine lv_goto (tgt := 18) hx hb dX8_isSame_54 (by decide) ?_
            exact ih32 v40 ⟨by omega, by omega⟩ (by omega) ls (lv_sub hl [0, 1, 2, 3, 4, 5] rfl)
          · have fc39 := z_ne (rfl : (r36).toInt = _) (rfl : (v38).toInt = _) c39
            refine lv_iconst (v := 0) hx hb dX8_isSame_49 (by decide) ?_
            exact W.zret (v := 0) hx hb hr rfl (fun t ht9 hW => ⟨0, rfl, ⟨by decide, by decide⟩, ht9⟩) (fun q hq => by cases hq) dX8_isSame_50
    exact lp32 3 0 ⟨by decide, by decide⟩ (by first | decide | omega) ls (lv_sub hl [0, 1, 2, 3, 4, 5] rfl)
  · have fc3 := z_ne (rfl : (v1).toInt = _) (rfl : (v2).toInt = _) c3
    refine lv_iconst (v := 0) hx hb dX8_isSame_13 (by decide) ?_
    exact W.zret (v := 0) hx hb hr rfl (fun t ht9 hW => ⟨0, rfl, ⟨by decide, by decide⟩, ht9⟩) (fun q hq => by cases hq) dX8_isSame_14
set_option maxHeartbeats 4000000 in
set_option maxRecDepth 100000 in
/-- X8_readOneOf -/
theorem c_X8_readOneOf_0 (l : Launch) (dC : Nat → ClassId) (dI : Nat → Nat → Nat) (sz : Nat) (ak av : Nat → Nat) (h : Nat) (g : Nat → Nat → Nat) (ca : Nat → Nat → ClassId) (iv : Nat → Nat → Int32) (lv : Nat → Nat → Int64) (fa : Nat → Nat → Nat → Int32) (la : Nat → Nat → Nat → Int64) (hI : IX iv fa) : Met l yX8_readOneOf (wc yX8_readOneOf cX8_readOneOf 6 (some .int)) ({ frames := 5, cells := 0, slots := 0, locals := 110 } : Room) (pWZ ak av (dC, dI) classes (WX h g ca iv lv fa la) (TX ca) sz [.ref (g 11 4), .ref (ak 0)]) (va_Qi (fun r (u : SS) => ∃ (ni_8_3 : Int32) (ni_8_4 : Int32) (ni_8_5 : Int32), inb (bI 8 3) ni_8_3 ∧ inb (bI 8 4) ni_8_4 ∧ inb (bI 8 5) ni_8_5 ∧ ((-1) ≤ r.toInt ∧ r.toInt ≤ 3) ∧ u = ((u2 (u2 (u2 iv 8 3 ni_8_3) 8 4 ni_8_4) 8 5 ni_8_5), lv, fa, la)) (bX (dC, dI) h g ca (va_A (WX h g ca iv lv fa la) sz)) (va_A (WX h g ca iv lv fa la) sz)) 0 0 (va_A (WX h g ca iv lv fa la) sz) := by
  refine Met.ofW (cc := cX8_readOneOf) (maxL := 6) (ret := (some .int)) (by decide) rfl ?_
  intro p e s m args below meth c s₁ B hml hv
  obtain ⟨rfl, hsz, hP, hK, hD0, hZ⟩ := hv
  have hx := B.exec
  have hb := B.bytes
  have hr := B.returns
  have ht := tb_tl (atoms_spec (ws := wc yX8_readOneOf cX8_readOneOf 6 (some .int)) B.pre)
  have hown : s.vm.findClass RX8 = some m.cls := findClass_of_methodNamed B.named
  have hlocks := B.notSynchronized
  subst hsz
  have hD := hD0.self (sz := s.heap.size)
  generalize hAe : va_A (WX h g ca iv lv fa la) s.heap.size = A at hD hZ ⊢
  have hA : ∀ q : Nat, s.heap.size ≤ q → A q := fun q h => by rw [← hAe]; exact Or.inr h
  have hS : va_S A s.heap s.heap [] := va_S.rf
  have hl := lv_entry [.ref (g 11 4), .ref (ak 0)] (n := 6) (Nat.le_of_ble_eq_true rfl)
  rw [lg_entry_eq]
  generalize (lg_sl [.ref (g 11 4), .ref (ak 0)] ++ List.replicate (6 - (lg_sl [.ref (g 11 4), .ref (ak 0)]).length) Slot.unset).toArray = ls at hl ⊢
  have hl : lv_has ls 6 [(0, .ref (g 11 4)), (1, .ref (ak 0))] := hl
  refine lv_aload_n hx hb dX8_readOneOf_0 rfl (lv_at hl 0 rfl) ?_
  have hFc := free_all hD hS hA
  refine va_calli (va_runV (As := []) (rest := []) ⟨hx, hb, hml, hown, ht⟩ (c_X8_skipBlanks l dC dI s.heap.size h g ca iv lv fa la hI) (kV 0 ht m_688 m_690 m_16 m_82 m_691 rfl rfl hd_X8_skipBlanks_v ⟨Nat.le_of_ble_eq_true rfl, Nat.le_of_ble_eq_true rfl⟩) (vW hP hK hD (rX_8 hK hP)) rfl rfl hl.1 rfl (lv_room (Nat.le_of_ble_eq_true rfl)) dX8_readOneOf_1 ⟨Nat.le_of_ble_eq_true rfl, Nat.le_of_ble_eq_true rfl⟩) hS (fun q _ h => hFc q h) hFc (fun r1 u t H1 locs ht9 hvm hr1 hB hz1 hk1 hS => ?_)
  obtain ⟨n2, hn2, hr1, rfl⟩ := hr1
  have hn2 : 0 ≤ n2.toInt ∧ n2.toInt ≤ 200 := hn2
  obtain ⟨hP, hD⟩ := hB
  rw [ht9] at hP
  generalize H1 = H at hP hS ⊢
  have hP : va_P (dC, dI) classes (WX h g ca (u2 iv 8 5 n2) lv fa la) H := hP
  have hD : va_D A (WX h g ca (u2 iv 8 5 n2) lv fa la) := (show va_D _ (WX h g ca (u2 iv 8 5 n2) lv fa la) from hD).weaken (fun _ _ _ h => hFc _ h)
  refine lv_pop hx hb dX8_readOneOf_4 rfl ?_
  refine lv_aload_n hx hb dX8_readOneOf_5 rfl (lv_at hl 0 rfl) ?_
  refine lv_bipush (v := 97) hx hb dX8_readOneOf_6 (by decide) ?_
  refine lv_bipush (v := 122) hx hb dX8_readOneOf_8 (by decide) ?_
  refine vp_callSi (W.runV (As := [.int 97, .int 122]) (rest := []) ⟨hx, hb, hml, hown, ht⟩ (c_X8_endOfRun l dC dI h g ca (u2 iv 8 5 n2) lv fa la (IX_i (c := 8) (k := 5) hI (show inb (0, 200) n2 from ⟨by omega, by omega⟩)) 97 122) (kV 2 ht m_701 m_703 m_19 m_82 m_704 rfl rfl hd_X8_endOfRun_v ⟨Nat.le_of_ble_eq_true rfl, Nat.le_of_ble_eq_true rfl⟩) (vR hP hK (rX_8 hK hP)) rfl rfl hl.1 rfl (lv_room (Nat.le_of_ble_eq_true rfl)) dX8_readOneOf_10 ⟨Nat.le_of_ble_eq_true rfl, Nat.le_of_ble_eq_true rfl⟩) (fun r3 hr3 => ?_)
  refine lv_istore_n (lv' := [(2, .int r3), (0, .ref (g 11 4)), (1, .ref (ak 0))]) hx hb dX8_readOneOf_13 rfl hl (by decide) rfl (fun ls hl => ?_)
  refine lv_iconst (v := 0) hx hb dX8_readOneOf_14 (by decide) ?_
  refine lv_istore_n (lv' := [(3, .int 0), (2, .int r3), (0, .ref (g 11 4)), (1, .ref (ak 0))]) hx hb dX8_readOneOf_15 rfl hl (by decide) rfl (fun ls hl => ?_)
  refine lv_iconst (v := 0) hx hb dX8_readOneOf_16 (by decide) ?_
  refine lv_istore (lv' := [(4, .int 0), (3, .int 0), (2, .int r3), (0, .ref (g 11 4)), (1, .ref (ak 0))]) hx hb dX8_readOneOf_17 hl (by decide) rfl (fun ls hl => ?_)
  refine lv_iconst (v := 0) hx hb dX8_readOneOf_19 (by decide) ?_
  refine lv_istore (lv' := [(5, .int 0), (4, .int 0), (3, .int 0), (2, .int r3), (0, .ref (g 11 4)), (1, .ref (ak 0))]) hx hb dX8_readOneOf_20 hl (by decide) rfl (fun ls hl => ?_)
  refine lv_iload hx hb dX8_readOneOf_22 (lv_at hl 0 rfl) ?_
  refine lv_aload_n hx hb dX8_readOneOf_24 rfl (lv_at hl 5 rfl) ?_
  refine vp_callSi (W.runV (As := []) (rest := [.int 0]) ⟨hx, hb, hml, hown, ht⟩ (c_J0_length_8abf5_0 l dC dI ak av) (kV 0 ht m_705 m_706 m_707 m_91 m_708 rfl rfl hd_J0_length_8abf5_v ⟨Nat.le_of_ble_eq_true rfl, Nat.le_of_ble_eq_true rfl⟩) (vRZ noP (hK.sub (tys' := []) [] rfl) ((hZ.kept hS.2.1).narrow (fun _ h => h.elim)) (vk_recv hZ.1.2.2.2.2.2 (i := 0) (by decide) hS)) rfl rfl hl.1 rfl (lv_room (Nat.le_of_ble_eq_true rfl)) dX8_readOneOf_25 ⟨Nat.le_of_ble_eq_true rfl, Nat.le_of_ble_eq_true rfl⟩) (fun r4 hr4 => ?_)
  obtain rfl : 21 = r4 := hr4.symm
  refine lv_icmp_ge (tgt := 77) hx hb dX8_readOneOf_28 (by decide) (fun c5 => ?_) (fun c5 => ?_)
  · exact absurd c5 (by decide)
  · skip
    refine lv_aload_n hx hb dX8_readOneOf_31 rfl (lv_at hl 5 rfl) ?_
    refine lv_iload hx hb dX8_readOneOf_32 (lv_at hl 0 rfl) ?_
    refine vp_callSi (W.runV (As := [.int 0]) (rest := []) ⟨hx, hb, hml, hown, ht⟩ (c_J0_charAt_5068e_0 l dC dI ak av 0 ⟨by decide, by decide⟩) (kV 1 ht m_715 m_716 m_717 m_91 m_718 rfl rfl hd_J0_charAt_5068e_v ⟨Nat.le_of_ble_eq_true rfl, Nat.le_of_ble_eq_true rfl⟩) (vRZ noP (hK.sub (tys' := []) [] rfl) ((hZ.kept hS.2.1).narrow (fun _ h => h.elim)) (vk_recv hZ.1.2.2.2.2.2 (i := 0) (by decide) hS)) rfl rfl hl.1 rfl (lv_room (Nat.le_of_ble_eq_true rfl)) dX8_readOneOf_34 ⟨Nat.le_of_ble_eq_true rfl, Nat.le_of_ble_eq_true rfl⟩) (fun r6 hr6 => ?_)
    obtain rfl : 108 = r6 := (hr6.trans (by decide)).symm
    refine lv_bipush (v := 32) hx hb dX8_readOneOf_37 (by decide) ?_
    refine lv_icmp_ne (tgt := 71) hx hb dX8_readOneOf_39 (by decide) (fun c7 => ?_) (fun c7 => ?_)
    · skip
      refine lv_iinc (v := 1) (lv' := [(5, .int 1), (4, .int 0), (3, .int 0), (2, .int r3), (0, .ref (g 11 4)), (1, .ref (ak 0))]) hx hb dX8_readOneOf_71 hl (k := 0) rfl (by decide) (by decide) rfl (fun ls hl => ?_)
      refine lv_goto (tgt := 22) hx hb dX8_readOneOf_74 (by decide) ?_
      refine lv_iload hx hb dX8_readOneOf_22 (lv_at hl 0 rfl) ?_
      refine lv_aload_n hx hb dX8_readOneOf_24 rfl (lv_at hl 5 rfl) ?_
      refine vp_callSi (W.runV (As := []) (rest := [.int 1]) ⟨hx, hb, hml, hown, ht⟩ (c_J0_length_8abf5_0 l dC dI ak av) (kV 0 ht m_705 m_706 m_707 m_91 m_708 rfl rfl hd_J0_length_8abf5_v ⟨Nat.le_of_ble_eq_true rfl, Nat.le_of_ble_eq_true rfl⟩) (vRZ noP (hK.sub (tys' := []) [] rfl) ((hZ.kept hS.2.1).narrow (fun _ h => h.elim)) (vk_recv hZ.1.2.2.2.2.2 (i := 0) (by decide) hS)) rfl rfl hl.1 rfl (lv_room (Nat.le_of_ble_eq_true rfl)) dX8_readOneOf_25 ⟨Nat.le_of_ble_eq_true rfl, Nat.le_of_ble_eq_true rfl⟩) (fun r8 hr8 => ?_)
      obtain rfl : 21 = r8 := hr8.symm
      refine lv_icmp_ge (tgt := 77) hx hb dX8_readOneOf_28 (by decide) (fun c9 => ?_) (fun c9 => ?_)
      · exact absurd c9 (by decide)
      · skip
        refine lv_aload_n hx hb dX8_readOneOf_31 rfl (lv_at hl 5 rfl) ?_
        refine lv_iload hx hb dX8_readOneOf_32 (lv_at hl 0 rfl) ?_
        refine vp_callSi (W.runV (As := [.int 1]) (rest := []) ⟨hx, hb, hml, hown, ht⟩ (c_J0_charAt_5068e_0 l dC dI ak av 1 ⟨by decide, by decide⟩) (kV 1 ht m_715 m_716 m_717 m_91 m_718 rfl rfl hd_J0_charAt_5068e_v ⟨Nat.le_of_ble_eq_true rfl, Nat.le_of_ble_eq_true rfl⟩) (vRZ noP (hK.sub (tys' := []) [] rfl) ((hZ.kept hS.2.1).narrow (fun _ h => h.elim)) (vk_recv hZ.1.2.2.2.2.2 (i := 0) (by decide) hS)) rfl rfl hl.1 rfl (lv_room (Nat.le_of_ble_eq_true rfl)) dX8_readOneOf_34 ⟨Nat.le_of_ble_eq_true rfl, Nat.le_of_ble_eq_true rfl⟩) (fun r10 hr10 => ?_)
        obtain rfl : 101 = r10 := (hr10.trans (by decide)).symm
        refine lv_bipush (v := 32) hx hb dX8_readOneOf_37 (by decide) ?_
        refine lv_icmp_ne (tgt := 71) hx hb dX8_readOneOf_39 (by decide) (fun c11 => ?_) (fun c11 => ?_)
        · skip
          refine lv_iinc (v := 2) (lv' := [(5, .int 2), (4, .int 0), (3, .int 0), (2, .int r3), (0, .ref (g 11 4)), (1, .ref (ak 0))]) hx hb dX8_readOneOf_71 hl (k := 0) rfl (by decide) (by decide) rfl (fun ls hl => ?_)
          refine lv_goto (tgt := 22) hx hb dX8_readOneOf_74 (by decide) ?_
          refine lv_iload hx hb dX8_readOneOf_22 (lv_at hl 0 rfl) ?_
          refine lv_aload_n hx hb dX8_readOneOf_24 rfl (lv_at hl 5 rfl) ?_
          refine vp_callSi (W.runV (As := []) (rest := [.int 2]) ⟨hx, hb, hml, hown, ht⟩ (c_J0_length_8abf5_0 l dC dI ak av) (kV 0 ht m_705 m_706 m_707 m_91 m_708 rfl rfl hd_J0_length_8abf5_v ⟨Nat.le_of_ble_eq_true rfl, Nat.le_of_ble_eq_true rfl⟩) (vRZ noP (hK.sub (tys' := []) [] rfl) ((hZ.kept hS.2.1).narrow (fun _ h => h.elim)) (vk_recv hZ.1.2.2.2.2.2 (i := 0) (by decide) hS)) rfl rfl hl.1 rfl (lv_room (Nat.le_of_ble_eq_true rfl)) dX8_readOneOf_25 ⟨Nat.le_of_ble_eq_true rfl, Nat.le_of_ble_eq_true rfl⟩) (fun r12 hr12 => ?_)
          obtain rfl : 21 = r12 := hr12.symm
          refine lv_icmp_ge (tgt := 77) hx hb dX8_readOneOf_28 (by decide) (fun c13 => ?_) (fun c13 => ?_)
          · exact absurd c13 (by decide)
          · skip
            refine lv_aload_n hx hb dX8_readOneOf_31 rfl (lv_at hl 5 rfl) ?_
            refine lv_iload hx hb dX8_readOneOf_32 (lv_at hl 0 rfl) ?_
            refine vp_callSi (W.runV (As := [.int 2]) (rest := []) ⟨hx, hb, hml, hown, ht⟩ (c_J0_charAt_5068e_0 l dC dI ak av 2 ⟨by decide, by decide⟩) (kV 1 ht m_715 m_716 m_717 m_91 m_718 rfl rfl hd_J0_charAt_5068e_v ⟨Nat.le_of_ble_eq_true rfl, Nat.le_of_ble_eq_true rfl⟩) (vRZ noP (hK.sub (tys' := []) [] rfl) ((hZ.kept hS.2.1).narrow (fun _ h => h.elim)) (vk_recv hZ.1.2.2.2.2.2 (i := 0) (by decide) hS)) rfl rfl hl.1 rfl (lv_room (Nat.le_of_ble_eq_true rfl)) dX8_readOneOf_34 ⟨Nat.le_of_ble_eq_true rfl, Nat.le_of_ble_eq_true rfl⟩) (fun r14 hr14 => ?_)
            obtain rfl : 116 = r14 := (hr14.trans (by decide)).symm
            refine lv_bipush (v := 32) hx hb dX8_readOneOf_37 (by decide) ?_
            refine lv_icmp_ne (tgt := 71) hx hb dX8_readOneOf_39 (by decide) (fun c15 => ?_) (fun c15 => ?_)
            · skip
              refine lv_iinc (v := 3) (lv' := [(5, .int 3), (4, .int 0), (3, .int 0), (2, .int r3), (0, .ref (g 11 4)), (1, .ref (ak 0))]) hx hb dX8_readOneOf_71 hl (k := 0) rfl (by decide) (by decide) rfl (fun ls hl => ?_)
              refine lv_goto (tgt := 22) hx hb dX8_readOneOf_74 (by decide) ?_
              refine lv_iload hx hb dX8_readOneOf_22 (lv_at hl 0 rfl) ?_
              refine lv_aload_n hx hb dX8_readOneOf_24 rfl (lv_at hl 5 rfl) ?_
              refine vp_callSi (W.runV (As := []) (rest := [.int 3]) ⟨hx, hb, hml, hown, ht⟩ (c_J0_length_8abf5_0 l dC dI ak av) (kV 0 ht m_705 m_706 m_707 m_91 m_708 rfl rfl hd_J0_length_8abf5_v ⟨Nat.le_of_ble_eq_true rfl, Nat.le_of_ble_eq_true rfl⟩) (vRZ noP (hK.sub (tys' := []) [] rfl) ((hZ.kept hS.2.1).narrow (fun _ h => h.elim)) (vk_recv hZ.1.2.2.2.2.2 (i := 0) (by decide) hS)) rfl rfl hl.1 rfl (lv_room (Nat.le_of_ble_eq_true rfl)) dX8_readOneOf_25 ⟨Nat.le_of_ble_eq_true rfl, Nat.le_of_ble_eq_true rfl⟩) (fun r16 hr16 => ?_)
              obtain rfl : 21 = r16 := hr16.symm
              refine lv_icmp_ge (tgt := 77) hx hb dX8_readOneOf_28 (by decide) (fun c17 => ?_) (fun c17 => ?_)
              · exact absurd c17 (by decide)
              · skip
                refine lv_aload_n hx hb dX8_readOneOf_31 rfl (lv_at hl 5 rfl) ?_
                refine lv_iload hx hb dX8_readOneOf_32 (lv_at hl 0 rfl) ?_
                refine vp_callSi (W.runV (As := [.int 3]) (rest := []) ⟨hx, hb, hml, hown, ht⟩ (c_J0_charAt_5068e_0 l dC dI ak av 3 ⟨by decide, by decide⟩) (kV 1 ht m_715 m_716 m_717 m_91 m_718 rfl rfl hd_J0_charAt_5068e_v ⟨Nat.le_of_ble_eq_true rfl, Nat.le_of_ble_eq_true rfl⟩) (vRZ noP (hK.sub (tys' := []) [] rfl) ((hZ.kept hS.2.1).narrow (fun _ h => h.elim)) (vk_recv hZ.1.2.2.2.2.2 (i := 0) (by decide) hS)) rfl rfl hl.1 rfl (lv_room (Nat.le_of_ble_eq_true rfl)) dX8_readOneOf_34 ⟨Nat.le_of_ble_eq_true rfl, Nat.le_of_ble_eq_true rfl⟩) (fun r18 hr18 => ?_)
                obtain rfl : 32 = r18 := (hr18.trans (by decide)).symm
                refine lv_bipush (v := 32) hx hb dX8_readOneOf_37 (by decide) ?_
                refine lv_icmp_ne (tgt := 71) hx hb dX8_readOneOf_39 (by decide) (fun c19 => ?_) (fun c19 => ?_)
                · exact absurd rfl c19
                · skip
                  refine lv_aload_n hx hb dX8_readOneOf_42 rfl (lv_at hl 4 rfl) ?_
                  refine lv_aload_n hx hb dX8_readOneOf_43 rfl (lv_at hl 5 rfl) ?_
                  refine lv_iload hx hb dX8_readOneOf_44 (lv_at hl 1 rfl) ?_
                  refine lv_iload hx hb dX8_readOneOf_46 (lv_at hl 0 rfl) ?_
                  refine lv_iload_n hx hb dX8_readOneOf_48 rfl (lv_at hl 3 rfl) ?_
                  refine vp_callSi (W.runV (As := [.ref (ak 0), .int 0, .int 3, .int r3]) (rest := []) ⟨hx, hb, hml, hown, ht⟩ (c_X8_isSame_0 l dC dI ak av h g ca (u2 iv 8 5 n2) lv fa la (IX_i (c := 8) (k := 5) hI (show inb (0, 200) n2 from ⟨by omega, by omega⟩)) 0 3 r3 ⟨by decide, by decide⟩ ⟨by decide, by decide⟩ ⟨by omega, by omega⟩) (kV 4 ht m_753 m_755 m_20 m_82 m_756 rfl rfl hd_X8_isSame_v ⟨Nat.le_of_ble_eq_true rfl, Nat.le_of_ble_eq_true rfl⟩) (vRZ hP hK ((hZ.kept hS.2.1).narrow (fun _ h => h.elim)) (rX_8 hK hP)) rfl rfl hl.1 rfl (lv_room (Nat.le_of_ble_eq_true rfl)) dX8_readOneOf_49 ⟨Nat.le_of_ble_eq_true rfl, Nat.le_of_ble_eq_true rfl⟩) (fun r20 hr20 => ?_)
                  refine lv_if_eq (tgt := 62) hx hb dX8_readOneOf_52 (by decide) (fun c21 => ?_) (fun c21 => ?_)
                  · have fc21 := z_eq (rfl : (r20).toInt = _) (by decide : (0 : Int32).toInt = 0) c21
                    refine lv_iinc (v := 1) (lv' := [(3, .int 1), (5, .int 3), (4, .int 0), (2, .int r3), (0, .ref (g 11 4)), (1, .ref (ak 0))]) hx hb dX8_readOneOf_62 hl (k := 2) rfl (by decide) (by decide) rfl (fun ls hl => ?_)
                    refine lv_iload hx hb dX8_readOneOf_65 (lv_at hl 1 rfl) ?_
                    refine lv_iconst (v := 1) hx hb dX8_readOneOf_67 (by decide) ?_
                    refine lv_iadd hx hb dX8_readOneOf_68 ?_
                    refine lv_topi (fun v22 ev22 => ?_)
                    obtain rfl : 4 = v22 := (ev22.trans (by decide)).symm
                    refine lv_istore (lv' := [(4, .int 4), (3, .int 1), (5, .int 3), (2, .int r3), (0, .ref (g 11 4)), (1, .ref (ak 0))]) hx hb dX8_readOneOf_69 hl (by decide) rfl (fun ls hl => ?_)
                    refine lv_iinc (v := 4) (lv' := [(5, .int 4), (4, .int 4), (3, .int 1), (2, .int r3), (0, .ref (g 11 4)), (1, .ref (ak 0))]) hx hb dX8_readOneOf_71 hl (k := 2) rfl (by decide) (by decide) rfl (fun ls hl => ?_)
                    refine lv_goto (tgt := 22) hx hb dX8_readOneOf_74 (by decide) ?_
                    refine lv_iload hx hb dX8_readOneOf_22 (lv_at hl 0 rfl) ?_
                    refine lv_aload_n hx hb dX8_readOneOf_24 rfl (lv_at hl 5 rfl) ?_
                    refine vp_callSi (W.runV (As := []) (rest := [.int 4]) ⟨hx, hb, hml, hown, ht⟩ (c_J0_length_8abf5_0 l dC dI ak av) (kV 0 ht m_705 m_706 m_707 m_91 m_708 rfl rfl hd_J0_length_8abf5_v ⟨Nat.le_of_ble_eq_true rfl, Nat.le_of_ble_eq_true rfl⟩) (vRZ noP (hK.sub (tys' := []) [] rfl) ((hZ.kept hS.2.1).narrow (fun _ h => h.elim)) (vk_recv hZ.1.2.2.2.2.2 (i := 0) (by decide) hS)) rfl rfl hl.1 rfl (lv_room (Nat.le_of_ble_eq_true rfl)) dX8_readOneOf_25 ⟨Nat.le_of_ble_eq_true rfl, Nat.le_of_ble_eq_true rfl⟩) (fun r23 hr23 => ?_)
                    obtain rfl : 21 = r23 := hr23.symm
                    refine lv_icmp_ge (tgt := 77) hx hb dX8_readOneOf_28 (by decide) (fun c24 => ?_) (fun c24 => ?_)
                    · exact absurd c24 (by decide)
                    · skip
                      refine lv_aload_n hx hb dX8_readOneOf_31 rfl (lv_at hl 5 rfl) ?_
                      refine lv_iload hx hb dX8_readOneOf_32 (lv_at hl 0 rfl) ?_
                      refine vp_callSi (W.runV (As := [.int 4]) (rest := []) ⟨hx, hb, hml, hown, ht⟩ (c_J0_charAt_5068e_0 l dC dI ak av 4 ⟨by decide, by decide⟩) (kV 1 ht m_715 m_716 m_717 m_91 m_718 rfl rfl hd_J0_charAt_5068e_v ⟨Nat.le_of_ble_eq_true rfl, Nat.le_of_ble_eq_true rfl⟩) (vRZ noP (hK.sub (tys' := []) [] rfl) ((hZ.kept hS.2.1).narrow (fun _ h => h.elim)) (vk_recv hZ.1.2.2.2.2.2 (i := 0) (by decide) hS)) rfl rfl hl.1 rfl (lv_room (Nat.le_of_ble_eq_true rfl)) dX8_readOneOf_34 ⟨Nat.le_of_ble_eq_true rfl, Nat.le_of_ble_eq_true rfl⟩) (fun r25 hr25 => ?_)
                      obtain rfl : 116 = r25 := (hr25.trans (by decide)).symm
                      refine lv_bipush (v := 32) hx hb dX8_readOneOf_37 (by decide) ?_
                      refine lv_icmp_ne (tgt := 71) hx hb dX8_readOneOf_39 (by decide) (fun c26 => ?_) (fun c26 => ?_)
                      · skip
                        refine lv_iinc (v := 5) (lv' := [(5, .int 5), (4, .int 4), (3, .int 1), (2, .int r3), (0, .ref (g 11 4)), (1, .ref (ak 0))]) hx hb dX8_readOneOf_71 hl (k := 0) rfl (by decide) (by decide) rfl (fun ls hl => ?_)
                        refine lv_goto (tgt := 22) hx hb dX8_readOneOf_74 (by decide) ?_
                        refine lv_iload hx hb dX8_readOneOf_22 (lv_at hl 0 rfl) ?_
                        refine lv_aload_n hx hb dX8_readOneOf_24 rfl (lv_at hl 5 rfl) ?_
                        refine vp_callSi (W.runV (As := []) (rest := [.int 5]) ⟨hx, hb, hml, hown, ht⟩ (c_J0_length_8abf5_0 l dC dI ak av) (kV 0 ht m_705 m_706 m_707 m_91 m_708 rfl rfl hd_J0_length_8abf5_v ⟨Nat.le_of_ble_eq_true rfl, Nat.le_of_ble_eq_true rfl⟩) (vRZ noP (hK.sub (tys' := []) [] rfl) ((hZ.kept hS.2.1).narrow (fun _ h => h.elim)) (vk_recv hZ.1.2.2.2.2.2 (i := 0) (by decide) hS)) rfl rfl hl.1 rfl (lv_room (Nat.le_of_ble_eq_true rfl)) dX8_readOneOf_25 ⟨Nat.le_of_ble_eq_true rfl, Nat.le_of_ble_eq_true rfl⟩) (fun r27 hr27 => ?_)
                        obtain rfl : 21 = r27 := hr27.symm
                        refine lv_icmp_ge (tgt := 77) hx hb dX8_readOneOf_28 (by decide) (fun c28 => ?_) (fun c28 => ?_)
                        · exact absurd c28 (by decide)
                        · skip
                          refine lv_aload_n hx hb dX8_readOneOf_31 rfl (lv_at hl 5 rfl) ?_
                          refine lv_iload hx hb dX8_readOneOf_32 (lv_at hl 0 rfl) ?_
                          refine vp_callSi (W.runV (As := [.int 5]) (rest := []) ⟨hx, hb, hml, hown, ht⟩ (c_J0_charAt_5068e_0 l dC dI ak av 5 ⟨by decide, by decide⟩) (kV 1 ht m_715 m_716 m_717 m_91 m_718 rfl rfl hd_J0_charAt_5068e_v ⟨Nat.le_of_ble_eq_true rfl, Nat.le_of_ble_eq_true rfl⟩) (vRZ noP (hK.sub (tys' := []) [] rfl) ((hZ.kept hS.2.1).narrow (fun _ h => h.elim)) (vk_recv hZ.1.2.2.2.2.2 (i := 0) (by decide) hS)) rfl rfl hl.1 rfl (lv_room (Nat.le_of_ble_eq_true rfl)) dX8_readOneOf_34 ⟨Nat.le_of_ble_eq_true rfl, Nat.le_of_ble_eq_true rfl⟩) (fun r29 hr29 => ?_)
                          obtain rfl : 97 = r29 := (hr29.trans (by decide)).symm
                          refine lv_bipush (v := 32) hx hb dX8_readOneOf_37 (by decide) ?_
                          refine lv_icmp_ne (tgt := 71) hx hb dX8_readOneOf_39 (by decide) (fun c30 => ?_) (fun c30 => ?_)
                          · skip
                            refine lv_iinc (v := 6) (lv' := [(5, .int 6), (4, .int 4), (3, .int 1), (2, .int r3), (0, .ref (g 11 4)), (1, .ref (ak 0))]) hx hb dX8_readOneOf_71 hl (k := 0) rfl (by decide) (by decide) rfl (fun ls hl => ?_)
                            refine lv_goto (tgt := 22) hx hb dX8_readOneOf_74 (by decide) ?_
                            refine lv_iload hx hb dX8_readOneOf_22 (lv_at hl 0 rfl) ?_
                            refine lv_aload_n hx hb dX8_readOneOf_24 rfl (lv_at hl 5 rfl) ?_
                            refine vp_callSi (W.runV (As := []) (rest := [.int 6]) ⟨hx, hb, hml, hown, ht⟩ (c_J0_length_8abf5_0 l dC dI ak av) (kV 0 ht m_705 m_706 m_707 m_91 m_708 rfl rfl hd_J0_length_8abf5_v ⟨Nat.le_of_ble_eq_true rfl, Nat.le_of_ble_eq_true rfl⟩) (vRZ noP (hK.sub (tys' := []) [] rfl) ((hZ.kept hS.2.1).narrow (fun _ h => h.elim)) (vk_recv hZ.1.2.2.2.2.2 (i := 0) (by decide) hS)) rfl rfl hl.1 rfl (lv_room (Nat.le_of_ble_eq_true rfl)) dX8_readOneOf_25 ⟨Nat.le_of_ble_eq_true rfl, Nat.le_of_ble_eq_true rfl⟩) (fun r31 hr31 => ?_)
                            obtain rfl : 21 = r31 := hr31.symm
                            refine lv_icmp_ge (tgt := 77) hx hb dX8_readOneOf_28 (by decide) (fun c32 => ?_) (fun c32 => ?_)
                            · exact absurd c32 (by decide)
                            · skip
                              refine lv_aload_n hx hb dX8_readOneOf_31 rfl (lv_at hl 5 rfl) ?_
                              refine lv_iload hx hb dX8_readOneOf_32 (lv_at hl 0 rfl) ?_
                              refine vp_callSi (W.runV (As := [.int 6]) (rest := []) ⟨hx, hb, hml, hown, ht⟩ (c_J0_charAt_5068e_0 l dC dI ak av 6 ⟨by decide, by decide⟩) (kV 1 ht m_715 m_716 m_717 m_91 m_718 rfl rfl hd_J0_charAt_5068e_v ⟨Nat.le_of_ble_eq_true rfl, Nat.le_of_ble_eq_true rfl⟩) (vRZ noP (hK.sub (tys' := []) [] rfl) ((hZ.kept hS.2.1).narrow (fun _ h => h.elim)) (vk_recv hZ.1.2.2.2.2.2 (i := 0) (by decide) hS)) rfl rfl hl.1 rfl (lv_room (Nat.le_of_ble_eq_true rfl)) dX8_readOneOf_34 ⟨Nat.le_of_ble_eq_true rfl, Nat.le_of_ble_eq_true rfl⟩) (fun r33 hr33 => ?_)
                              obtain rfl : 107 = r33 := (hr33.trans (by decide)).symm
                              refine lv_bipush (v := 32) hx hb dX8_readOneOf_37 (by decide) ?_
                              refine lv_icmp_ne (tgt := 71) hx hb dX8_readOneOf_39 (by decide) (fun c34 => ?_) (fun c34 => ?_)
                              · skip
                                refine lv_iinc (v := 7) (lv' := [(5, .int 7), (4, .int 4), (3, .int 1), (2, .int r3), (0, .ref (g 11 4)), (1, .ref (ak 0))]) hx hb dX8_readOneOf_71 hl (k := 0) rfl (by decide) (by decide) rfl (fun ls hl => ?_)
                                refine lv_goto (tgt := 22) hx hb dX8_readOneOf_74 (by decide) ?_
                                refine lv_iload hx hb dX8_readOneOf_22 (lv_at hl 0 rfl) ?_
                                refine lv_aload_n hx hb dX8_readOneOf_24 rfl (lv_at hl 5 rfl) ?_
                                refine vp_callSi (W.runV (As := []) (rest := [.int 7]) ⟨hx, hb, hml, hown, ht⟩ (c_J0_length_8abf5_0 l dC dI ak av) (kV 0 ht m_705 m_706 m_707 m_91 m_708 rfl rfl hd_J0_length_8abf5_v ⟨Nat.le_of_ble_eq_true rfl, Nat.le_of_ble_eq_true rfl⟩) (vRZ noP (hK.sub (tys' := []) [] rfl) ((hZ.kept hS.2.1).narrow (fun _ h => h.elim)) (vk_recv hZ.1.2.2.2.2.2 (i := 0) (by decide) hS)) rfl rfl hl.1 rfl (lv_room (Nat.le_of_ble_eq_true rfl)) dX8_readOneOf_25 ⟨Nat.le_of_ble_eq_true rfl, Nat.le_of_ble_eq_true rfl⟩) (fun r35 hr35 => ?_)
                                obtain rfl : 21 = r35 := hr35.symm
                                refine lv_icmp_ge (tgt := 77) hx hb dX8_readOneOf_28 (by decide) (fun c36 => ?_) (fun c36 => ?_)
                                · exact absurd c36 (by decide)
                                · skip
                                  refine lv_aload_n hx hb dX8_readOneOf_31 rfl (lv_at hl 5 rfl) ?_
                                  refine lv_iload hx hb dX8_readOneOf_32 (lv_at hl 0 rfl) ?_
                                  refine vp_callSi (W.runV (As := [.int 7]) (rest := []) ⟨hx, hb, hml, hown, ht⟩ (c_J0_charAt_5068e_0 l dC dI ak av 7 ⟨by decide, by decide⟩) (kV 1 ht m_715 m_716 m_717 m_91 m_718 rfl rfl hd_J0_charAt_5068e_v ⟨Nat.le_of_ble_eq_true rfl, Nat.le_of_ble_eq_true rfl⟩) (vRZ noP (hK.sub (tys' := []) [] rfl) ((hZ.kept hS.2.1).narrow (fun _ h => h.elim)) (vk_recv hZ.1.2.2.2.2.2 (i := 0) (by decide) hS)) rfl rfl hl.1 rfl (lv_room (Nat.le_of_ble_eq_true rfl)) dX8_readOneOf_34 ⟨Nat.le_of_ble_eq_true rfl, Nat.le_of_ble_eq_true rfl⟩) (fun r37 hr37 => ?_)
                                  obtain rfl : 101 = r37 := (hr37.trans (by decide)).symm
                                  refine lv_bipush (v := 32) hx hb dX8_readOneOf_37 (by decide) ?_
                                  refine lv_icmp_ne (tgt := 71) hx hb dX8_readOneOf_39 (by decide) (fun c38 => ?_) (fun c38 => ?_)
                                  · skip
                                    refine lv_iinc (v := 8) (lv' := [(5, .int 8), (4, .int 4), (3, .int 1), (2, .int r3), (0, .ref (g 11 4)), (1, .ref (ak 0))]) hx hb dX8_readOneOf_71 hl (k := 0) rfl (by decide) (by decide) rfl (fun ls hl => ?_)
                                    refine lv_goto (tgt := 22) hx hb dX8_readOneOf_74 (by decide) ?_
                                    refine lv_iload hx hb dX8_readOneOf_22 (lv_at hl 0 rfl) ?_
                                    refine lv_aload_n hx hb dX8_readOneOf_24 rfl (lv_at hl 5 rfl) ?_
                                    refine vp_callSi (W.runV (As := []) (rest := [.int 8]) ⟨hx, hb, hml, hown, ht⟩ (c_J0_length_8abf5_0 l dC dI ak av) (kV 0 ht m_705 m_706 m_707 m_91 m_708 rfl rfl hd_J0_length_8abf5_v ⟨Nat.le_of_ble_eq_true rfl, Nat.le_of_ble_eq_true rfl⟩) (vRZ noP (hK.sub (tys' := []) [] rfl) ((hZ.kept hS.2.1).narrow (fun _ h => h.elim)) (vk_recv hZ.1.2.2.2.2.2 (i := 0) (by decide) hS)) rfl rfl hl.1 rfl (lv_room (Nat.le_of_ble_eq_true rfl)) dX8_readOneOf_25 ⟨Nat.le_of_ble_eq_true rfl, Nat.le_of_ble_eq_true rfl⟩) (fun r39 hr39 => ?_)
                                    obtain rfl : 21 = r39 := hr39.symm
                                    refine lv_icmp_ge (tgt := 77) hx hb dX8_readOneOf_28 (by decide) (fun c40 => ?_) (fun c40 => ?_)
                                    · exact absurd c40 (by decide)
                                    · skip
                                      refine lv_aload_n hx hb dX8_readOneOf_31 rfl (lv_at hl 5 rfl) ?_
                                      refine lv_iload hx hb dX8_readOneOf_32 (lv_at hl 0 rfl) ?_
                                      refine vp_callSi (W.runV (As := [.int 8]) (rest := []) ⟨hx, hb, hml, hown, ht⟩ (c_J0_charAt_5068e_0 l dC dI ak av 8 ⟨by decide, by decide⟩) (kV 1 ht m_715 m_716 m_717 m_91 m_718 rfl rfl hd_J0_charAt_5068e_v ⟨Nat.le_of_ble_eq_true rfl, Nat.le_of_ble_eq_true rfl⟩) (vRZ noP (hK.sub (tys' := []) [] rfl) ((hZ.kept hS.2.1).narrow (fun _ h => h.elim)) (vk_recv hZ.1.2.2.2.2.2 (i := 0) (by decide) hS)) rfl rfl hl.1 rfl (lv_room (Nat.le_of_ble_eq_true rfl)) dX8_readOneOf_34 ⟨Nat.le_of_ble_eq_true rfl, Nat.le_of_ble_eq_true rfl⟩) (fun r41 hr41 => ?_)
                                      obtain rfl : 32 = r41 := (hr41.trans (by decide)).symm
                                      refine lv_bipush (v := 32) hx hb dX8_readOneOf_37 (by decide) ?_
                                      refine lv_icmp_ne (tgt := 71) hx hb dX8_readOneOf_39 (by decide) (fun c42 => ?_) (fun c42 => ?_)
                                      · exact absurd rfl c42
                                      · skip
                                        refine lv_aload_n hx hb dX8_readOneOf_42 rfl (lv_at hl 4 rfl) ?_
                                        refine lv_aload_n hx hb dX8_readOneOf_43 rfl (lv_at hl 5 rfl) ?_
                                        refine lv_iload hx hb dX8_readOneOf_44 (lv_at hl 1 rfl) ?_
                                        refine lv_iload hx hb dX8_readOneOf_46 (lv_at hl 0 rfl) ?_
                                        refine lv_iload_n hx hb dX8_readOneOf_48 rfl (lv_at hl 3 rfl) ?_
                                        refine vp_callSi (W.runV (As := [.ref (ak 0), .int 4, .int 8, .int r3]) (rest := []) ⟨hx, hb, hml, hown, ht⟩ (c_X8_isSame_0 l dC dI ak av h g ca (u2 iv 8 5 n2) lv fa la (IX_i (c := 8) (k := 5) hI (show inb (0, 200) n2 from ⟨by omega, by omega⟩)) 4 8 r3 ⟨by decide, by decide⟩ ⟨by decide, by decide⟩ ⟨by omega, by omega⟩) (kV 4 ht m_753 m_755 m_20 m_82 m_756 rfl rfl hd_X8_isSame_v ⟨Nat.le_of_ble_eq_true rfl, Nat.le_of_ble_eq_true rfl⟩) (vRZ hP hK ((hZ.kept hS.2.1).narrow (fun _ h => h.elim)) (rX_8 hK hP)) rfl rfl hl.1 rfl (lv_room (Nat.le_of_ble_eq_true rfl)) dX8_readOneOf_49 ⟨Nat.le_of_ble_eq_true rfl, Nat.le_of_ble_eq_true rfl⟩) (fun r43 hr43 => ?_)
                                        refine lv_if_eq (tgt := 62) hx hb dX8_readOneOf_52 (by decide) (fun c44 => ?_) (fun c44 => ?_)
                                        · have fc44 := z_eq (rfl : (r43).toInt = _) (by decide : (0 : Int32).toInt = 0) c44
                                          refine lv_iinc (v := 2) (lv' := [(3, .int 2), (5, .int 8), (4, .int 4), (2, .int r3), (0, .ref (g 11 4)), (1, .ref (ak 0))]) hx hb dX8_readOneOf_62 hl (k := 2) rfl (by decide) (by decide) rfl (fun ls hl => ?_)
                                          refine lv_iload hx hb dX8_readOneOf_65 (lv_at hl 1 rfl) ?_
                                          refine lv_iconst (v := 1) hx hb dX8_readOneOf_67 (by decide) ?_
                                          refine lv_iadd hx hb dX8_readOneOf_68 ?_
                                          refine lv_topi (fun v45 ev45 => ?_)
                                          obtain rfl : 9 = v45 := (ev45.trans (by decide)).symm
                                          refine lv_istore (lv' := [(4, .int 9), (3, .int 2), (5, .int 8), (2, .int r3), (0, .ref (g 11 4)), (1, .ref (ak 0))]) hx hb dX8_readOneOf_69 hl (by decide) rfl (fun ls hl => ?_)
                                          refine lv_iinc (v := 9) (lv' := [(5, .int 9), (4, .int 9), (3, .int 2), (2, .int r3), (0, .ref (g 11 4)), (1, .ref (ak 0))]) hx hb dX8_readOneOf_71 hl (k := 2) rfl (by decide) (by decide) rfl (fun ls hl => ?_)
                                          refine lv_goto (tgt := 22) hx hb dX8_readOneOf_74 (by decide) ?_
                                          refine lv_iload hx hb dX8_readOneOf_22 (lv_at hl 0 rfl) ?_
                                          refine lv_aload_n hx hb dX8_readOneOf_24 rfl (lv_at hl 5 rfl) ?_
                                          refine vp_callSi (W.runV (As := []) (rest := [.int 9]) ⟨hx, hb, hml, hown, ht⟩ (c_J0_length_8abf5_0 l dC dI ak av) (kV 0 ht m_705 m_706 m_707 m_91 m_708 rfl rfl hd_J0_length_8abf5_v ⟨Nat.le_of_ble_eq_true rfl, Nat.le_of_ble_eq_true rfl⟩) (vRZ noP (hK.sub (tys' := []) [] rfl) ((hZ.kept hS.2.1).narrow (fun _ h => h.elim)) (vk_recv hZ.1.2.2.2.2.2 (i := 0) (by decide) hS)) rfl rfl hl.1 rfl (lv_room (Nat.le_of_ble_eq_true rfl)) dX8_readOneOf_25 ⟨Nat.le_of_ble_eq_true rfl, Nat.le_of_ble_eq_true rfl⟩) (fun r46 hr46 => ?_)
                                          obtain rfl : 21 = r46 := hr46.symm
                                          refine lv_icmp_ge (tgt := 77) hx hb dX8_readOneOf_28 (by decide) (fun c47 => ?_) (fun c47 => ?_)
                                          · exact absurd c47 (by decide)
                                          · skip
                                            refine lv_aload_n hx hb dX8_readOneOf_31 rfl (lv_at hl 5 rfl) ?_
                                            refine lv_iload hx hb dX8_readOneOf_32 (lv_at hl 0 rfl) ?_
                                            refine vp_callSi (W.runV (As := [.int 9]) (rest := []) ⟨hx, hb, hml, hown, ht⟩ (c_J0_charAt_5068e_0 l dC dI ak av 9 ⟨by decide, by decide⟩) (kV 1 ht m_715 m_716 m_717 m_91 m_718 rfl rfl hd_J0_charAt_5068e_v ⟨Nat.le_of_ble_eq_true rfl, Nat.le_of_ble_eq_true rfl⟩) (vRZ noP (hK.sub (tys' := []) [] rfl) ((hZ.kept hS.2.1).narrow (fun _ h => h.elim)) (vk_recv hZ.1.2.2.2.2.2 (i := 0) (by decide) hS)) rfl rfl hl.1 rfl (lv_room (Nat.le_of_ble_eq_true rfl)) dX8_readOneOf_34 ⟨Nat.le_of_ble_eq_true rfl, Nat.le_of_ble_eq_true rfl⟩) (fun r48 hr48 => ?_)
                                            obtain rfl : 110 = r48 := (hr48.trans (by decide)).symm
                                            refine lv_bipush (v := 32) hx hb dX8_readOneOf_37 (by decide) ?_
                                            refine lv_icmp_ne (tgt := 71) hx hb dX8_readOneOf_39 (by decide) (fun c49 => ?_) (fun c49 => ?_)
                                            · skip
                                              refine lv_iinc (v := 10) (lv' := [(5, .int 10), (4, .int 9), (3, .int 2), (2, .int r3), (0, .ref (g 11 4)), (1, .ref (ak 0))]) hx hb dX8_readOneOf_71 hl (k := 0) rfl (by decide) (by decide) rfl (fun ls hl => ?_)
                                              refine lv_goto (tgt := 22) hx hb dX8_readOneOf_74 (by decide) ?_
                                              refine lv_iload hx hb dX8_readOneOf_22 (lv_at hl 0 rfl) ?_
                                              refine lv_aload_n hx hb dX8_readOneOf_24 rfl (lv_at hl 5 rfl) ?_
                                              refine vp_callSi (W.runV (As := []) (rest := [.int 10]) ⟨hx, hb, hml, hown, ht⟩ (c_J0_length_8abf5_0 l dC dI ak av) (kV 0 ht m_705 m_706 m_707 m_91 m_708 rfl rfl hd_J0_length_8abf5_v ⟨Nat.le_of_ble_eq_true rfl, Nat.le_of_ble_eq_true rfl⟩) (vRZ noP (hK.sub (tys' := []) [] rfl) ((hZ.kept hS.2.1).narrow (fun _ h => h.elim)) (vk_recv hZ.1.2.2.2.2.2 (i := 0) (by decide) hS)) rfl rfl hl.1 rfl (lv_room (Nat.le_of_ble_eq_true rfl)) dX8_readOneOf_25 ⟨Nat.le_of_ble_eq_true rfl, Nat.le_of_ble_eq_true rfl⟩) (fun r50 hr50 => ?_)
                                              obtain rfl : 21 = r50 := hr50.symm
                                              refine lv_icmp_ge (tgt := 77) hx hb dX8_readOneOf_28 (by decide) (fun c51 => ?_) (fun c51 => ?_)
                                              · exact absurd c51 (by decide)
                                              · skip
                                                refine lv_aload_n hx hb dX8_readOneOf_31 rfl (lv_at hl 5 rfl) ?_
                                                refine lv_iload hx hb dX8_readOneOf_32 (lv_at hl 0 rfl) ?_
                                                refine vp_callSi (W.runV (As := [.int 10]) (rest := []) ⟨hx, hb, hml, hown, ht⟩ (c_J0_charAt_5068e_0 l dC dI ak av 10 ⟨by decide, by decide⟩) (kV 1 ht m_715 m_716 m_717 m_91 m_718 rfl rfl hd_J0_charAt_5068e_v ⟨Nat.le_of_ble_eq_true rfl, Nat.le_of_ble_eq_true rfl⟩) (vRZ noP (hK.sub (tys' := []) [] rfl) ((hZ.kept hS.2.1).narrow (fun _ h => h.elim)) (vk_recv hZ.1.2.2.2.2.2 (i := 0) (by decide) hS)) rfl rfl hl.1 rfl (lv_room (Nat.le_of_ble_eq_true rfl)) dX8_readOneOf_34 ⟨Nat.le_of_ble_eq_true rfl, Nat.le_of_ble_eq_true rfl⟩) (fun r52 hr52 => ?_)
                                                obtain rfl : 97 = r52 := (hr52.trans (by decide)).symm
                                                refine lv_bipush (v := 32) hx hb dX8_readOneOf_37 (by decide) ?_
                                                refine lv_icmp_ne (tgt := 71) hx hb dX8_readOneOf_39 (by decide) (fun c53 => ?_) (fun c53 => ?_)
                                                · skip
                                                  refine lv_iinc (v := 11) (lv' := [(5, .int 11), (4, .int 9), (3, .int 2), (2, .int r3), (0, .ref (g 11 4)), (1, .ref (ak 0))]) hx hb dX8_readOneOf_71 hl (k := 0) rfl (by decide) (by decide) rfl (fun ls hl => ?_)
                                                  refine lv_goto (tgt := 22) hx hb dX8_readOneOf_74 (by decide) ?_
                                                  refine lv_iload hx hb dX8_readOneOf_22 (lv_at hl 0 rfl) ?_
                                                  refine lv_aload_n hx hb dX8_readOneOf_24 rfl (lv_at hl 5 rfl) ?_
                                                  refine vp_callSi (W.runV (As := []) (rest := [.int 11]) ⟨hx, hb, hml, hown, ht⟩ (c_J0_length_8abf5_0 l dC dI ak av) (kV 0 ht m_705 m_706 m_707 m_91 m_708 rfl rfl hd_J0_length_8abf5_v ⟨Nat.le_of_ble_eq_true rfl, Nat.le_of_ble_eq_true rfl⟩) (vRZ noP (hK.sub (tys' := []) [] rfl) ((hZ.kept hS.2.1).narrow (fun _ h => h.elim)) (vk_recv hZ.1.2.2.2.2.2 (i := 0) (by decide) hS)) rfl rfl hl.1 rfl (lv_room (Nat.le_of_ble_eq_true rfl)) dX8_readOneOf_25 ⟨Nat.le_of_ble_eq_true rfl, Nat.le_of_ble_eq_true rfl⟩) (fun r54 hr54 => ?_)
                                                  obtain rfl : 21 = r54 := hr54.symm
                                                  refine lv_icmp_ge (tgt := 77) hx hb dX8_readOneOf_28 (by decide) (fun c55 => ?_) (fun c55 => ?_)
                                                  · exact absurd c55 (by decide)
                                                  · skip
                                                    refine lv_aload_n hx hb dX8_readOneOf_31 rfl (lv_at hl 5 rfl) ?_
                                                    refine lv_iload hx hb dX8_readOneOf_32 (lv_at hl 0 rfl) ?_
                                                    refine vp_callSi (W.runV (As := [.int 11]) (rest := []) ⟨hx, hb, hml, hown, ht⟩ (c_J0_charAt_5068e_0 l dC dI ak av 11 ⟨by decide, by decide⟩) (kV 1 ht m_715 m_716 m_717 m_91 m_718 rfl rfl hd_J0_charAt_5068e_v ⟨Nat.le_of_ble_eq_true rfl, Nat.le_of_ble_eq_true rfl⟩) (vRZ noP (hK.sub (tys' := []) [] rfl) ((hZ.kept hS.2.1).narrow (fun _ h => h.elim)) (vk_recv hZ.1.2.2.2.2.2 (i := 0) (by decide) hS)) rfl rfl hl.1 rfl (lv_room (Nat.le_of_ble_eq_true rfl)) dX8_readOneOf_34 ⟨Nat.le_of_ble_eq_true rfl, Nat.le_of_ble_eq_true rfl⟩) (fun r56 hr56 => ?_)
                                                    obtain rfl : 109 = r56 := (hr56.trans (by decide)).symm
                                                    refine lv_bipush (v := 32) hx hb dX8_readOneOf_37 (by decide) ?_
                                                    refine lv_icmp_ne (tgt := 71) hx hb dX8_readOneOf_39 (by decide) (fun c57 => ?_) (fun c57 => ?_)
                                                    · skip
                                                      refine lv_iinc (v := 12) (lv' := [(5, .int 12), (4, .int 9), (3, .int 2), (2, .int r3), (0, .ref (g 11 4)), (1, .ref (ak 0))]) hx hb dX8_readOneOf_71 hl (k := 0) rfl (by decide) (by decide) rfl (fun ls hl => ?_)
                                                      refine lv_goto (tgt := 22) hx hb dX8_readOneOf_74 (by decide) ?_
                                                      refine lv_iload hx hb dX8_readOneOf_22 (lv_at hl 0 rfl) ?_
                                                      refine lv_aload_n hx hb dX8_readOneOf_24 rfl (lv_at hl 5 rfl) ?_
                                                      refine vp_callSi (W.runV (As := []) (rest := [.int 12]) ⟨hx, hb, hml, hown, ht⟩ (c_J0_length_8abf5_0 l dC dI ak av) (kV 0 ht m_705 m_706 m_707 m_91 m_708 rfl rfl hd_J0_length_8abf5_v ⟨Nat.le_of_ble_eq_true rfl, Nat.le_of_ble_eq_true rfl⟩) (vRZ noP (hK.sub (tys' := []) [] rfl) ((hZ.kept hS.2.1).narrow (fun _ h => h.elim)) (vk_recv hZ.1.2.2.2.2.2 (i := 0) (by decide) hS)) rfl rfl hl.1 rfl (lv_room (Nat.le_of_ble_eq_true rfl)) dX8_readOneOf_25 ⟨Nat.le_of_ble_eq_true rfl, Nat.le_of_ble_eq_true rfl⟩) (fun r58 hr58 => ?_)
                                                      obtain rfl : 21 = r58 := hr58.symm
                                                      refine lv_icmp_ge (tgt := 77) hx hb dX8_readOneOf_28 (by decide) (fun c59 => ?_) (fun c59 => ?_)
                                                      · exact absurd c59 (by decide)
                                                      · skip
                                                        refine lv_aload_n hx hb dX8_readOneOf_31 rfl (lv_at hl 5 rfl) ?_
                                                        refine lv_iload hx hb dX8_readOneOf_32 (lv_at hl 0 rfl) ?_
                                                        refine vp_callSi (W.runV (As := [.int 12]) (rest := []) ⟨hx, hb, hml, hown, ht⟩ (c_J0_charAt_5068e_0 l dC dI ak av 12 ⟨by decide, by decide⟩) (kV 1 ht m_715 m_716 m_717 m_91 m_718 rfl rfl hd_J0_charAt_5068e_v ⟨Nat.le_of_ble_eq_true rfl, Nat.le_of_ble_eq_true rfl⟩) (vRZ noP (hK.sub (tys' := []) [] rfl) ((hZ.kept hS.2.1).narrow (fun _ h => h.elim)) (vk_recv hZ.1.2.2.2.2.2 (i := 0) (by decide) hS)) rfl rfl hl.1 rfl (lv_room (Nat.le_of_ble_eq_true rfl)) dX8_readOneOf_34 ⟨Nat.le_of_ble_eq_true rfl, Nat.le_of_ble_eq_true rfl⟩) (fun r60 hr60 => ?_)
                                                        obtain rfl : 101 = r60 := (hr60.trans (by decide)).symm
                                                        refine lv_bipush (v := 32) hx hb dX8_readOneOf_37 (by decide) ?_
                                                        refine lv_icmp_ne (tgt := 71) hx hb dX8_readOneOf_39 (by decide) (fun c61 => ?_) (fun c61 => ?_)
                                                        · skip
                                                          refine lv_iinc (v := 13) (lv' := [(5, .int 13), (4, .int 9), (3, .int 2), (2, .int r3), (0, .ref (g 11 4)), (1, .ref (ak 0))]) hx hb dX8_readOneOf_71 hl (k := 0) rfl (by decide) (by decide) rfl (fun ls hl => ?_)
                                                          refine lv_goto (tgt := 22) hx hb dX8_readOneOf_74 (by decide) ?_
                                                          refine lv_iload hx hb dX8_readOneOf_22 (lv_at hl 0 rfl) ?_
                                                          refine lv_aload_n hx hb dX8_readOneOf_24 rfl (lv_at hl 5 rfl) ?_
                                                          refine vp_callSi (W.runV (As := []) (rest := [.int 13]) ⟨hx, hb, hml, hown, ht⟩ (c_J0_length_8abf5_0 l dC dI ak av) (kV 0 ht m_705 m_706 m_707 m_91 m_708 rfl rfl hd_J0_length_8abf5_v ⟨Nat.le_of_ble_eq_true rfl, Nat.le_of_ble_eq_true rfl⟩) (vRZ noP (hK.sub (tys' := []) [] rfl) ((hZ.kept hS.2.1).narrow (fun _ h => h.elim)) (vk_recv hZ.1.2.2.2.2.2 (i := 0) (by decide) hS)) rfl rfl hl.1 rfl (lv_room (Nat.le_of_ble_eq_true rfl)) dX8_readOneOf_25 ⟨Nat.le_of_ble_eq_true rfl, Nat.le_of_ble_eq_true rfl⟩) (fun r62 hr62 => ?_)
                                                          obtain rfl : 21 = r62 := hr62.symm
                                                          refine lv_icmp_ge (tgt := 77) hx hb dX8_readOneOf_28 (by decide) (fun c63 => ?_) (fun c63 => ?_)
                                                          · exact absurd c63 (by decide)
                                                          · skip
                                                            refine lv_aload_n hx hb dX8_readOneOf_31 rfl (lv_at hl 5 rfl) ?_
                                                            refine lv_iload hx hb dX8_readOneOf_32 (lv_at hl 0 rfl) ?_
                                                            refine vp_callSi (W.runV (As := [.int 13]) (rest := []) ⟨hx, hb, hml, hown, ht⟩ (c_J0_charAt_5068e_0 l dC dI ak av 13 ⟨by decide, by decide⟩) (kV 1 ht m_715 m_716 m_717 m_91 m_718 rfl rfl hd_J0_charAt_5068e_v ⟨Nat.le_of_ble_eq_true rfl, Nat.le_of_ble_eq_true rfl⟩) (vRZ noP (hK.sub (tys' := []) [] rfl) ((hZ.kept hS.2.1).narrow (fun _ h => h.elim)) (vk_recv hZ.1.2.2.2.2.2 (i := 0) (by decide) hS)) rfl rfl hl.1 rfl (lv_room (Nat.le_of_ble_eq_true rfl)) dX8_readOneOf_34 ⟨Nat.le_of_ble_eq_true rfl, Nat.le_of_ble_eq_true rfl⟩) (fun r64 hr64 => ?_)
                                                            obtain rfl : 32 = r64 := (hr64.trans (by decide)).symm
                                                            refine lv_bipush (v := 32) hx hb dX8_readOneOf_37 (by decide) ?_
                                                            refine lv_icmp_ne (tgt := 71) hx hb dX8_readOneOf_39 (by decide) (fun c65 => ?_) (fun c65 => ?_)
                                                            · exact absurd rfl c65
                                                            · skip
                                                              refine lv_aload_n hx hb dX8_readOneOf_42 rfl (lv_at hl 4 rfl) ?_
                                                              refine lv_aload_n hx hb dX8_readOneOf_43 rfl (lv_at hl 5 rfl) ?_
                                                              refine lv_iload hx hb dX8_readOneOf_44 (lv_at hl 1 rfl) ?_
                                                              refine lv_iload hx hb dX8_readOneOf_46 (lv_at hl 0 rfl) ?_
                                                              refine lv_iload_n hx hb dX8_readOneOf_48 rfl (lv_at hl 3 rfl) ?_
                                                              refine vp_callSi (W.runV (As := [.ref (ak 0), .int 9, .int 13, .int r3]) (rest := []) ⟨hx, hb, hml, hown, ht⟩ (c_X8_isSame_0 l dC dI ak av h g ca (u2 iv 8 5 n2) lv fa la (IX_i (c := 8) (k := 5) hI (show inb (0, 200) n2 from ⟨by omega, by omega⟩)) 9 13 r3 ⟨by decide, by decide⟩ ⟨by decide, by decide⟩ ⟨by omega, by omega⟩) (kV 4 ht m_753 m_755 m_20 m_82 m_756 rfl rfl hd_X8_isSame_v ⟨Nat.le_of_ble_eq_true rfl, Nat.le_of_ble_eq_true rfl⟩) (vRZ hP hK ((hZ.kept hS.2.1).narrow (fun _ h => h.elim)) (rX_8 hK hP)) rfl rfl hl.1 rfl (lv_room (Nat.le_of_ble_eq_true rfl)) dX8_readOneOf_49 ⟨Nat.le_of_ble_eq_true rfl, Nat.le_of_ble_eq_true rfl⟩) (fun r66 hr66 => ?_)
                                                              refine lv_if_eq (tgt := 62) hx hb dX8_readOneOf_52 (by decide) (fun c67 => ?_) (fun c67 => ?_)
                                                              · have fc67 := z_eq (rfl : (r66).toInt = _) (by decide : (0 : Int32).toInt = 0) c67
                                                                refine lv_iinc (v := 3) (lv' := [(3, .int 3), (5, .int 13), (4, .int 9), (2, .int r3), (0, .ref (g 11 4)), (1, .ref (ak 0))]) hx hb dX8_readOneOf_62 hl (k := 2) rfl (by decide) (by decide) rfl (fun ls hl => ?_)
                                                                refine lv_iload hx hb dX8_readOneOf_65 (lv_at hl 1 rfl) ?_
                                                                refine lv_iconst (v := 1) hx hb dX8_readOneOf_67 (by decide) ?_
                                                                refine lv_iadd hx hb dX8_readOneOf_68 ?_
                                                                refine lv_topi (fun v68 ev68 => ?_)
                                                                obtain rfl : 14 = v68 := (ev68.trans (by decide)).symm
                                                                refine lv_istore (lv' := [(4, .int 14), (3, .int 3), (5, .int 13), (2, .int r3), (0, .ref (g 11 4)), (1, .ref (ak 0))]) hx hb dX8_readOneOf_69 hl (by decide) rfl (fun ls hl => ?_)
                                                                refine lv_iinc (v := 14) (lv' := [(5, .int 14), (4, .int 14), (3, .int 3), (2, .int r3), (0, .ref (g 11 4)), (1, .ref (ak 0))]) hx hb dX8_readOneOf_71 hl (k := 2) rfl (by decide) (by decide) rfl (fun ls hl => ?_)
                                                                refine lv_goto (tgt := 22) hx hb dX8_readOneOf_74 (by decide) ?_
                                                                refine lv_iload hx hb dX8_readOneOf_22 (lv_at hl 0 rfl) ?_
                                                                refine lv_aload_n hx hb dX8_readOneOf_24 rfl (lv_at hl 5 rfl) ?_
                                                                refine vp_callSi (W.runV (As := []) (rest := [.int 14]) ⟨hx, hb, hml, hown, ht⟩ (c_J0_length_8abf5_0 l dC dI ak av) (kV 0 ht m_705 m_706 m_707 m_91 m_708 rfl rfl hd_J0_length_8abf5_v ⟨Nat.le_of_ble_eq_true rfl, Nat.le_of_ble_eq_true rfl⟩) (vRZ noP (hK.sub (tys' := []) [] rfl) ((hZ.kept hS.2.1).narrow (fun _ h => h.elim)) (vk_recv hZ.1.2.2.2.2.2 (i := 0) (by decide) hS)) rfl rfl hl.1 rfl (lv_room (Nat.le_of_ble_eq_true rfl)) dX8_readOneOf_25 ⟨Nat.le_of_ble_eq_true rfl, Nat.le_of_ble_eq_true rfl⟩) (fun r69 hr69 => ?_)
                                                                obtain rfl : 21 = r69 := hr69.symm
                                                                refine lv_icmp_ge (tgt := 77) hx hb dX8_readOneOf_28 (by decide) (fun c70 => ?_) (fun c70 => ?_)
                                                                · exact absurd c70 (by decide)
                                                                · skip
                                                                  refine lv_aload_n hx hb dX8_readOneOf_31 rfl (lv_at hl 5 rfl) ?_
                                                                  refine lv_iload hx hb dX8_readOneOf_32 (lv_at hl 0 rfl) ?_
                                                                  refine vp_callSi (W.runV (As := [.int 14]) (rest := []) ⟨hx, hb, hml, hown, ht⟩ (c_J0_charAt_5068e_0 l dC dI ak av 14 ⟨by decide, by decide⟩) (kV 1 ht m_715 m_716 m_717 m_91 m_718 rfl rfl hd_J0_charAt_5068e_v ⟨Nat.le_of_ble_eq_true rfl, Nat.le_of_ble_eq_true rfl⟩) (vRZ noP (hK.sub (tys' := []) [] rfl) ((hZ.kept hS.2.1).narrow (fun _ h => h.elim)) (vk_recv hZ.1.2.2.2.2.2 (i := 0) (by decide) hS)) rfl rfl hl.1 rfl (lv_room (Nat.le_of_ble_eq_true rfl)) dX8_readOneOf_34 ⟨Nat.le_of_ble_eq_true rfl, Nat.le_of_ble_eq_true rfl⟩) (fun r71 hr71 => ?_)
                                                                  obtain rfl : 115 = r71 := (hr71.trans (by decide)).symm
                                                                  refine lv_bipush (v := 32) hx hb dX8_readOneOf_37 (by decide) ?_
                                                                  refine lv_icmp_ne (tgt := 71) hx hb dX8_readOneOf_39 (by decide) (fun c72 => ?_) (fun c72 => ?_)
                                                                  · skip
                                                                    refine lv_iinc (v := 15) (lv' := [(5, .int 15), (4, .int 14), (3, .int 3), (2, .int r3), (0, .ref (g 11 4)), (1, .ref (ak 0))]) hx hb dX8_readOneOf_71 hl (k := 0) rfl (by decide) (by decide) rfl (fun ls hl => ?_)
                                                                    refine lv_goto (tgt := 22) hx hb dX8_readOneOf_74 (by decide) ?_
                                                                    refine lv_iload hx hb dX8_readOneOf_22 (lv_at hl 0 rfl) ?_
                                                                    refine lv_aload_n hx hb dX8_readOneOf_24 rfl (lv_at hl 5 rfl) ?_
                                                                    refine vp_callSi (W.runV (As := []) (rest := [.int 15]) ⟨hx, hb, hml, hown, ht⟩ (c_J0_length_8abf5_0 l dC dI ak av) (kV 0 ht m_705 m_706 m_707 m_91 m_708 rfl rfl hd_J0_length_8abf5_v ⟨Nat.le_of_ble_eq_true rfl, Nat.le_of_ble_eq_true rfl⟩) (vRZ noP (hK.sub (tys' := []) [] rfl) ((hZ.kept hS.2.1).narrow (fun _ h => h.elim)) (vk_recv hZ.1.2.2.2.2.2 (i := 0) (by decide) hS)) rfl rfl hl.1 rfl (lv_room (Nat.le_of_ble_eq_true rfl)) dX8_readOneOf_25 ⟨Nat.le_of_ble_eq_true rfl, Nat.le_of_ble_eq_true rfl⟩) (fun r73 hr73 => ?_)
                                                                    obtain rfl : 21 = r73 := hr73.symm
                                                                    refine lv_icmp_ge (tgt := 77) hx hb dX8_readOneOf_28 (by decide) (fun c74 => ?_) (fun c74 => ?_)
                                                                    · exact absurd c74 (by decide)
                                                                    · skip
                                                                      refine lv_aload_n hx hb dX8_readOneOf_31 rfl (lv_at hl 5 rfl) ?_
                                                                      refine lv_iload hx hb dX8_readOneOf_32 (lv_at hl 0 rfl) ?_
                                                                      refine vp_callSi (W.runV (As := [.int 15]) (rest := []) ⟨hx, hb, hml, hown, ht⟩ (c_J0_charAt_5068e_0 l dC dI ak av 15 ⟨by decide, by decide⟩) (kV 1 ht m_715 m_716 m_717 m_91 m_718 rfl rfl hd_J0_charAt_5068e_v ⟨Nat.le_of_ble_eq_true rfl, Nat.le_of_ble_eq_true rfl⟩) (vRZ noP (hK.sub (tys' := []) [] rfl) ((hZ.kept hS.2.1).narrow (fun _ h => h.elim)) (vk_recv hZ.1.2.2.2.2.2 (i := 0) (by decide) hS)) rfl rfl hl.1 rfl (lv_room (Nat.le_of_ble_eq_true rfl)) dX8_readOneOf_34 ⟨Nat.le_of_ble_eq_true rfl, Nat.le_of_ble_eq_true rfl⟩) (fun r75 hr75 => ?_)
                                                                      obtain rfl : 116 = r75 := (hr75.trans (by decide)).symm
                                                                      refine lv_bipush (v := 32) hx hb dX8_readOneOf_37 (by decide) ?_
                                                                      refine lv_icmp_ne (tgt := 71) hx hb dX8_readOneOf_39 (by decide) (fun c76 => ?_) (fun c76 => ?_)
                                                                      · skip
                                                                        refine lv_iinc (v := 16) (lv' := [(5, .int 16), (4, .int 14), (3, .int 3), (2, .int r3), (0, .ref (g 11 4)), (1, .ref (ak 0))]) hx hb dX8_readOneOf_71 hl (k := 0) rfl (by decide) (by decide) rfl (fun ls hl => ?_)
                                                                        refine lv_goto (tgt := 22) hx hb dX8_readOneOf_74 (by decide) ?_
                                                                        refine lv_iload hx hb dX8_readOneOf_22 (lv_at hl 0 rfl) ?_
                                                                        refine lv_aload_n hx hb dX8_readOneOf_24 rfl (lv_at hl 5 rfl) ?_
                                                                        refine vp_callSi (W.runV (As := []) (rest := [.int 16]) ⟨hx, hb, hml, hown, ht⟩ (c_J0_length_8abf5_0 l dC dI ak av) (kV 0 ht m_705 m_706 m_707 m_91 m_708 rfl rfl hd_J0_length_8abf5_v ⟨Nat.le_of_ble_eq_true rfl, Nat.le_of_ble_eq_true rfl⟩) (vRZ noP (hK.sub (tys' := []) [] rfl) ((hZ.kept hS.2.1).narrow (fun _ h => h.elim)) (vk_recv hZ.1.2.2.2.2.2 (i := 0) (by decide) hS)) rfl rfl hl.1 rfl (lv_room (Nat.le_of_ble_eq_true rfl)) dX8_readOneOf_25 ⟨Nat.le_of_ble_eq_true rfl, Nat.le_of_ble_eq_true rfl⟩) (fun r77 hr77 => ?_)
                                                                        obtain rfl : 21 = r77 := hr77.symm
                                                                        refine lv_icmp_ge (tgt := 77) hx hb dX8_readOneOf_28 (by decide) (fun c78 => ?_) (fun c78 => ?_)
                                                                        · exact absurd c78 (by decide)
                                                                        · skip
                                                                          refine lv_aload_n hx hb dX8_readOneOf_31 rfl (lv_at hl 5 rfl) ?_
                                                                          refine lv_iload hx hb dX8_readOneOf_32 (lv_at hl 0 rfl) ?_
                                                                          refine vp_callSi (W.runV (As := [.int 16]) (rest := []) ⟨hx, hb, hml, hown, ht⟩ (c_J0_charAt_5068e_0 l dC dI ak av 16 ⟨by decide, by decide⟩) (kV 1 ht m_715 m_716 m_717 m_91 m_718 rfl rfl hd_J0_charAt_5068e_v ⟨Nat.le_of_ble_eq_true rfl, Nat.le_of_ble_eq_true rfl⟩) (vRZ noP (hK.sub (tys' := []) [] rfl) ((hZ.kept hS.2.1).narrow (fun _ h => h.elim)) (vk_recv hZ.1.2.2.2.2.2 (i := 0) (by decide) hS)) rfl rfl hl.1 rfl (lv_room (Nat.le_of_ble_eq_true rfl)) dX8_readOneOf_34 ⟨Nat.le_of_ble_eq_true rfl, Nat.le_of_ble_eq_true rfl⟩) (fun r79 hr79 => ?_)
                                                                          obtain rfl : 114 = r79 := (hr79.trans (by decide)).symm
                                                                          refine lv_bipush (v := 32) hx hb dX8_readOneOf_37 (by decide) ?_
                                                                          refine lv_icmp_ne (tgt := 71) hx hb dX8_readOneOf_39 (by decide) (fun c80 => ?_) (fun c80 => ?_)
                                                                          · skip
                                                                            refine lv_iinc (v := 17) (lv' := [(5, .int 17), (4, .int 14), (3, .int 3), (2, .int r3), (0, .ref (g 11 4)), (1, .ref (ak 0))]) hx hb dX8_readOneOf_71 hl (k := 0) rfl (by decide) (by decide) rfl (fun ls hl => ?_)
                                                                            refine lv_goto (tgt := 22) hx hb dX8_readOneOf_74 (by decide) ?_
                                                                            refine lv_iload hx hb dX8_readOneOf_22 (lv_at hl 0 rfl) ?_
                                                                            refine lv_aload_n hx hb dX8_readOneOf_24 rfl (lv_at hl 5 rfl) ?_
                                                                            refine vp_callSi (W.runV (As := []) (rest := [.int 17]) ⟨hx, hb, hml, hown, ht⟩ (c_J0_length_8abf5_0 l dC dI ak av) (kV 0 ht m_705 m_706 m_707 m_91 m_708 rfl rfl hd_J0_length_8abf5_v ⟨Nat.le_of_ble_eq_true rfl, Nat.le_of_ble_eq_true rfl⟩) (vRZ noP (hK.sub (tys' := []) [] rfl) ((hZ.kept hS.2.1).narrow (fun _ h => h.elim)) (vk_recv hZ.1.2.2.2.2.2 (i := 0) (by decide) hS)) rfl rfl hl.1 rfl (lv_room (Nat.le_of_ble_eq_true rfl)) dX8_readOneOf_25 ⟨Nat.le_of_ble_eq_true rfl, Nat.le_of_ble_eq_true rfl⟩) (fun r81 hr81 => ?_)
                                                                            obtain rfl : 21 = r81 := hr81.symm
                                                                            refine lv_icmp_ge (tgt := 77) hx hb dX8_readOneOf_28 (by decide) (fun c82 => ?_) (fun c82 => ?_)
                                                                            · exact absurd c82 (by decide)
                                                                            · skip
                                                                              refine lv_aload_n hx hb dX8_readOneOf_31 rfl (lv_at hl 5 rfl) ?_
                                                                              refine lv_iload hx hb dX8_readOneOf_32 (lv_at hl 0 rfl) ?_
                                                                              refine vp_callSi (W.runV (As := [.int 17]) (rest := []) ⟨hx, hb, hml, hown, ht⟩ (c_J0_charAt_5068e_0 l dC dI ak av 17 ⟨by decide, by decide⟩) (kV 1 ht m_715 m_716 m_717 m_91 m_718 rfl rfl hd_J0_charAt_5068e_v ⟨Nat.le_of_ble_eq_true rfl, Nat.le_of_ble_eq_true rfl⟩) (vRZ noP (hK.sub (tys' := []) [] rfl) ((hZ.kept hS.2.1).narrow (fun _ h => h.elim)) (vk_recv hZ.1.2.2.2.2.2 (i := 0) (by decide) hS)) rfl rfl hl.1 rfl (lv_room (Nat.le_of_ble_eq_true rfl)) dX8_readOneOf_34 ⟨Nat.le_of_ble_eq_true rfl, Nat.le_of_ble_eq_true rfl⟩) (fun r83 hr83 => ?_)
                                                                              obtain rfl : 105 = r83 := (hr83.trans (by decide)).symm
                                                                              refine lv_bipush (v := 32) hx hb dX8_readOneOf_37 (by decide) ?_
                                                                              refine lv_icmp_ne (tgt := 71) hx hb dX8_readOneOf_39 (by decide) (fun c84 => ?_) (fun c84 => ?_)
                                                                              · skip
                                                                                refine lv_iinc (v := 18) (lv' := [(5, .int 18), (4, .int 14), (3, .int 3), (2, .int r3), (0, .ref (g 11 4)), (1, .ref (ak 0))]) hx hb dX8_readOneOf_71 hl (k := 0) rfl (by decide) (by decide) rfl (fun ls hl => ?_)
                                                                                refine lv_goto (tgt := 22) hx hb dX8_readOneOf_74 (by decide) ?_
                                                                                refine lv_iload hx hb dX8_readOneOf_22 (lv_at hl 0 rfl) ?_
                                                                                refine lv_aload_n hx hb dX8_readOneOf_24 rfl (lv_at hl 5 rfl) ?_
                                                                                refine vp_callSi (W.runV (As := []) (rest := [.int 18]) ⟨hx, hb, hml, hown, ht⟩ (c_J0_length_8abf5_0 l dC dI ak av) (kV 0 ht m_705 m_706 m_707 m_91 m_708 rfl rfl hd_J0_length_8abf5_v ⟨Nat.le_of_ble_eq_true rfl, Nat.le_of_ble_eq_true rfl⟩) (vRZ noP (hK.sub (tys' := []) [] rfl) ((hZ.kept hS.2.1).narrow (fun _ h => h.elim)) (vk_recv hZ.1.2.2.2.2.2 (i := 0) (by decide) hS)) rfl rfl hl.1 rfl (lv_room (Nat.le_of_ble_eq_true rfl)) dX8_readOneOf_25 ⟨Nat.le_of_ble_eq_true rfl, Nat.le_of_ble_eq_true rfl⟩) (fun r85 hr85 => ?_)
                                                                                obtain rfl : 21 = r85 := hr85.symm
                                                                                refine lv_icmp_ge (tgt := 77) hx hb dX8_readOneOf_28 (by decide) (fun c86 => ?_) (fun c86 => ?_)
                                                                                · exact absurd c86 (by decide)
                                                                                · skip
                                                                                  refine lv_aload_n hx hb dX8_readOneOf_31 rfl (lv_at hl 5 rfl) ?_
                                                                                  refine lv_iload hx hb dX8_readOneOf_32 (lv_at hl 0 rfl) ?_
                                                                                  refine vp_callSi (W.runV (As := [.int 18]) (rest := []) ⟨hx, hb, hml, hown, ht⟩ (c_J0_charAt_5068e_0 l dC dI ak av 18 ⟨by decide, by decide⟩) (kV 1 ht m_715 m_716 m_717 m_91 m_718 rfl rfl hd_J0_charAt_5068e_v ⟨Nat.le_of_ble_eq_true rfl, Nat.le_of_ble_eq_true rfl⟩) (vRZ noP (hK.sub (tys' := []) [] rfl) ((hZ.kept hS.2.1).narrow (fun _ h => h.elim)) (vk_recv hZ.1.2.2.2.2.2 (i := 0) (by decide) hS)) rfl rfl hl.1 rfl (lv_room (Nat.le_of_ble_eq_true rfl)) dX8_readOneOf_34 ⟨Nat.le_of_ble_eq_true rfl, Nat.le_of_ble_eq_true rfl⟩) (fun r87 hr87 => ?_)
                                                                                  obtain rfl : 107 = r87 := (hr87.trans (by decide)).symm
                                                                                  refine lv_bipush (v := 32) hx hb dX8_readOneOf_37 (by decide) ?_
                                                                                  refine lv_icmp_ne (tgt := 71) hx hb dX8_readOneOf_39 (by decide) (fun c88 => ?_) (fun c88 => ?_)
                                                                                  · skip
                                                                                    refine lv_iinc (v := 19) (lv' := [(5, .int 19), (4, .int 14), (3, .int 3), (2, .int r3), (0, .ref (g 11 4)), (1, .ref (ak 0))]) hx hb dX8_readOneOf_71 hl (k := 0) rfl (by decide) (by decide) rfl (fun ls hl => ?_)
                                                                                    refine lv_goto (tgt := 22) hx hb dX8_readOneOf_74 (by decide) ?_
                                                                                    refine lv_iload hx hb dX8_readOneOf_22 (lv_at hl 0 rfl) ?_
                                                                                    refine lv_aload_n hx hb dX8_readOneOf_24 rfl (lv_at hl 5 rfl) ?_
                                                                                    refine vp_callSi (W.runV (As := []) (rest := [.int 19]) ⟨hx, hb, hml, hown, ht⟩ (c_J0_length_8abf5_0 l dC dI ak av) (kV 0 ht m_705 m_706 m_707 m_91 m_708 rfl rfl hd_J0_length_8abf5_v ⟨Nat.le_of_ble_eq_true rfl, Nat.le_of_ble_eq_true rfl⟩) (vRZ noP (hK.sub (tys' := []) [] rfl) ((hZ.kept hS.2.1).narrow (fun _ h => h.elim)) (vk_recv hZ.1.2.2.2.2.2 (i := 0) (by decide) hS)) rfl rfl hl.1 rfl (lv_room (Nat.le_of_ble_eq_true rfl)) dX8_readOneOf_25 ⟨Nat.le_of_ble_eq_true rfl, Nat.le_of_ble_eq_true rfl⟩) (fun r89 hr89 => ?_)
                                                                                    obtain rfl : 21 = r89 := hr89.symm
                                                                                    refine lv_icmp_ge (tgt := 77) hx hb dX8_readOneOf_28 (by decide) (fun c90 => ?_) (fun c90 => ?_)
                                                                                    · exact absurd c90 (by decide)
                                                                                    · skip
                                                                                      refine lv_aload_n hx hb dX8_readOneOf_31 rfl (lv_at hl 5 rfl) ?_
                                                                                      refine lv_iload hx hb dX8_readOneOf_32 (lv_at hl 0 rfl) ?_
                                                                                      refine vp_callSi (W.runV (As := [.int 19]) (rest := []) ⟨hx, hb, hml, hown, ht⟩ (c_J0_charAt_5068e_0 l dC dI ak av 19 ⟨by decide, by decide⟩) (kV 1 ht m_715 m_716 m_717 m_91 m_718 rfl rfl hd_J0_charAt_5068e_v ⟨Nat.le_of_ble_eq_true rfl, Nat.le_of_ble_eq_true rfl⟩) (vRZ noP (hK.sub (tys' := []) [] rfl) ((hZ.kept hS.2.1).narrow (fun _ h => h.elim)) (vk_recv hZ.1.2.2.2.2.2 (i := 0) (by decide) hS)) rfl rfl hl.1 rfl (lv_room (Nat.le_of_ble_eq_true rfl)) dX8_readOneOf_34 ⟨Nat.le_of_ble_eq_true rfl, Nat.le_of_ble_eq_true rfl⟩) (fun r91 hr91 => ?_)
                                                                                      obtain rfl : 101 = r91 := (hr91.trans (by decide)).symm
                                                                                      refine lv_bipush (v := 32) hx hb dX8_readOneOf_37 (by decide) ?_
                                                                                      refine lv_icmp_ne (tgt := 71) hx hb dX8_readOneOf_39 (by decide) (fun c92 => ?_) (fun c92 => ?_)
                                                                                      · skip
                                                                                        refine lv_iinc (v := 20) (lv' := [(5, .int 20), (4, .int 14), (3, .int 3), (2, .int r3), (0, .ref (g 11 4)), (1, .ref (ak 0))]) hx hb dX8_readOneOf_71 hl (k := 0) rfl (by decide) (by decide) rfl (fun ls hl => ?_)
                                                                                        refine lv_goto (tgt := 22) hx hb dX8_readOneOf_74 (by decide) ?_
                                                                                        refine lv_iload hx hb dX8_readOneOf_22 (lv_at hl 0 rfl) ?_
                                                                                        refine lv_aload_n hx hb dX8_readOneOf_24 rfl (lv_at hl 5 rfl) ?_
                                                                                        refine vp_callSi (W.runV (As := []) (rest := [.int 20]) ⟨hx, hb, hml, hown, ht⟩ (c_J0_length_8abf5_0 l dC dI ak av) (kV 0 ht m_705 m_706 m_707 m_91 m_708 rfl rfl hd_J0_length_8abf5_v ⟨Nat.le_of_ble_eq_true rfl, Nat.le_of_ble_eq_true rfl⟩) (vRZ noP (hK.sub (tys' := []) [] rfl) ((hZ.kept hS.2.1).narrow (fun _ h => h.elim)) (vk_recv hZ.1.2.2.2.2.2 (i := 0) (by decide) hS)) rfl rfl hl.1 rfl (lv_room (Nat.le_of_ble_eq_true rfl)) dX8_readOneOf_25 ⟨Nat.le_of_ble_eq_true rfl, Nat.le_of_ble_eq_true rfl⟩) (fun r93 hr93 => ?_)
                                                                                        obtain rfl : 21 = r93 := hr93.symm
                                                                                        refine lv_icmp_ge (tgt := 77) hx hb dX8_readOneOf_28 (by decide) (fun c94 => ?_) (fun c94 => ?_)
                                                                                        · exact absurd c94 (by decide)
                                                                                        · skip
                                                                                          refine lv_aload_n hx hb dX8_readOneOf_31 rfl (lv_at hl 5 rfl) ?_
                                                                                          refine lv_iload hx hb dX8_readOneOf_32 (lv_at hl 0 rfl) ?_
                                                                                          refine vp_callSi (W.runV (As := [.int 20]) (rest := []) ⟨hx, hb, hml, hown, ht⟩ (c_J0_charAt_5068e_0 l dC dI ak av 20 ⟨by decide, by decide⟩) (kV 1 ht m_715 m_716 m_717 m_91 m_718 rfl rfl hd_J0_charAt_5068e_v ⟨Nat.le_of_ble_eq_true rfl, Nat.le_of_ble_eq_true rfl⟩) (vRZ noP (hK.sub (tys' := []) [] rfl) ((hZ.kept hS.2.1).narrow (fun _ h => h.elim)) (vk_recv hZ.1.2.2.2.2.2 (i := 0) (by decide) hS)) rfl rfl hl.1 rfl (lv_room (Nat.le_of_ble_eq_true rfl)) dX8_readOneOf_34 ⟨Nat.le_of_ble_eq_true rfl, Nat.le_of_ble_eq_true rfl⟩) (fun r95 hr95 => ?_)
                                                                                          obtain rfl : 32 = r95 := (hr95.trans (by decide)).symm
                                                                                          refine lv_bipush (v := 32) hx hb dX8_readOneOf_37 (by decide) ?_
                                                                                          refine lv_icmp_ne (tgt := 71) hx hb dX8_readOneOf_39 (by decide) (fun c96 => ?_) (fun c96 => ?_)
                                                                                          · exact absurd rfl c96
                                                                                          · skip
                                                                                            refine lv_aload_n hx hb dX8_readOneOf_42 rfl (lv_at hl 4 rfl) ?_
                                                                                            refine lv_aload_n hx hb dX8_readOneOf_43 rfl (lv_at hl 5 rfl) ?_
                                                                                            refine lv_iload hx hb dX8_readOneOf_44 (lv_at hl 1 rfl) ?_
                                                                                            refine lv_iload hx hb dX8_readOneOf_46 (lv_at hl 0 rfl) ?_
                                                                                            refine lv_iload_n hx hb dX8_readOneOf_48 rfl (lv_at hl 3 rfl) ?_
                                                                                            refine vp_callSi (W.runV (As := [.ref (ak 0), .int 14, .int 20, .int r3]) (rest := []) ⟨hx, hb, hml, hown, ht⟩ (c_X8_isSame_0 l dC dI ak av h g ca (u2 iv 8 5 n2) lv fa la (IX_i (c := 8) (k := 5) hI (show inb (0, 200) n2 from ⟨by omega, by omega⟩)) 14 20 r3 ⟨by decide, by decide⟩ ⟨by decide, by decide⟩ ⟨by omega, by omega⟩) (kV 4 ht m_753 m_755 m_20 m_82 m_756 rfl rfl hd_X8_isSame_v ⟨Nat.le_of_ble_eq_true rfl, Nat.le_of_ble_eq_true rfl⟩) (vRZ hP hK ((hZ.kept hS.2.1).narrow (fun _ h => h.elim)) (rX_8 hK hP)) rfl rfl hl.1 rfl (lv_room (Nat.le_of_ble_eq_true rfl)) dX8_readOneOf_49 ⟨Nat.le_of_ble_eq_true rfl, Nat.le_of_ble_eq_true rfl⟩) (fun r97 hr97 => ?_)
                                                                                            refine lv_if_eq (tgt := 62) hx hb dX8_readOneOf_52 (by decide) (fun c98 => ?_) (fun c98 => ?_)
                                                                                            · have fc98 := z_eq (rfl : (r97).toInt = _) (by decide : (0 : Int32).toInt = 0) c98
                                                                                              refine lv_iinc (v := 4) (lv' := [(3, .int 4), (5, .int 20), (4, .int 14), (2, .int r3), (0, .ref (g 11 4)), (1, .ref (ak 0))]) hx hb dX8_readOneOf_62 hl (k := 2) rfl (by decide) (by decide) rfl (fun ls hl => ?_)
                                                                                              refine lv_iload hx hb dX8_readOneOf_65 (lv_at hl 1 rfl) ?_
                                                                                              refine lv_iconst (v := 1) hx hb dX8_readOneOf_67 (by decide) ?_
                                                                                              refine lv_iadd hx hb dX8_readOneOf_68 ?_
                                                                                              refine lv_topi (fun v99 ev99 => ?_)
                                                                                              obtain rfl : 21 = v99 := (ev99.trans (by decide)).symm
                                                                                              refine lv_istore (lv' := [(4, .int 21), (3, .int 4), (5, .int 20), (2, .int r3), (0, .ref (g 11 4)), (1, .ref (ak 0))]) hx hb dX8_readOneOf_69 hl (by decide) rfl (fun ls hl => ?_)
                                                                                              refine lv_iinc (v := 21) (lv' := [(5, .int 21), (4, .int 21), (3, .int 4), (2, .int r3), (0, .ref (g 11 4)), (1, .ref (ak 0))]) hx hb dX8_readOneOf_71 hl (k := 2) rfl (by decide) (by decide) rfl (fun ls hl => ?_)
                                                                                              refine lv_goto (tgt := 22) hx hb dX8_readOneOf_74 (by decide) ?_
                                                                                              refine lv_iload hx hb dX8_readOneOf_22 (lv_at hl 0 rfl) ?_
                                                                                              refine lv_aload_n hx hb dX8_readOneOf_24 rfl (lv_at hl 5 rfl) ?_
                                                                                              refine vp_callSi (W.runV (As := []) (rest := [.int 21]) ⟨hx, hb, hml, hown, ht⟩ (c_J0_length_8abf5_0 l dC dI ak av) (kV 0 ht m_705 m_706 m_707 m_91 m_708 rfl rfl hd_J0_length_8abf5_v ⟨Nat.le_of_ble_eq_true rfl, Nat.le_of_ble_eq_true rfl⟩) (vRZ noP (hK.sub (tys' := []) [] rfl) ((hZ.kept hS.2.1).narrow (fun _ h => h.elim)) (vk_recv hZ.1.2.2.2.2.2 (i := 0) (by decide) hS)) rfl rfl hl.1 rfl (lv_room (Nat.le_of_ble_eq_true rfl)) dX8_readOneOf_25 ⟨Nat.le_of_ble_eq_true rfl, Nat.le_of_ble_eq_true rfl⟩) (fun r100 hr100 => ?_)
                                                                                              obtain rfl : 21 = r100 := hr100.symm
                                                                                              refine lv_icmp_ge (tgt := 77) hx hb dX8_readOneOf_28 (by decide) (fun c101 => ?_) (fun c101 => ?_)
                                                                                              · skip
                                                                                                refine lv_aload_n hx hb dX8_readOneOf_77 rfl (lv_at hl 4 rfl) ?_
                                                                                                refine lv_iconst (v := 1) hx hb dX8_readOneOf_78 (by decide) ?_
                                                                                                refine lv_aload_n hx hb dX8_readOneOf_79 rfl (lv_at hl 4 rfl) ?_
                                                                                                refine gX_8_5 hx hb ht hown hK hP m_235 (v := n2) rfl dX8_readOneOf_80 ?_
                                                                                                have hFc := free_all hD hS hA
                                                                                                refine va_calli (va_runV (As := [.int 1, .int n2]) (rest := []) ⟨hx, hb, hml, hown, ht⟩ (c_X8_fail l dC dI H.size h g ca (u2 iv 8 5 n2) lv fa la (IX_i (c := 8) (k := 5) hI (show inb (0, 200) n2 from ⟨by omega, by omega⟩)) 1 n2 ⟨by decide, by decide⟩ ⟨by omega, by omega⟩) (kV 2 ht m_757 m_759 m_21 m_82 m_760 rfl rfl hd_X8_fail_v ⟨Nat.le_of_ble_eq_true rfl, Nat.le_of_ble_eq_true rfl⟩) (vW hP hK hD (rX_8 hK hP)) rfl rfl hl.1 rfl (lv_room (Nat.le_of_ble_eq_true rfl)) dX8_readOneOf_83 ⟨Nat.le_of_ble_eq_true rfl, Nat.le_of_ble_eq_true rfl⟩) hS (fun q _ h => hFc q h) hFc (fun r102 u t H1 locs ht9 hvm hr102 hB hz1 hk1 hS => ?_)
                                                                                                obtain ⟨n103, n104, hn103, hn104, hr102, rfl⟩ := hr102
                                                                                                have hn103 : (-1) ≤ n103.toInt ∧ n103.toInt ≤ 200 := hn103
                                                                                                have hn104 : 0 ≤ n104.toInt ∧ n104.toInt ≤ 5 := hn104
                                                                                                obtain ⟨hP, hD⟩ := hB
                                                                                                rw [ht9] at hP
                                                                                                generalize H1 = H at hP hS ⊢
                                                                                                have hP : va_P (dC, dI) classes (WX h g ca (u2 (u2 (u2 iv 8 5 n2) 8 3 n103) 8 4 n104) lv fa la) H := hP
                                                                                                have hD : va_D A (WX h g ca (u2 (u2 (u2 iv 8 5 n2) 8 3 n103) 8 4 n104) lv fa la) := (show va_D _ (WX h g ca (u2 (u2 (u2 iv 8 5 n2) 8 3 n103) 8 4 n104) lv fa la) from hD).weaken (fun _ _ _ h => hFc _ h)
                                                                                                refine lv_pop hx hb dX8_readOneOf_86 rfl ?_
                                                                                                refine lv_iconst (v := (-1)) hx hb dX8_readOneOf_87 (by decide) ?_
                                                                                                have hP9 : va_P (dC, dI) classes (WX h g ca (u2 (u2 (u2 iv 8 3 n103) 8 4 n104) 8 5 n2) lv fa la) H := hP
                                                                                                have hD9 : va_D A (WX h g ca (u2 (u2 (u2 iv 8 3 n103) 8 4 n104) 8 5 n2) lv fa la) := hD
                                                                                                exact W.iret (v := (-1)) hx hb hr (fun t ht9 hW => ⟨⟨(-1), ((u2 (u2 (u2 iv 8 3 n103) 8 4 n104) 8 5 n2), lv, fa, la), rfl, ⟨n103, n104, n2, (show inb ((-1), 200) n103 from ⟨by omega, by omega⟩), (show inb (0, 5) n104 from ⟨by omega, by omega⟩), (show inb (0, 200) n2 from ⟨by omega, by omega⟩), ⟨by decide, by decide⟩, rfl⟩, by rw [ht9]; exact hP9, hD9⟩, hS.F ht9⟩) hS.2.2 dX8_readOneOf_88
                                                                                              · exact absurd c101 (by decide)
                                                                                            · have fc98 := z_ne (rfl : (r97).toInt = _) (by decide : (0 : Int32).toInt = 0) c98
                                                                                              refine lv_aload_n hx hb dX8_readOneOf_55 rfl (lv_at hl 4 rfl) ?_
                                                                                              refine lv_iload_n hx hb dX8_readOneOf_56 rfl (lv_at hl 3 rfl) ?_
                                                                                              refine pX_8_5 (v := r3) hx hb ht hown hK hP hD hS m_235 dX8_readOneOf_57 (fun H locs hP hD hS => ?_)
                                                                                              have hP : va_P (dC, dI) classes (WX h g ca (u2 iv 8 5 r3) lv fa la) H := hP
                                                                                              have hD : va_D A (WX h g ca (u2 iv 8 5 r3) lv fa la) := hD
                                                                                              refine lv_iload_n hx hb dX8_readOneOf_60 rfl (lv_at hl 2 rfl) ?_
                                                                                              have hP9 : va_P (dC, dI) classes (WX h g ca (u2 (u2 (u2 iv 8 3 (iv 8 3)) 8 4 (iv 8 4)) 8 5 r3) lv fa la) H := hP
                                                                                              have hD9 : va_D A (WX h g ca (u2 (u2 (u2 iv 8 3 (iv 8 3)) 8 4 (iv 8 4)) 8 5 r3) lv fa la) := hD
                                                                                              exact W.iret (v := 3) hx hb hr (fun t ht9 hW => ⟨⟨3, ((u2 (u2 (u2 iv 8 3 (iv 8 3)) 8 4 (iv 8 4)) 8 5 r3), lv, fa, la), rfl, ⟨(iv 8 3), (iv 8 4), r3, (hI.1 8 3), (hI.1 8 4), (show inb (0, 200) r3 from ⟨by omega, by omega⟩), ⟨by decide, by decide⟩, rfl⟩, by rw [ht9]; exact hP9, hD9⟩, hS.F ht9⟩) hS.2.2 dX8_readOneOf_61
                                                                                      · exact absurd c92 (by decide)
                                                                                  · exact absurd c88 (by decide)
                                                                              · exact absurd c84 (by decide)
                                                                          · exact absurd c80 (by decide)
                                                                      · exact absurd c76 (by decide)
                                                                  · exact absurd c72 (by decide)
                                                              · have fc67 := z_ne (rfl : (r66).toInt = _) (by decide : (0 : Int32).toInt = 0) c67
                                                                refine lv_aload_n hx hb dX8_readOneOf_55 rfl (lv_at hl 4 rfl) ?_
                                                                refine lv_iload_n hx hb dX8_readOneOf_56 rfl (lv_at hl 3 rfl) ?_
                                                                refine pX_8_5 (v := r3) hx hb ht hown hK hP hD hS m_235 dX8_readOneOf_57 (fun H locs hP hD hS => ?_)
                                                                have hP : va_P (dC, dI) classes (WX h g ca (u2 iv 8 5 r3) lv fa la) H := hP
                                                                have hD : va_D A (WX h g ca (u2 iv 8 5 r3) lv fa la) := hD
                                                                refine lv_iload_n hx hb dX8_readOneOf_60 rfl (lv_at hl 2 rfl) ?_
                                                                have hP9 : va_P (dC, dI) classes (WX h g ca (u2 (u2 (u2 iv 8 3 (iv 8 3)) 8 4 (iv 8 4)) 8 5 r3) lv fa la) H := hP
                                                                have hD9 : va_D A (WX h g ca (u2 (u2 (u2 iv 8 3 (iv 8 3)) 8 4 (iv 8 4)) 8 5 r3) lv fa la) := hD
                                                                exact W.iret (v := 2) hx hb hr (fun t ht9 hW => ⟨⟨2, ((u2 (u2 (u2 iv 8 3 (iv 8 3)) 8 4 (iv 8 4)) 8 5 r3), lv, fa, la), rfl, ⟨(iv 8 3), (iv 8 4), r3, (hI.1 8 3), (hI.1 8 4), (show inb (0, 200) r3 from ⟨by omega, by omega⟩), ⟨by decide, by decide⟩, rfl⟩, by rw [ht9]; exact hP9, hD9⟩, hS.F ht9⟩) hS.2.2 dX8_readOneOf_61
                                                        · exact absurd c61 (by decide)
                                                    · exact absurd c57 (by decide)
                                                · exact absurd c53 (by decide)
                                            · exact absurd c49 (by decide)
                                        · have fc44 := z_ne (rfl : (r43).toInt = _) (by decide : (0 : Int32).toInt = 0) c44
                                          refine lv_aload_n hx hb dX8_readOneOf_55 rfl (lv_at hl 4 rfl) ?_
                                          refine lv_iload_n hx hb dX8_readOneOf_56 rfl (lv_at hl 3 rfl) ?_
                                          refine pX_8_5 (v := r3) hx hb ht hown hK hP hD hS m_235 dX8_readOneOf_57 (fun H locs hP hD hS => ?_)
                                          have hP : va_P (dC, dI) classes (WX h g ca (u2 iv 8 5 r3) lv fa la) H := hP
                                          have hD : va_D A (WX h g ca (u2 iv 8 5 r3) lv fa la) := hD
                                          refine lv_iload_n hx hb dX8_readOneOf_60 rfl (lv_at hl 2 rfl) ?_
                                          have hP9 : va_P (dC, dI) classes (WX h g ca (u2 (u2 (u2 iv 8 3 (iv 8 3)) 8 4 (iv 8 4)) 8 5 r3) lv fa la) H := hP
                                          have hD9 : va_D A (WX h g ca (u2 (u2 (u2 iv 8 3 (iv 8 3)) 8 4 (iv 8 4)) 8 5 r3) lv fa la) := hD
                                          exact W.iret (v := 1) hx hb hr (fun t ht9 hW => ⟨⟨1, ((u2 (u2 (u2 iv 8 3 (iv 8 3)) 8 4 (iv 8 4)) 8 5 r3), lv, fa, la), rfl, ⟨(iv 8 3), (iv 8 4), r3, (hI.1 8 3), (hI.1 8 4), (show inb (0, 200) r3 from ⟨by omega, by omega⟩), ⟨by decide, by decide⟩, rfl⟩, by rw [ht9]; exact hP9, hD9⟩, hS.F ht9⟩) hS.2.2 dX8_readOneOf_61
                                  · exact absurd c38 (by decide)
                              · exact absurd c34 (by decide)
                          · exact absurd c30 (by decide)
                      · exact absurd c26 (by decide)
                  · have fc21 := z_ne (rfl : (r20).toInt = _) (by decide : (0 : Int32).toInt = 0) c21
                    refine lv_aload_n hx hb dX8_readOneOf_55 rfl (lv_at hl 4 rfl) ?_
                    refine lv_iload_n hx hb dX8_readOneOf_56 rfl (lv_at hl 3 rfl) ?_
                    refine pX_8_5 (v := r3) hx hb ht hown hK hP hD hS m_235 dX8_readOneOf_57 (fun H locs hP hD hS => ?_)
                    have hP : va_P (dC, dI) classes (WX h g ca (u2 iv 8 5 r3) lv fa la) H := hP
                    have hD : va_D A (WX h g ca (u2 iv 8 5 r3) lv fa la) := hD
                    refine lv_iload_n hx hb dX8_readOneOf_60 rfl (lv_at hl 2 rfl) ?_
                    have hP9 : va_P (dC, dI) classes (WX h g ca (u2 (u2 (u2 iv 8 3 (iv 8 3)) 8 4 (iv 8 4)) 8 5 r3) lv fa la) H := hP
                    have hD9 : va_D A (WX h g ca (u2 (u2 (u2 iv 8 3 (iv 8 3)) 8 4 (iv 8 4)) 8 5 r3) lv fa la) := hD
                    exact W.iret (v := 0) hx hb hr (fun t ht9 hW => ⟨⟨0, ((u2 (u2 (u2 iv 8 3 (iv 8 3)) 8 4 (iv 8 4)) 8 5 r3), lv, fa, la), rfl, ⟨(iv 8 3), (iv 8 4), r3, (hI.1 8 3), (hI.1 8 4), (show inb (0, 200) r3 from ⟨by omega, by omega⟩), ⟨by decide, by decide⟩, rfl⟩, by rw [ht9]; exact hP9, hD9⟩, hS.F ht9⟩) hS.2.2 dX8_readOneOf_61
            · exact absurd c15 (by decide)
        · exact absurd c11 (by decide)
    · exact absurd c7 (by decide)
set_option maxHeartbeats 4000000 in
set_option maxRecDepth 100000 in
/-- X8_readOneOf -/
theorem c_X8_readOneOf_1 (l : Launch) (dC : Nat → ClassId) (dI : Nat → Nat → Nat) (sz : Nat) (ak av : Nat → Nat) (h : Nat) (g : Nat → Nat → Nat) (ca : Nat → Nat → ClassId) (iv : Nat → Nat → Int32) (lv : Nat → Nat → Int64) (fa : Nat → Nat → Nat → Int32) (la : Nat → Nat → Nat → Int64) (hI : IX iv fa) : Met l yX8_readOneOf (wc yX8_readOneOf cX8_readOneOf 6 (some .int)) ({ frames := 5, cells := 0, slots := 0, locals := 110 } : Room) (pWZ ak av (dC, dI) classes (WX h g ca iv lv fa la) (TX ca) sz [.ref (g 11 4), .ref (ak 1)]) (va_Qi (fun r (u : SS) => ∃ (ni_8_3 : Int32) (ni_8_4 : Int32) (ni_8_5 : Int32), inb (bI 8 3) ni_8_3 ∧ inb (bI 8 4) ni_8_4 ∧ inb (bI 8 5) ni_8_5 ∧ ((-1) ≤ r.toInt ∧ r.toInt ≤ 4) ∧ u = ((u2 (u2 (u2 iv 8 3 ni_8_3) 8 4 ni_8_4) 8 5 ni_8_5), lv, fa, la)) (bX (dC, dI) h g ca (va_A (WX h g ca iv lv fa la) sz)) (va_A (WX h g ca iv lv fa la) sz)) 0 0 (va_A (WX h g ca iv lv fa la) sz) := by
  refine Met.ofW (cc := cX8_readOneOf) (maxL := 6) (ret := (some .int)) (by decide) rfl ?_
  intro p e s m args below meth c s₁ B hml hv
  obtain ⟨rfl, hsz, hP, hK, hD0, hZ⟩ := hv
  have hx := B.exec
  have hb := B.bytes
  have hr := B.returns
  have ht := tb_tl (atoms_spec (ws := wc yX8_readOneOf cX8_readOneOf 6 (some .int)) B.pre)
  have hown : s.vm.findClass RX8 = some m.cls := findClass_of_methodNamed B.named
  have hlocks := B.notSynchronized
  subst hsz
  have hD := hD0.self (sz := s.heap.size)
  generalize hAe : va_A (WX h g ca iv lv fa la) s.heap.size = A at hD hZ ⊢
  have hA : ∀ q : Nat, s.heap.size ≤ q → A q := fun q h => by rw [← hAe]; exact Or.inr h
  have hS : va_S A s.heap s.heap [] := va_S.rf
  have hl := lv_entry [.ref (g 11 4), .ref (ak 1)] (n := 6) (Nat.le_of_ble_eq_true rfl)
  rw [lg_entry_eq]
  generalize (lg_sl [.ref (g 11 4), .ref (ak 1)] ++ List.replicate (6 - (lg_sl [.ref (g 11 4), .ref (ak 1)]).length) Slot.unset).toArray = ls at hl ⊢
  have hl : lv_has ls 6 [(0, .ref (g 11 4)), (1, .ref (ak 1))] := hl
  refine lv_aload_n hx hb dX8_readOneOf_0 rfl (lv_at hl 0 rfl) ?_
  have hFc := free_all hD hS hA
  refine va_calli (va_runV (As := []) (rest := []) ⟨hx, hb, hml, hown, ht⟩ (c_X8_skipBlanks l dC dI s.heap.size h g ca iv lv fa la hI) (kV 0 ht m_688 m_690 m_16 m_82 m_691 rfl rfl hd_X8_skipBlanks_v ⟨Nat.le_of_ble_eq_true rfl, Nat.le_of_ble_eq_true rfl⟩) (vW hP hK hD (rX_8 hK hP)) rfl rfl hl.1 rfl (lv_room (Nat.le_of_ble_eq_true rfl)) dX8_readOneOf_1 ⟨Nat.le_of_ble_eq_true rfl, Nat.le_of_ble_eq_true rfl⟩) hS (fun q _ h => hFc q h) hFc (fun r1 u t H1 locs ht9 hvm hr1 hB hz1 hk1 hS => ?_)
  obtain ⟨n2, hn2, hr1, rfl⟩ := hr1
  have hn2 : 0 ≤ n2.toInt ∧ n2.toInt ≤ 200 := hn2
  obtain ⟨hP, hD⟩ := hB
  rw [ht9] at hP
  generalize H1 = H at hP hS ⊢
  have hP : va_P (dC, dI) classes (WX h g ca (u2 iv 8 5 n2) lv fa la) H := hP
  have hD : va_D A (WX h g ca (u2 iv 8 5 n2) lv fa la) := (show va_D _ (WX h g ca (u2 iv 8 5 n2) lv fa la) from hD).weaken (fun _ _ _ h => hFc _ h)
  refine lv_pop hx hb dX8_readOneOf_4 rfl ?_
  refine lv_aload_n hx hb dX8_readOneOf_5 rfl (lv_at hl 0 rfl) ?_
  refine lv_bipush (v := 97) hx hb dX8_readOneOf_6 (by decide) ?_
  refine lv_bipush (v := 122) hx hb dX8_readOneOf_8 (by decide) ?_
  refine vp_callSi (W.runV (As := [.int 97, .int 122]) (rest := []) ⟨hx, hb, hml, hown, ht⟩ (c_X8_endOfRun l dC dI h g ca (u2 iv 8 5 n2) lv fa la (IX_i (c := 8) (k := 5) hI (show inb (0, 200) n2 from ⟨by omega, by omega⟩)) 97 122) (kV 2 ht m_701 m_703 m_19 m_82 m_704 rfl rfl hd_X8_endOfRun_v ⟨Nat.le_of_ble_eq_true rfl, Nat.le_of_ble_eq_true rfl⟩) (vR hP hK (rX_8 hK hP)) rfl rfl hl.1 rfl (lv_room (Nat.le_of_ble_eq_true rfl)) dX8_readOneOf_10 ⟨Nat.le_of_ble_eq_true rfl, Nat.le_of_ble_eq_true rfl⟩) (fun r3 hr3 => ?_)
  refine lv_istore_n (lv' := [(2, .int r3), (0, .ref (g 11 4)), (1, .ref (ak 1))]) hx hb dX8_readOneOf_13 rfl hl (by decide) rfl (fun ls hl => ?_)
  refine lv_iconst (v := 0) hx hb dX8_readOneOf_14 (by decide) ?_
  refine lv_istore_n (lv' := [(3, .int 0), (2, .int r3), (0, .ref (g 11 4)), (1, .ref (ak 1))]) hx hb dX8_readOneOf_15 rfl hl (by decide) rfl (fun ls hl => ?_)
  refine lv_iconst (v := 0) hx hb dX8_readOneOf_16 (by decide) ?_
  refine lv_istore (lv' := [(4, .int 0), (3, .int 0), (2, .int r3), (0, .ref (g 11 4)), (1, .ref (ak 1))]) hx hb dX8_readOneOf_17 hl (by decide) rfl (fun ls hl => ?_)
  refine lv_iconst (v := 0) hx hb dX8_readOneOf_19 (by decide) ?_
  refine lv_istore (lv' := [(5, .int 0), (4, .int 0), (3, .int 0), (2, .int r3), (0, .ref (g 11 4)), (1, .ref (ak 1))]) hx hb dX8_readOneOf_20 hl (by decide) rfl (fun ls hl => ?_)
  refine lv_iload hx hb dX8_readOneOf_22 (lv_at hl 0 rfl) ?_
  refine lv_aload_n hx hb dX8_readOneOf_24 rfl (lv_at hl 5 rfl) ?_
  refine vp_callSi (W.runV (As := []) (rest := [.int 0]) ⟨hx, hb, hml, hown, ht⟩ (c_J0_length_8abf5_1 l dC dI ak av) (kV 0 ht m_705 m_706 m_707 m_91 m_708 rfl rfl hd_J0_length_8abf5_v ⟨Nat.le_of_ble_eq_true rfl, Nat.le_of_ble_eq_true rfl⟩) (vRZ noP (hK.sub (tys' := []) [] rfl) ((hZ.kept hS.2.1).narrow (fun _ h => h.elim)) (vk_recv hZ.1.2.2.2.2.2 (i := 1) (by decide) hS)) rfl rfl hl.1 rfl (lv_room (Nat.le_of_ble_eq_true rfl)) dX8_readOneOf_25 ⟨Nat.le_of_ble_eq_true rfl, Nat.le_of_ble_eq_true rfl⟩) (fun r4 hr4 => ?_)
  obtain rfl : 28 = r4 := hr4.symm
  refine lv_icmp_ge (tgt := 77) hx hb dX8_readOneOf_28 (by decide) (fun c5 => ?_) (fun c5 => ?_)
  · exact absurd c5 (by decide)
  · skip
    refine lv_aload_n hx hb dX8_readOneOf_31 rfl (lv_at hl 5 rfl) ?_
    refine lv_iload hx hb dX8_readOneOf_32 (lv_at hl 0 rfl) ?_
    refine vp_callSi (W.runV (As := [.int 0]) (rest := []) ⟨hx, hb, hml, hown, ht⟩ (c_J0_charAt_5068e_1 l dC dI ak av 0 ⟨by decide, by decide⟩) (kV 1 ht m_715 m_716 m_717 m_91 m_718 rfl rfl hd_J0_charAt_5068e_v ⟨Nat.le_of_ble_eq_true rfl, Nat.le_of_ble_eq_true rfl⟩) (vRZ noP (hK.sub (tys' := []) [] rfl) ((hZ.kept hS.2.1).narrow (fun _ h => h.elim)) (vk_recv hZ.1.2.2.2.2.2 (i := 1) (by decide) hS)) rfl rfl hl.1 rfl (lv_room (Nat.le_of_ble_eq_true rfl)) dX8_readOneOf_34 ⟨Nat.le_of_ble_eq_true rfl, Nat.le_of_ble_eq_true rfl⟩) (fun r6 hr6 => ?_)
    obtain rfl : 119 = r6 := (hr6.trans (by decide)).symm
    refine lv_bipush (v := 32) hx hb dX8_readOneOf_37 (by decide) ?_
    refine lv_icmp_ne (tgt := 71) hx hb dX8_readOneOf_39 (by decide) (fun c7 => ?_) (fun c7 => ?_)
    · skip
      refine lv_iinc (v := 1) (lv' := [(5, .int 1), (4, .int 0), (3, .int 0), (2, .int r3), (0, .ref (g 11 4)), (1, .ref (ak 1))]) hx hb dX8_readOneOf_71 hl (k := 0) rfl (by decide) (by decide) rfl (fun ls hl => ?_)
      refine lv_goto (tgt := 22) hx hb dX8_readOneOf_74 (by decide) ?_
      refine lv_iload hx hb dX8_readOneOf_22 (lv_at hl 0 rfl) ?_
      refine lv_aload_n hx hb dX8_readOneOf_24 rfl (lv_at hl 5 rfl) ?_
      refine vp_callSi (W.runV (As := []) (rest := [.int 1]) ⟨hx, hb, hml, hown, ht⟩ (c_J0_length_8abf5_1 l dC dI ak av) (kV 0 ht m_705 m_706 m_707 m_91 m_708 rfl rfl hd_J0_length_8abf5_v ⟨Nat.le_of_ble_eq_true rfl, Nat.le_of_ble_eq_true rfl⟩) (vRZ noP (hK.sub (tys' := []) [] rfl) ((hZ.kept hS.2.1).narrow (fun _ h => h.elim)) (vk_recv hZ.1.2.2.2.2.2 (i := 1) (by decide) hS)) rfl rfl hl.1 rfl (lv_room (Nat.le_of_ble_eq_true rfl)) dX8_readOneOf_25 ⟨Nat.le_of_ble_eq_true rfl, Nat.le_of_ble_eq_true rfl⟩) (fun r8 hr8 => ?_)
      obtain rfl : 28 = r8 := hr8.symm
      refine lv_icmp_ge (tgt := 77) hx hb dX8_readOneOf_28 (by decide) (fun c9 => ?_) (fun c9 => ?_)
      · exact absurd c9 (by decide)
      · skip
        refine lv_aload_n hx hb dX8_readOneOf_31 rfl (lv_at hl 5 rfl) ?_
        refine lv_iload hx hb dX8_readOneOf_32 (lv_at hl 0 rfl) ?_
        refine vp_callSi (W.runV (As := [.int 1]) (rest := []) ⟨hx, hb, hml, hown, ht⟩ (c_J0_charAt_5068e_1 l dC dI ak av 1 ⟨by decide, by decide⟩) (kV 1 ht m_715 m_716 m_717 m_91 m_718 rfl rfl hd_J0_charAt_5068e_v ⟨Nat.le_of_ble_eq_true rfl, Nat.le_of_ble_eq_true rfl⟩) (vRZ noP (hK.sub (tys' := []) [] rfl) ((hZ.kept hS.2.1).narrow (fun _ h => h.elim)) (vk_recv hZ.1.2.2.2.2.2 (i := 1) (by decide) hS)) rfl rfl hl.1 rfl (lv_room (Nat.le_of_ble_eq_true rfl)) dX8_readOneOf_34 ⟨Nat.le_of_ble_eq_true rfl, Nat.le_of_ble_eq_true rfl⟩) (fun r10 hr10 => ?_)
        obtain rfl : 97 = r10 := (hr10.trans (by decide)).symm
        refine lv_bipush (v := 32) hx hb dX8_readOneOf_37 (by decide) ?_
        refine lv_icmp_ne (tgt := 71) hx hb dX8_readOneOf_39 (by decide) (fun c11 => ?_) (fun c11 => ?_)
        · skip
          refine lv_iinc (v := 2) (lv' := [(5, .int 2), (4, .int 0), (3, .int 0), (2, .int r3), (0, .ref (g 11 4)), (1, .ref (ak 1))]) hx hb dX8_readOneOf_71 hl (k := 0) rfl (by decide) (by decide) rfl (fun ls hl => ?_)
          refine lv_goto (tgt := 22) hx hb dX8_readOneOf_74 (by decide) ?_
          refine lv_iload hx hb dX8_readOneOf_22 (lv_at hl 0 rfl) ?_
          refine lv_aload_n hx hb dX8_readOneOf_24 rfl (lv_at hl 5 rfl) ?_
          refine vp_callSi (W.runV (As := []) (rest := [.int 2]) ⟨hx, hb, hml, hown, ht⟩ (c_J0_length_8abf5_1 l dC dI ak av) (kV 0 ht m_705 m_706 m_707 m_91 m_708 rfl rfl hd_J0_length_8abf5_v ⟨Nat.le_of_ble_eq_true rfl, Nat.le_of_ble_eq_true rfl⟩) (vRZ noP (hK.sub (tys' := []) [] rfl) ((hZ.kept hS.2.1).narrow (fun _ h => h.elim)) (vk_recv hZ.1.2.2.2.2.2 (i := 1) (by decide) hS)) rfl rfl hl.1 rfl (lv_room (Nat.le_of_ble_eq_true rfl)) dX8_readOneOf_25 ⟨Nat.le_of_ble_eq_true rfl, Nat.le_of_ble_eq_true rfl⟩) (fun r12 hr12 => ?_)
          obtain rfl : 28 = r12 := hr12.symm
          refine lv_icmp_ge (tgt := 77) hx hb dX8_readOneOf_28 (by decide) (fun c13 => ?_) (fun c13 => ?_)
          · exact absurd c13 (by decide)
          · skip
            refine lv_aload_n hx hb dX8_readOneOf_31 rfl (lv_at hl 5 rfl) ?_
            refine lv_iload hx hb dX8_readOneOf_32 (lv_at hl 0 rfl) ?_
            refine vp_callSi (W.runV (As := [.int 2]) (rest := []) ⟨hx, hb, hml, hown, ht⟩ (c_J0_charAt_5068e_1 l dC dI ak av 2 ⟨by decide, by decide⟩) (kV 1 ht m_715 m_716 m_717 m_91 m_718 rfl rfl hd_J0_charAt_5068e_v ⟨Nat.le_of_ble_eq_true rfl, Nat.le_of_ble_eq_true rfl⟩) (vRZ noP (hK.sub (tys' := []) [] rfl) ((hZ.kept hS.2.1).narrow (fun _ h => h.elim)) (vk_recv hZ.1.2.2.2.2.2 (i := 1) (by decide) hS)) rfl rfl hl.1 rfl (lv_room (Nat.le_of_ble_eq_true rfl)) dX8_readOneOf_34 ⟨Nat.le_of_ble_eq_true rfl, Nat.le_of_ble_eq_true rfl⟩) (fun r14 hr14 => ?_)
            obtain rfl : 116 = r14 := (hr14.trans (by decide)).symm
            refine lv_bipush (v := 32) hx hb dX8_readOneOf_37 (by decide) ?_
            refine lv_icmp_ne (tgt := 71) hx hb dX8_readOneOf_39 (by decide) (fun c15 => ?_) (fun c15 => ?_)
            · skip
              refine lv_iinc (v := 3) (lv' := [(5, .int 3), (4, .int 0), (3, .int 0), (2, .int r3), (0, .ref (g 11 4)), (1, .ref (ak 1))]) hx hb dX8_readOneOf_71 hl (k := 0) rfl (by decide) (by decide) rfl (fun ls hl => ?_)
              refine lv_goto (tgt := 22) hx hb dX8_readOneOf_74 (by decide) ?_
              refine lv_iload hx hb dX8_readOneOf_22 (lv_at hl 0 rfl) ?_
              refine lv_aload_n hx hb dX8_readOneOf_24 rfl (lv_at hl 5 rfl) ?_
              refine vp_callSi (W.runV (As := []) (rest := [.int 3]) ⟨hx, hb, hml, hown, ht⟩ (c_J0_length_8abf5_1 l dC dI ak av) (kV 0 ht m_705 m_706 m_707 m_91 m_708 rfl rfl hd_J0_length_8abf5_v ⟨Nat.le_of_ble_eq_true rfl, Nat.le_of_ble_eq_true rfl⟩) (vRZ noP (hK.sub (tys' := []) [] rfl) ((hZ.kept hS.2.1).narrow (fun _ h => h.elim)) (vk_recv hZ.1.2.2.2.2.2 (i := 1) (by decide) hS)) rfl rfl hl.1 rfl (lv_room (Nat.le_of_ble_eq_true rfl)) dX8_readOneOf_25 ⟨Nat.le_of_ble_eq_true rfl, Nat.le_of_ble_eq_true rfl⟩) (fun r16 hr16 => ?_)
              obtain rfl : 28 = r16 := hr16.symm
              refine lv_icmp_ge (tgt := 77) hx hb dX8_readOneOf_28 (by decide) (fun c17 => ?_) (fun c17 => ?_)
              · exact absurd c17 (by decide)
              · skip
                refine lv_aload_n hx hb dX8_readOneOf_31 rfl (lv_at hl 5 rfl) ?_
                refine lv_iload hx hb dX8_readOneOf_32 (lv_at hl 0 rfl) ?_
                refine vp_callSi (W.runV (As := [.int 3]) (rest := []) ⟨hx, hb, hml, hown, ht⟩ (c_J0_charAt_5068e_1 l dC dI ak av 3 ⟨by decide, by decide⟩) (kV 1 ht m_715 m_716 m_717 m_91 m_718 rfl rfl hd_J0_charAt_5068e_v ⟨Nat.le_of_ble_eq_true rfl, Nat.le_of_ble_eq_true rfl⟩) (vRZ noP (hK.sub (tys' := []) [] rfl) ((hZ.kept hS.2.1).narrow (fun _ h => h.elim)) (vk_recv hZ.1.2.2.2.2.2 (i := 1) (by decide) hS)) rfl rfl hl.1 rfl (lv_room (Nat.le_of_ble_eq_true rfl)) dX8_readOneOf_34 ⟨Nat.le_of_ble_eq_true rfl, Nat.le_of_ble_eq_true rfl⟩) (fun r18 hr18 => ?_)
                obtain rfl : 101 = r18 := (hr18.trans (by decide)).symm
                refine lv_bipush (v := 32) hx hb dX8_readOneOf_37 (by decide) ?_
                refine lv_icmp_ne (tgt := 71) hx hb dX8_readOneOf_39 (by decide) (fun c19 => ?_) (fun c19 => ?_)
                · skip
                  refine lv_iinc (v := 4) (lv' := [(5, .int 4), (4, .int 0), (3, .int 0), (2, .int r3), (0, .ref (g 11 4)), (1, .ref (ak 1))]) hx hb dX8_readOneOf_71 hl (k := 0) rfl (by decide) (by decide) rfl (fun ls hl => ?_)
                  refine lv_goto (tgt := 22) hx hb dX8_readOneOf_74 (by decide) ?_
                  refine lv_iload hx hb dX8_readOneOf_22 (lv_at hl 0 rfl) ?_
                  refine lv_aload_n hx hb dX8_readOneOf_24 rfl (lv_at hl 5 rfl) ?_
                  refine vp_callSi (W.runV (As := []) (rest := [.int 4]) ⟨hx, hb, hml, hown, ht⟩ (c_J0_length_8abf5_1 l dC dI ak av) (kV 0 ht m_705 m_706 m_707 m_91 m_708 rfl rfl hd_J0_length_8abf5_v ⟨Nat.le_of_ble_eq_true rfl, Nat.le_of_ble_eq_true rfl⟩) (vRZ noP (hK.sub (tys' := []) [] rfl) ((hZ.kept hS.2.1).narrow (fun _ h => h.elim)) (vk_recv hZ.1.2.2.2.2.2 (i := 1) (by decide) hS)) rfl rfl hl.1 rfl (lv_room (Nat.le_of_ble_eq_true rfl)) dX8_readOneOf_25 ⟨Nat.le_of_ble_eq_true rfl, Nat.le_of_ble_eq_true rfl⟩) (fun r20 hr20 => ?_)
                  obtain rfl : 28 = r20 := hr20.symm
                  refine lv_icmp_ge (tgt := 77) hx hb dX8_readOneOf_28 (by decide) (fun c21 => ?_) (fun c21 => ?_)
                  · exact absurd c21 (by decide)
                  · skip
                    refine lv_aload_n hx hb dX8_readOneOf_31 rfl (lv_at hl 5 rfl) ?_
                    refine lv_iload hx hb dX8_readOneOf_32 (lv_at hl 0 rfl) ?_
                    refine vp_callSi (W.runV (As := [.int 4]) (rest := []) ⟨hx, hb, hml, hown, ht⟩ (c_J0_charAt_5068e_1 l dC dI ak av 4 ⟨by decide, by decide⟩) (kV 1 ht m_715 m_716 m_717 m_91 m_718 rfl rfl hd_J0_charAt_5068e_v ⟨Nat.le_of_ble_eq_true rfl, Nat.le_of_ble_eq_true rfl⟩) (vRZ noP (hK.sub (tys' := []) [] rfl) ((hZ.kept hS.2.1).narrow (fun _ h => h.elim)) (vk_recv hZ.1.2.2.2.2.2 (i := 1) (by decide) hS)) rfl rfl hl.1 rfl (lv_room (Nat.le_of_ble_eq_true rfl)) dX8_readOneOf_34 ⟨Nat.le_of_ble_eq_true rfl, Nat.le_of_ble_eq_true rfl⟩) (fun r22 hr22 => ?_)
                    obtain rfl : 114 = r22 := (hr22.trans (by decide)).symm
                    refine lv_bipush (v := 32) hx hb dX8_readOneOf_37 (by decide) ?_
                    refine lv_icmp_ne (tgt := 71) hx hb dX8_readOneOf_39 (by decide) (fun c23 => ?_) (fun c23 => ?_)
                    · skip
                      refine lv_iinc (v := 5) (lv' := [(5, .int 5), (4, .int 0), (3, .int 0), (2, .int r3), (0, .ref (g 11 4)), (1, .ref (ak 1))]) hx hb dX8_readOneOf_71 hl (k := 0) rfl (by decide) (by decide) rfl (fun ls hl => ?_)
                      refine lv_goto (tgt := 22) hx hb dX8_readOneOf_74 (by decide) ?_
                      refine lv_iload hx hb dX8_readOneOf_22 (lv_at hl 0 rfl) ?_
                      refine lv_aload_n hx hb dX8_readOneOf_24 rfl (lv_at hl 5 rfl) ?_
                      refine vp_callSi (W.runV (As := []) (rest := [.int 5]) ⟨hx, hb, hml, hown, ht⟩ (c_J0_length_8abf5_1 l dC dI ak av) (kV 0 ht m_705 m_706 m_707 m_91 m_708 rfl rfl hd_J0_length_8abf5_v ⟨Nat.le_of_ble_eq_true rfl, Nat.le_of_ble_eq_true rfl⟩) (vRZ noP (hK.sub (tys' := []) [] rfl) ((hZ.kept hS.2.1).narrow (fun _ h => h.elim)) (vk_recv hZ.1.2.2.2.2.2 (i := 1) (by decide) hS)) rfl rfl hl.1 rfl (lv_room (Nat.le_of_ble_eq_true rfl)) dX8_readOneOf_25 ⟨Nat.le_of_ble_eq_true rfl, Nat.le_of_ble_eq_true rfl⟩) (fun r24 hr24 => ?_)
                      obtain rfl : 28 = r24 := hr24.symm
                      refine lv_icmp_ge (tgt := 77) hx hb dX8_readOneOf_28 (by decide) (fun c25 => ?_) (fun c25 => ?_)
                      · exact absurd c25 (by decide)
                      · skip
                        refine lv_aload_n hx hb dX8_readOneOf_31 rfl (lv_at hl 5 rfl) ?_
                        refine lv_iload hx hb dX8_readOneOf_32 (lv_at hl 0 rfl) ?_
                        refine vp_callSi (W.runV (As := [.int 5]) (rest := []) ⟨hx, hb, hml, hown, ht⟩ (c_J0_charAt_5068e_1 l dC dI ak av 5 ⟨by decide, by decide⟩) (kV 1 ht m_715 m_716 m_717 m_91 m_718 rfl rfl hd_J0_charAt_5068e_v ⟨Nat.le_of_ble_eq_true rfl, Nat.le_of_ble_eq_true rfl⟩) (vRZ noP (hK.sub (tys' := []) [] rfl) ((hZ.kept hS.2.1).narrow (fun _ h => h.elim)) (vk_recv hZ.1.2.2.2.2.2 (i := 1) (by decide) hS)) rfl rfl hl.1 rfl (lv_room (Nat.le_of_ble_eq_true rfl)) dX8_readOneOf_34 ⟨Nat.le_of_ble_eq_true rfl, Nat.le_of_ble_eq_true rfl⟩) (fun r26 hr26 => ?_)
                        obtain rfl : 32 = r26 := (hr26.trans (by decide)).symm
                        refine lv_bipush (v := 32) hx hb dX8_readOneOf_37 (by decide) ?_
                        refine lv_icmp_ne (tgt := 71) hx hb dX8_readOneOf_39 (by decide) (fun c27 => ?_) (fun c27 => ?_)
                        · exact absurd rfl c27
                        · skip
                          refine lv_aload_n hx hb dX8_readOneOf_42 rfl (lv_at hl 4 rfl) ?_
                          refine lv_aload_n hx hb dX8_readOneOf_43 rfl (lv_at hl 5 rfl) ?_
                          refine lv_iload hx hb dX8_readOneOf_44 (lv_at hl 1 rfl) ?_
                          refine lv_iload hx hb dX8_readOneOf_46 (lv_at hl 0 rfl) ?_
                          refine lv_iload_n hx hb dX8_readOneOf_48 rfl (lv_at hl 3 rfl) ?_
                          refine vp_callSi (W.runV (As := [.ref (ak 1), .int 0, .int 5, .int r3]) (rest := []) ⟨hx, hb, hml, hown, ht⟩ (c_X8_isSame_1 l dC dI ak av h g ca (u2 iv 8 5 n2) lv fa la (IX_i (c := 8) (k := 5) hI (show inb (0, 200) n2 from ⟨by omega, by omega⟩)) 0 5 r3 ⟨by decide, by decide⟩ ⟨by decide, by decide⟩ ⟨by omega, by omega⟩) (kV 4 ht m_753 m_755 m_20 m_82 m_756 rfl rfl hd_X8_isSame_v ⟨Nat.le_of_ble_eq_true rfl, Nat.le_of_ble_eq_true rfl⟩) (vRZ hP hK ((hZ.kept hS.2.1).narrow (fun _ h => h.elim)) (rX_8 hK hP)) rfl rfl hl.1 rfl (lv_room (Nat.le_of_ble_eq_true rfl)) dX8_readOneOf_49 ⟨Nat.le_of_ble_eq_true rfl, Nat.le_of_ble_eq_true rfl⟩) (fun r28 hr28 => ?_)
                          refine lv_if_eq (tgt := 62) hx hb dX8_readOneOf_52 (by decide) (fun c29 => ?_) (fun c29 => ?_)
                          · have fc29 := z_eq (rfl : (r28).toInt = _) (by decide : (0 : Int32).toInt = 0) c29
                            refine lv_iinc (v := 1) (lv' := [(3, .int 1), (5, .int 5), (4, .int 0), (2, .int r3), (0, .ref (g 11 4)), (1, .ref (ak 1))]) hx hb dX8_readOneOf_62 hl (k := 2) rfl (by decide) (by decide) rfl (fun ls hl => ?_)
                            refine lv_iload hx hb dX8_readOneOf_65 (lv_at hl 1 rfl) ?_
                            refine lv_iconst (v := 1) hx hb dX8_readOneOf_67 (by decide) ?_
                            refine lv_iadd hx hb dX8_readOneOf_68 ?_
                            refine lv_topi (fun v30 ev30 => ?_)
                            obtain rfl : 6 = v30 := (ev30.trans (by decide)).symm
                            refine lv_istore (lv' := [(4, .int 6), (3, .int 1), (5, .int 5), (2, .int r3), (0, .ref (g 11 4)), (1, .ref (ak 1))]) hx hb dX8_readOneOf_69 hl (by decide) rfl (fun ls hl => ?_)
                            refine lv_iinc (v := 6) (lv' := [(5, .int 6), (4, .int 6), (3, .int 1), (2, .int r3), (0, .ref (g 11 4)), (1, .ref (ak 1))]) hx hb dX8_readOneOf_71 hl (k := 2) rfl (by decide) (by decide) rfl (fun ls hl => ?_)
                            refine lv_goto (tgt := 22) hx hb dX8_readOneOf_74 (by decide) ?_
                            refine lv_iload hx hb dX8_readOneOf_22 (lv_at hl 0 rfl) ?_
                            refine lv_aload_n hx hb dX8_readOneOf_24 rfl (lv_at hl 5 rfl) ?_
                            refine vp_callSi (W.runV (As := []) (rest := [.int 6]) ⟨hx, hb, hml, hown, ht⟩ (c_J0_length_8abf5_1 l dC dI ak av) (kV 0 ht m_705 m_706 m_707 m_91 m_708 rfl rfl hd_J0_length_8abf5_v ⟨Nat.le_of_ble_eq_true rfl, Nat.le_of_ble_eq_true rfl⟩) (vRZ noP (hK.sub (tys' := []) [] rfl) ((hZ.kept hS.2.1).narrow (fun _ h => h.elim)) (vk_recv hZ.1.2.2.2.2.2 (i := 1) (by decide) hS)) rfl rfl hl.1 rfl (lv_room (Nat.le_of_ble_eq_true rfl)) dX8_readOneOf_25 ⟨Nat.le_of_ble_eq_true rfl, Nat.le_of_ble_eq_true rfl⟩) (fun r31 hr31 => ?_)
                            obtain rfl : 28 = r31 := hr31.symm
                            refine lv_icmp_ge (tgt := 77) hx hb dX8_readOneOf_28 (by decide) (fun c32 => ?_) (fun c32 => ?_)
                            · exact absurd c32 (by decide)
                            · skip
                              refine lv_aload_n hx hb dX8_readOneOf_31 rfl (lv_at hl 5 rfl) ?_
                              refine lv_iload hx hb dX8_readOneOf_32 (lv_at hl 0 rfl) ?_
                              refine vp_callSi (W.runV (As := [.int 6]) (rest := []) ⟨hx, hb, hml, hown, ht⟩ (c_J0_charAt_5068e_1 l dC dI ak av 6 ⟨by decide, by decide⟩) (kV 1 ht m_715 m_716 m_717 m_91 m_718 rfl rfl hd_J0_charAt_5068e_v ⟨Nat.le_of_ble_eq_true rfl, Nat.le_of_ble_eq_true rfl⟩) (vRZ noP (hK.sub (tys' := []) [] rfl) ((hZ.kept hS.2.1).narrow (fun _ h => h.elim)) (vk_recv hZ.1.2.2.2.2.2 (i := 1) (by decide) hS)) rfl rfl hl.1 rfl (lv_room (Nat.le_of_ble_eq_true rfl)) dX8_readOneOf_34 ⟨Nat.le_of_ble_eq_true rfl, Nat.le_of_ble_eq_true rfl⟩) (fun r33 hr33 => ?_)
                              obtain rfl : 115 = r33 := (hr33.trans (by decide)).symm
                              refine lv_bipush (v := 32) hx hb dX8_readOneOf_37 (by decide) ?_
                              refine lv_icmp_ne (tgt := 71) hx hb dX8_readOneOf_39 (by decide) (fun c34 => ?_) (fun c34 => ?_)
                              · skip
                                refine lv_iinc (v := 7) (lv' := [(5, .int 7), (4, .int 6), (3, .int 1), (2, .int r3), (0, .ref (g 11 4)), (1, .ref (ak 1))]) hx hb dX8_readOneOf_71 hl (k := 0) rfl (by decide) (by decide) rfl (fun ls hl => ?_)
                                refine lv_goto (tgt := 22) hx hb dX8_readOneOf_74 (by decide) ?_
                                refine lv_iload hx hb dX8_readOneOf_22 (lv_at hl 0 rfl) ?_
                                refine lv_aload_n hx hb dX8_readOneOf_24 rfl (lv_at hl 5 rfl) ?_
                                refine vp_callSi (W.runV (As := []) (rest := [.int 7]) ⟨hx, hb, hml, hown, ht⟩ (c_J0_length_8abf5_1 l dC dI ak av) (kV 0 ht m_705 m_706 m_707 m_91 m_708 rfl rfl hd_J0_length_8abf5_v ⟨Nat.le_of_ble_eq_true rfl, Nat.le_of_ble_eq_true rfl⟩) (vRZ noP (hK.sub (tys' := []) [] rfl) ((hZ.kept hS.2.1).narrow (fun _ h => h.elim)) (vk_recv hZ.1.2.2.2.2.2 (i := 1) (by decide) hS)) rfl rfl hl.1 rfl (lv_room (Nat.le_of_ble_eq_true rfl)) dX8_readOneOf_25 ⟨Nat.le_of_ble_eq_true rfl, Nat.le_of_ble_eq_true rfl⟩) (fun r35 hr35 => ?_)
                                obtain rfl : 28 = r35 := hr35.symm
                                refine lv_icmp_ge (tgt := 77) hx hb dX8_readOneOf_28 (by decide) (fun c36 => ?_) (fun c36 => ?_)
                                · exact absurd c36 (by decide)
                                · skip
                                  refine lv_aload_n hx hb dX8_readOneOf_31 rfl (lv_at hl 5 rfl) ?_
                                  refine lv_iload hx hb dX8_readOneOf_32 (lv_at hl 0 rfl) ?_
                                  refine vp_callSi (W.runV (As := [.int 7]) (rest := []) ⟨hx, hb, hml, hown, ht⟩ (c_J0_charAt_5068e_1 l dC dI ak av 7 ⟨by decide, by decide⟩) (kV 1 ht m_715 m_716 m_717 m_91 m_718 rfl rfl hd_J0_charAt_5068e_v ⟨Nat.le_of_ble_eq_true rfl, Nat.le_of_ble_eq_true rfl⟩) (vRZ noP (hK.sub (tys' := []) [] rfl) ((hZ.kept hS.2.1).narrow (fun _ h => h.elim)) (vk_recv hZ.1.2.2.2.2.2 (i := 1) (by decide) hS)) rfl rfl hl.1 rfl (lv_room (Nat.le_of_ble_eq_true rfl)) dX8_readOneOf_34 ⟨Nat.le_of_ble_eq_true rfl, Nat.le_of_ble_eq_true rfl⟩) (fun r37 hr37 => ?_)
                                  obtain rfl : 107 = r37 := (hr37.trans (by decide)).symm
                                  refine lv_bipush (v := 32) hx hb dX8_readOneOf_37 (by decide) ?_
                                  refine lv_icmp_ne (tgt := 71) hx hb dX8_readOneOf_39 (by decide) (fun c38 => ?_) (fun c38 => ?_)
                                  · skip
                                    refine lv_iinc (v := 8) (lv' := [(5, .int 8), (4, .int 6), (3, .int 1), (2, .int r3), (0, .ref (g 11 4)), (1, .ref (ak 1))]) hx hb dX8_readOneOf_71 hl (k := 0) rfl (by decide) (by decide) rfl (fun ls hl => ?_)
                                    refine lv_goto (tgt := 22) hx hb dX8_readOneOf_74 (by decide) ?_
                                    refine lv_iload hx hb dX8_readOneOf_22 (lv_at hl 0 rfl) ?_
                                    refine lv_aload_n hx hb dX8_readOneOf_24 rfl (lv_at hl 5 rfl) ?_
                                    refine vp_callSi (W.runV (As := []) (rest := [.int 8]) ⟨hx, hb, hml, hown, ht⟩ (c_J0_length_8abf5_1 l dC dI ak av) (kV 0 ht m_705 m_706 m_707 m_91 m_708 rfl rfl hd_J0_length_8abf5_v ⟨Nat.le_of_ble_eq_true rfl, Nat.le_of_ble_eq_true rfl⟩) (vRZ noP (hK.sub (tys' := []) [] rfl) ((hZ.kept hS.2.1).narrow (fun _ h => h.elim)) (vk_recv hZ.1.2.2.2.2.2 (i := 1) (by decide) hS)) rfl rfl hl.1 rfl (lv_room (Nat.le_of_ble_eq_true rfl)) dX8_readOneOf_25 ⟨Nat.le_of_ble_eq_true rfl, Nat.le_of_ble_eq_true rfl⟩) (fun r39 hr39 => ?_)
                                    obtain rfl : 28 = r39 := hr39.symm
                                    refine lv_icmp_ge (tgt := 77) hx hb dX8_readOneOf_28 (by decide) (fun c40 => ?_) (fun c40 => ?_)
                                    · exact absurd c40 (by decide)
                                    · skip
                                      refine lv_aload_n hx hb dX8_readOneOf_31 rfl (lv_at hl 5 rfl) ?_
                                      refine lv_iload hx hb dX8_readOneOf_32 (lv_at hl 0 rfl) ?_
                                      refine vp_callSi (W.runV (As := [.int 8]) (rest := []) ⟨hx, hb, hml, hown, ht⟩ (c_J0_charAt_5068e_1 l dC dI ak av 8 ⟨by decide, by decide⟩) (kV 1 ht m_715 m_716 m_717 m_91 m_718 rfl rfl hd_J0_charAt_5068e_v ⟨Nat.le_of_ble_eq_true rfl, Nat.le_of_ble_eq_true rfl⟩) (vRZ noP (hK.sub (tys' := []) [] rfl) ((hZ.kept hS.2.1).narrow (fun _ h => h.elim)) (vk_recv hZ.1.2.2.2.2.2 (i := 1) (by decide) hS)) rfl rfl hl.1 rfl (lv_room (Nat.le_of_ble_eq_true rfl)) dX8_readOneOf_34 ⟨Nat.le_of_ble_eq_true rfl, Nat.le_of_ble_eq_true rfl⟩) (fun r41 hr41 => ?_)
                                      obtain rfl : 101 = r41 := (hr41.trans (by decide)).symm
                                      refine lv_bipush (v := 32) hx hb dX8_readOneOf_37 (by decide) ?_
                                      refine lv_icmp_ne (tgt := 71) hx hb dX8_readOneOf_39 (by decide) (fun c42 => ?_) (fun c42 => ?_)
                                      · skip
                                        refine lv_iinc (v := 9) (lv' := [(5, .int 9), (4, .int 6), (3, .int 1), (2, .int r3), (0, .ref (g 11 4)), (1, .ref (ak 1))]) hx hb dX8_readOneOf_71 hl (k := 0) rfl (by decide) (by decide) rfl (fun ls hl => ?_)
                                        refine lv_goto (tgt := 22) hx hb dX8_readOneOf_74 (by decide) ?_
                                        refine lv_iload hx hb dX8_readOneOf_22 (lv_at hl 0 rfl) ?_
                                        refine lv_aload_n hx hb dX8_readOneOf_24 rfl (lv_at hl 5 rfl) ?_
                                        refine vp_callSi (W.runV (As := []) (rest := [.int 9]) ⟨hx, hb, hml, hown, ht⟩ (c_J0_length_8abf5_1 l dC dI ak av) (kV 0 ht m_705 m_706 m_707 m_91 m_708 rfl rfl hd_J0_length_8abf5_v ⟨Nat.le_of_ble_eq_true rfl, Nat.le_of_ble_eq_true rfl⟩) (vRZ noP (hK.sub (tys' := []) [] rfl) ((hZ.kept hS.2.1).narrow (fun _ h => h.elim)) (vk_recv hZ.1.2.2.2.2.2 (i := 1) (by decide) hS)) rfl rfl hl.1 rfl (lv_room (Nat.le_of_ble_eq_true rfl)) dX8_readOneOf_25 ⟨Nat.le_of_ble_eq_true rfl, Nat.le_of_ble_eq_true rfl⟩) (fun r43 hr43 => ?_)
                                        obtain rfl : 28 = r43 := hr43.symm
                                        refine lv_icmp_ge (tgt := 77) hx hb dX8_readOneOf_28 (by decide) (fun c44 => ?_) (fun c44 => ?_)
                                        · exact absurd c44 (by decide)
                                        · skip
                                          refine lv_aload_n hx hb dX8_readOneOf_31 rfl (lv_at hl 5 rfl) ?_
                                          refine lv_iload hx hb dX8_readOneOf_32 (lv_at hl 0 rfl) ?_
                                          refine vp_callSi (W.runV (As := [.int 9]) (rest := []) ⟨hx, hb, hml, hown, ht⟩ (c_J0_charAt_5068e_1 l dC dI ak av 9 ⟨by decide, by decide⟩) (kV 1 ht m_715 m_716 m_717 m_91 m_718 rfl rfl hd_J0_charAt_5068e_v ⟨Nat.le_of_ble_eq_true rfl, Nat.le_of_ble_eq_true rfl⟩) (vRZ noP (hK.sub (tys' := []) [] rfl) ((hZ.kept hS.2.1).narrow (fun _ h => h.elim)) (vk_recv hZ.1.2.2.2.2.2 (i := 1) (by decide) hS)) rfl rfl hl.1 rfl (lv_room (Nat.le_of_ble_eq_true rfl)) dX8_readOneOf_34 ⟨Nat.le_of_ble_eq_true rfl, Nat.le_of_ble_eq_true rfl⟩) (fun r45 hr45 => ?_)
                                          obtain rfl : 105 = r45 := (hr45.trans (by decide)).symm
                                          refine lv_bipush (v := 32) hx hb dX8_readOneOf_37 (by decide) ?_
                                          refine lv_icmp_ne (tgt := 71) hx hb dX8_readOneOf_39 (by decide) (fun c46 => ?_) (fun c46 => ?_)
                                          · skip
                                            refine lv_iinc (v := 10) (lv' := [(5, .int 10), (4, .int 6), (3, .int 1), (2, .int r3), (0, .ref (g 11 4)), (1, .ref (ak 1))]) hx hb dX8_readOneOf_71 hl (k := 0) rfl (by decide) (by decide) rfl (fun ls hl => ?_)
                                            refine lv_goto (tgt := 22) hx hb dX8_readOneOf_74 (by decide) ?_
                                            refine lv_iload hx hb dX8_readOneOf_22 (lv_at hl 0 rfl) ?_
                                            refine lv_aload_n hx hb dX8_readOneOf_24 rfl (lv_at hl 5 rfl) ?_
                                            refine vp_callSi (W.runV (As := []) (rest := [.int 10]) ⟨hx, hb, hml, hown, ht⟩ (c_J0_length_8abf5_1 l dC dI ak av) (kV 0 ht m_705 m_706 m_707 m_91 m_708 rfl rfl hd_J0_length_8abf5_v ⟨Nat.le_of_ble_eq_true rfl, Nat.le_of_ble_eq_true rfl⟩) (vRZ noP (hK.sub (tys' := []) [] rfl) ((hZ.kept hS.2.1).narrow (fun _ h => h.elim)) (vk_recv hZ.1.2.2.2.2.2 (i := 1) (by decide) hS)) rfl rfl hl.1 rfl (lv_room (Nat.le_of_ble_eq_true rfl)) dX8_readOneOf_25 ⟨Nat.le_of_ble_eq_true rfl, Nat.le_of_ble_eq_true rfl⟩) (fun r47 hr47 => ?_)
                                            obtain rfl : 28 = r47 := hr47.symm
                                            refine lv_icmp_ge (tgt := 77) hx hb dX8_readOneOf_28 (by decide) (fun c48 => ?_) (fun c48 => ?_)
                                            · exact absurd c48 (by decide)
                                            · skip
                                              refine lv_aload_n hx hb dX8_readOneOf_31 rfl (lv_at hl 5 rfl) ?_
                                              refine lv_iload hx hb dX8_readOneOf_32 (lv_at hl 0 rfl) ?_
                                              refine vp_callSi (W.runV (As := [.int 10]) (rest := []) ⟨hx, hb, hml, hown, ht⟩ (c_J0_charAt_5068e_1 l dC dI ak av 10 ⟨by decide, by decide⟩) (kV 1 ht m_715 m_716 m_717 m_91 m_718 rfl rfl hd_J0_charAt_5068e_v ⟨Nat.le_of_ble_eq_true rfl, Nat.le_of_ble_eq_true rfl⟩) (vRZ noP (hK.sub (tys' := []) [] rfl) ((hZ.kept hS.2.1).narrow (fun _ h => h.elim)) (vk_recv hZ.1.2.2.2.2.2 (i := 1) (by decide) hS)) rfl rfl hl.1 rfl (lv_room (Nat.le_of_ble_eq_true rfl)) dX8_readOneOf_34 ⟨Nat.le_of_ble_eq_true rfl, Nat.le_of_ble_eq_true rfl⟩) (fun r49 hr49 => ?_)
                                              obtain rfl : 110 = r49 := (hr49.trans (by decide)).symm
                                              refine lv_bipush (v := 32) hx hb dX8_readOneOf_37 (by decide) ?_
                                              refine lv_icmp_ne (tgt := 71) hx hb dX8_readOneOf_39 (by decide) (fun c50 => ?_) (fun c50 => ?_)
                                              · skip
                                                refine lv_iinc (v := 11) (lv' := [(5, .int 11), (4, .int 6), (3, .int 1), (2, .int r3), (0, .ref (g 11 4)), (1, .ref (ak 1))]) hx hb dX8_readOneOf_71 hl (k := 0) rfl (by decide) (by decide) rfl (fun ls hl => ?_)
                                                refine lv_goto (tgt := 22) hx hb dX8_readOneOf_74 (by decide) ?_
                                                refine lv_iload hx hb dX8_readOneOf_22 (lv_at hl 0 rfl) ?_
                                                refine lv_aload_n hx hb dX8_readOneOf_24 rfl (lv_at hl 5 rfl) ?_
                                                refine vp_callSi (W.runV (As := []) (rest := [.int 11]) ⟨hx, hb, hml, hown, ht⟩ (c_J0_length_8abf5_1 l dC dI ak av) (kV 0 ht m_705 m_706 m_707 m_91 m_708 rfl rfl hd_J0_length_8abf5_v ⟨Nat.le_of_ble_eq_true rfl, Nat.le_of_ble_eq_true rfl⟩) (vRZ noP (hK.sub (tys' := []) [] rfl) ((hZ.kept hS.2.1).narrow (fun _ h => h.elim)) (vk_recv hZ.1.2.2.2.2.2 (i := 1) (by decide) hS)) rfl rfl hl.1 rfl (lv_room (Nat.le_of_ble_eq_true rfl)) dX8_readOneOf_25 ⟨Nat.le_of_ble_eq_true rfl, Nat.le_of_ble_eq_true rfl⟩) (fun r51 hr51 => ?_)
                                                obtain rfl : 28 = r51 := hr51.symm
                                                refine lv_icmp_ge (tgt := 77) hx hb dX8_readOneOf_28 (by decide) (fun c52 => ?_) (fun c52 => ?_)
                                                · exact absurd c52 (by decide)
                                                · skip
                                                  refine lv_aload_n hx hb dX8_readOneOf_31 rfl (lv_at hl 5 rfl) ?_
                                                  refine lv_iload hx hb dX8_readOneOf_32 (lv_at hl 0 rfl) ?_
                                                  refine vp_callSi (W.runV (As := [.int 11]) (rest := []) ⟨hx, hb, hml, hown, ht⟩ (c_J0_charAt_5068e_1 l dC dI ak av 11 ⟨by decide, by decide⟩) (kV 1 ht m_715 m_716 m_717 m_91 m_718 rfl rfl hd_J0_charAt_5068e_v ⟨Nat.le_of_ble_eq_true rfl, Nat.le_of_ble_eq_true rfl⟩) (vRZ noP (hK.sub (tys' := []) [] rfl) ((hZ.kept hS.2.1).narrow (fun _ h => h.elim)) (vk_recv hZ.1.2.2.2.2.2 (i := 1) (by decide) hS)) rfl rfl hl.1 rfl (lv_room (Nat.le_of_ble_eq_true rfl)) dX8_readOneOf_34 ⟨Nat.le_of_ble_eq_true rfl, Nat.le_of_ble_eq_true rfl⟩) (fun r53 hr53 => ?_)
                                                  obtain rfl : 115 = r53 := (hr53.trans (by decide)).symm
                                                  refine lv_bipush (v := 32) hx hb dX8_readOneOf_37 (by decide) ?_
                                                  refine lv_icmp_ne (tgt := 71) hx hb dX8_readOneOf_39 (by decide) (fun c54 => ?_) (fun c54 => ?_)
                                                  · skip
                                                    refine lv_iinc (v := 12) (lv' := [(5, .int 12), (4, .int 6), (3, .int 1), (2, .int r3), (0, .ref (g 11 4)), (1, .ref (ak 1))]) hx hb dX8_readOneOf_71 hl (k := 0) rfl (by decide) (by decide) rfl (fun ls hl => ?_)
                                                    refine lv_goto (tgt := 22) hx hb dX8_readOneOf_74 (by decide) ?_
                                                    refine lv_iload hx hb dX8_readOneOf_22 (lv_at hl 0 rfl) ?_
                                                    refine lv_aload_n hx hb dX8_readOneOf_24 rfl (lv_at hl 5 rfl) ?_
                                                    refine vp_callSi (W.runV (As := []) (rest := [.int 12]) ⟨hx, hb, hml, hown, ht⟩ (c_J0_length_8abf5_1 l dC dI ak av) (kV 0 ht m_705 m_706 m_707 m_91 m_708 rfl rfl hd_J0_length_8abf5_v ⟨Nat.le_of_ble_eq_true rfl, Nat.le_of_ble_eq_true rfl⟩) (vRZ noP (hK.sub (tys' := []) [] rfl) ((hZ.kept hS.2.1).narrow (fun _ h => h.elim)) (vk_recv hZ.1.2.2.2.2.2 (i := 1) (by decide) hS)) rfl rfl hl.1 rfl (lv_room (Nat.le_of_ble_eq_true rfl)) dX8_readOneOf_25 ⟨Nat.le_of_ble_eq_true rfl, Nat.le_of_ble_eq_true rfl⟩) (fun r55 hr55 => ?_)
                                                    obtain rfl : 28 = r55 := hr55.symm
                                                    refine lv_icmp_ge (tgt := 77) hx hb dX8_readOneOf_28 (by decide) (fun c56 => ?_) (fun c56 => ?_)
                                                    · exact absurd c56 (by decide)
                                                    · skip
                                                      refine lv_aload_n hx hb dX8_readOneOf_31 rfl (lv_at hl 5 rfl) ?_
                                                      refine lv_iload hx hb dX8_readOneOf_32 (lv_at hl 0 rfl) ?_
                                                      refine vp_callSi (W.runV (As := [.int 12]) (rest := []) ⟨hx, hb, hml, hown, ht⟩ (c_J0_charAt_5068e_1 l dC dI ak av 12 ⟨by decide, by decide⟩) (kV 1 ht m_715 m_716 m_717 m_91 m_718 rfl rfl hd_J0_charAt_5068e_v ⟨Nat.le_of_ble_eq_true rfl, Nat.le_of_ble_eq_true rfl⟩) (vRZ noP (hK.sub (tys' := []) [] rfl) ((hZ.kept hS.2.1).narrow (fun _ h => h.elim)) (vk_recv hZ.1.2.2.2.2.2 (i := 1) (by decide) hS)) rfl rfl hl.1 rfl (lv_room (Nat.le_of_ble_eq_true rfl)) dX8_readOneOf_34 ⟨Nat.le_of_ble_eq_true rfl, Nat.le_of_ble_eq_true rfl⟩) (fun r57 hr57 => ?_)
                                                      obtain rfl : 32 = r57 := (hr57.trans (by decide)).symm
                                                      refine lv_bipush (v := 32) hx hb dX8_readOneOf_37 (by decide) ?_
                                                      refine lv_icmp_ne (tgt := 71) hx hb dX8_readOneOf_39 (by decide) (fun c58 => ?_) (fun c58 => ?_)
                                                      · exact absurd rfl c58
                                                      · skip
                                                        refine lv_aload_n hx hb dX8_readOneOf_42 rfl (lv_at hl 4 rfl) ?_
                                                        refine lv_aload_n hx hb dX8_readOneOf_43 rfl (lv_at hl 5 rfl) ?_
                                                        refine lv_iload hx hb dX8_readOneOf_44 (lv_at hl 1 rfl) ?_
                                                        refine lv_iload hx hb dX8_readOneOf_46 (lv_at hl 0 rfl) ?_
                                                        refine lv_iload_n hx hb dX8_readOneOf_48 rfl (lv_at hl 3 rfl) ?_
                                                        refine vp_callSi (W.runV (As := [.ref (ak 1), .int 6, .int 12, .int r3]) (rest := []) ⟨hx, hb, hml, hown, ht⟩ (c_X8_isSame_1 l dC dI ak av h g ca (u2 iv 8 5 n2) lv fa la (IX_i (c := 8) (k := 5) hI (show inb (0, 200) n2 from ⟨by omega, by omega⟩)) 6 12 r3 ⟨by decide, by decide⟩ ⟨by decide, by decide⟩ ⟨by omega, by omega⟩) (kV 4 ht m_753 m_755 m_20 m_82 m_756 rfl rfl hd_X8_isSame_v ⟨Nat.le_of_ble_eq_true rfl, Nat.le_of_ble_eq_true rfl⟩) (vRZ hP hK ((hZ.kept hS.2.1).narrow (fun _ h => h.elim)) (rX_8 hK hP)) rfl rfl hl.1 rfl (lv_room (Nat.le_of_ble_eq_true rfl)) dX8_readOneOf_49 ⟨Nat.le_of_ble_eq_true rfl, Nat.le_of_ble_eq_true rfl⟩) (fun r59 hr59 => ?_)
                                                        refine lv_if_eq (tgt := 62) hx hb dX8_readOneOf_52 (by decide) (fun c60 => ?_) (fun c60 => ?_)
                                                        · have fc60 := z_eq (rfl : (r59).toInt = _) (by decide : (0 : Int32).toInt = 0) c60
                                                          refine lv_iinc (v := 2) (lv' := [(3, .int 2), (5, .int 12), (4, .int 6), (2, .int r3), (0, .ref (g 11 4)), (1, .ref (ak 1))]) hx hb dX8_readOneOf_62 hl (k := 2) rfl (by decide) (by decide) rfl (fun ls hl => ?_)
                                                          refine lv_iload hx hb dX8_readOneOf_65 (lv_at hl 1 rfl) ?_
                                                          refine lv_iconst (v := 1) hx hb dX8_readOneOf_67 (by decide) ?_
                                                          refine lv_iadd hx hb dX8_readOneOf_68 ?_
                                                          refine lv_topi (fun v61 ev61 => ?_)
                                                          obtain rfl : 13 = v61 := (ev61.trans (by decide)).symm
                                                          refine lv_istore (lv' := [(4, .int 13), (3, .int 2), (5, .int 12), (2, .int r3), (0, .ref (g 11 4)), (1, .ref (ak 1))]) hx hb dX8_readOneOf_69 hl (by decide) rfl (fun ls hl => ?_)
                                                          refine lv_iinc (v := 13) (lv' := [(5, .int 13), (4, .int 13), (3, .int 2), (2, .int r3), (0, .ref (g 11 4)), (1, .ref (ak 1))]) hx hb dX8_readOneOf_71 hl (k := 2) rfl (by decide) (by decide) rfl (fun ls hl => ?_)
                                                          refine lv_goto (tgt := 22) hx hb dX8_readOneOf_74 (by decide) ?_
                                                          refine lv_iload hx hb dX8_readOneOf_22 (lv_at hl 0 rfl) ?_
                                                          refine lv_aload_n hx hb dX8_readOneOf_24 rfl (lv_at hl 5 rfl) ?_
                                                          refine vp_callSi (W.runV (As := []) (rest := [.int 13]) ⟨hx, hb, hml, hown, ht⟩ (c_J0_length_8abf5_1 l dC dI ak av) (kV 0 ht m_705 m_706 m_707 m_91 m_708 rfl rfl hd_J0_length_8abf5_v ⟨Nat.le_of_ble_eq_true rfl, Nat.le_of_ble_eq_true rfl⟩) (vRZ noP (hK.sub (tys' := []) [] rfl) ((hZ.kept hS.2.1).narrow (fun _ h => h.elim)) (vk_recv hZ.1.2.2.2.2.2 (i := 1) (by decide) hS)) rfl rfl hl.1 rfl (lv_room (Nat.le_of_ble_eq_true rfl)) dX8_readOneOf_25 ⟨Nat.le_of_ble_eq_true rfl, Nat.le_of_ble_eq_true rfl⟩) (fun r62 hr62 => ?_)
                                                          obtain rfl : 28 = r62 := hr62.symm
                                                          refine lv_icmp_ge (tgt := 77) hx hb dX8_readOneOf_28 (by decide) (fun c63 => ?_) (fun c63 => ?_)
                                                          · exact absurd c63 (by decide)
                                                          · skip
                                                            refine lv_aload_n hx hb dX8_readOneOf_31 rfl (lv_at hl 5 rfl) ?_
                                                            refine lv_iload hx hb dX8_readOneOf_32 (lv_at hl 0 rfl) ?_
                                                            refine vp_callSi (W.runV (As := [.int 13]) (rest := []) ⟨hx, hb, hml, hown, ht⟩ (c_J0_charAt_5068e_1 l dC dI ak av 13 ⟨by decide, by decide⟩) (kV 1 ht m_715 m_716 m_717 m_91 m_718 rfl rfl hd_J0_charAt_5068e_v ⟨Nat.le_of_ble_eq_true rfl, Nat.le_of_ble_eq_true rfl⟩) (vRZ noP (hK.sub (tys' := []) [] rfl) ((hZ.kept hS.2.1).narrow (fun _ h => h.elim)) (vk_recv hZ.1.2.2.2.2.2 (i := 1) (by decide) hS)) rfl rfl hl.1 rfl (lv_room (Nat.le_of_ble_eq_true rfl)) dX8_readOneOf_34 ⟨Nat.le_of_ble_eq_true rfl, Nat.le_of_ble_eq_true rfl⟩) (fun r64 hr64 => ?_)
                                                            obtain rfl : 112 = r64 := (hr64.trans (by decide)).symm
                                                            refine lv_bipush (v := 32) hx hb dX8_readOneOf_37 (by decide) ?_
                                                            refine lv_icmp_ne (tgt := 71) hx hb dX8_readOneOf_39 (by decide) (fun c65 => ?_) (fun c65 => ?_)
                                                            · skip
                                                              refine lv_iinc (v := 14) (lv' := [(5, .int 14), (4, .int 13), (3, .int 2), (2, .int r3), (0, .ref (g 11 4)), (1, .ref (ak 1))]) hx hb dX8_readOneOf_71 hl (k := 0) rfl (by decide) (by decide) rfl (fun ls hl => ?_)
                                                              refine lv_goto (tgt := 22) hx hb dX8_readOneOf_74 (by decide) ?_
                                                              refine lv_iload hx hb dX8_readOneOf_22 (lv_at hl 0 rfl) ?_
                                                              refine lv_aload_n hx hb dX8_readOneOf_24 rfl (lv_at hl 5 rfl) ?_
                                                              refine vp_callSi (W.runV (As := []) (rest := [.int 14]) ⟨hx, hb, hml, hown, ht⟩ (c_J0_length_8abf5_1 l dC dI ak av) (kV 0 ht m_705 m_706 m_707 m_91 m_708 rfl rfl hd_J0_length_8abf5_v ⟨Nat.le_of_ble_eq_true rfl, Nat.le_of_ble_eq_true rfl⟩) (vRZ noP (hK.sub (tys' := []) [] rfl) ((hZ.kept hS.2.1).narrow (fun _ h => h.elim)) (vk_recv hZ.1.2.2.2.2.2 (i := 1) (by decide) hS)) rfl rfl hl.1 rfl (lv_room (Nat.le_of_ble_eq_true rfl)) dX8_readOneOf_25 ⟨Nat.le_of_ble_eq_true rfl, Nat.le_of_ble_eq_true rfl⟩) (fun r66 hr66 => ?_)
                                                              obtain rfl : 28 = r66 := hr66.symm
                                                              refine lv_icmp_ge (tgt := 77) hx hb dX8_readOneOf_28 (by decide) (fun c67 => ?_) (fun c67 => ?_)
                                                              · exact absurd c67 (by decide)
                                                              · skip
                                                                refine lv_aload_n hx hb dX8_readOneOf_31 rfl (lv_at hl 5 rfl) ?_
                                                                refine lv_iload hx hb dX8_readOneOf_32 (lv_at hl 0 rfl) ?_
                                                                refine vp_callSi (W.runV (As := [.int 14]) (rest := []) ⟨hx, hb, hml, hown, ht⟩ (c_J0_charAt_5068e_1 l dC dI ak av 14 ⟨by decide, by decide⟩) (kV 1 ht m_715 m_716 m_717 m_91 m_718 rfl rfl hd_J0_charAt_5068e_v ⟨Nat.le_of_ble_eq_true rfl, Nat.le_of_ble_eq_true rfl⟩) (vRZ noP (hK.sub (tys' := []) [] rfl) ((hZ.kept hS.2.1).narrow (fun _ h => h.elim)) (vk_recv hZ.1.2.2.2.2.2 (i := 1) (by decide) hS)) rfl rfl hl.1 rfl (lv_room (Nat.le_of_ble_eq_true rfl)) dX8_readOneOf_34 ⟨Nat.le_of_ble_eq_true rfl, Nat.le_of_ble_eq_true rfl⟩) (fun r68 hr68 => ?_)
                                                                obtain rfl : 97 = r68 := (hr68.trans (by decide)).symm
                                                                refine lv_bipush (v := 32) hx hb dX8_readOneOf_37 (by decide) ?_
                                                                refine lv_icmp_ne (tgt := 71) hx hb dX8_readOneOf_39 (by decide) (fun c69 => ?_) (fun c69 => ?_)
                                                                · skip
                                                                  refine lv_iinc (v := 15) (lv' := [(5, .int 15), (4, .int 13), (3, .int 2), (2, .int r3), (0, .ref (g 11 4)), (1, .ref (ak 1))]) hx hb dX8_readOneOf_71 hl (k := 0) rfl (by decide) (by decide) rfl (fun ls hl => ?_)
                                                                  refine lv_goto (tgt := 22) hx hb dX8_readOneOf_74 (by decide) ?_
                                                                  refine lv_iload hx hb dX8_readOneOf_22 (lv_at hl 0 rfl) ?_
                                                                  refine lv_aload_n hx hb dX8_readOneOf_24 rfl (lv_at hl 5 rfl) ?_
                                                                  refine vp_callSi (W.runV (As := []) (rest := [.int 15]) ⟨hx, hb, hml, hown, ht⟩ (c_J0_length_8abf5_1 l dC dI ak av) (kV 0 ht m_705 m_706 m_707 m_91 m_708 rfl rfl hd_J0_length_8abf5_v ⟨Nat.le_of_ble_eq_true rfl, Nat.le_of_ble_eq_true rfl⟩) (vRZ noP (hK.sub (tys' := []) [] rfl) ((hZ.kept hS.2.1).narrow (fun _ h => h.elim)) (vk_recv hZ.1.2.2.2.2.2 (i := 1) (by decide) hS)) rfl rfl hl.1 rfl (lv_room (Nat.le_of_ble_eq_true rfl)) dX8_readOneOf_25 ⟨Nat.le_of_ble_eq_true rfl, Nat.le_of_ble_eq_true rfl⟩) (fun r70 hr70 => ?_)
                                                                  obtain rfl : 28 = r70 := hr70.symm
                                                                  refine lv_icmp_ge (tgt := 77) hx hb dX8_readOneOf_28 (by decide) (fun c71 => ?_) (fun c71 => ?_)
                                                                  · exact absurd c71 (by decide)
                                                                  · skip
                                                                    refine lv_aload_n hx hb dX8_readOneOf_31 rfl (lv_at hl 5 rfl) ?_
                                                                    refine lv_iload hx hb dX8_readOneOf_32 (lv_at hl 0 rfl) ?_
                                                                    refine vp_callSi (W.runV (As := [.int 15]) (rest := []) ⟨hx, hb, hml, hown, ht⟩ (c_J0_charAt_5068e_1 l dC dI ak av 15 ⟨by decide, by decide⟩) (kV 1 ht m_715 m_716 m_717 m_91 m_718 rfl rfl hd_J0_charAt_5068e_v ⟨Nat.le_of_ble_eq_true rfl, Nat.le_of_ble_eq_true rfl⟩) (vRZ noP (hK.sub (tys' := []) [] rfl) ((hZ.kept hS.2.1).narrow (fun _ h => h.elim)) (vk_recv hZ.1.2.2.2.2.2 (i := 1) (by decide) hS)) rfl rfl hl.1 rfl (lv_room (Nat.le_of_ble_eq_true rfl)) dX8_readOneOf_34 ⟨Nat.le_of_ble_eq_true rfl, Nat.le_of_ble_eq_true rfl⟩) (fun r72 hr72 => ?_)
                                                                    obtain rfl : 114 = r72 := (hr72.trans (by decide)).symm
                                                                    refine lv_bipush (v := 32) hx hb dX8_readOneOf_37 (by decide) ?_
                                                                    refine lv_icmp_ne (tgt := 71) hx hb dX8_readOneOf_39 (by decide) (fun c73 => ?_) (fun c73 => ?_)
                                                                    · skip
                                                                      refine lv_iinc (v := 16) (lv' := [(5, .int 16), (4, .int 13), (3, .int 2), (2, .int r3), (0, .ref (g 11 4)), (1, .ref (ak 1))]) hx hb dX8_readOneOf_71 hl (k := 0) rfl (by decide) (by decide) rfl (fun ls hl => ?_)
                                                                      refine lv_goto (tgt := 22) hx hb dX8_readOneOf_74 (by decide) ?_
                                                                      refine lv_iload hx hb dX8_readOneOf_22 (lv_at hl 0 rfl) ?_
                                                                      refine lv_aload_n hx hb dX8_readOneOf_24 rfl (lv_at hl 5 rfl) ?_
                                                                      refine vp_callSi (W.runV (As := []) (rest := [.int 16]) ⟨hx, hb, hml, hown, ht⟩ (c_J0_length_8abf5_1 l dC dI ak av) (kV 0 ht m_705 m_706 m_707 m_91 m_708 rfl rfl hd_J0_length_8abf5_v ⟨Nat.le_of_ble_eq_true rfl, Nat.le_of_ble_eq_true rfl⟩) (vRZ noP (hK.sub (tys' := []) [] rfl) ((hZ.kept hS.2.1).narrow (fun _ h => h.elim)) (vk_recv hZ.1.2.2.2.2.2 (i := 1) (by decide) hS)) rfl rfl hl.1 rfl (lv_room (Nat.le_of_ble_eq_true rfl)) dX8_readOneOf_25 ⟨Nat.le_of_ble_eq_true rfl, Nat.le_of_ble_eq_true rfl⟩) (fun r74 hr74 => ?_)
                                                                      obtain rfl : 28 = r74 := hr74.symm
                                                                      refine lv_icmp_ge (tgt := 77) hx hb dX8_readOneOf_28 (by decide) (fun c75 => ?_) (fun c75 => ?_)
                                                                      · exact absurd c75 (by decide)
                                                                      · skip
                                                                        refine lv_aload_n hx hb dX8_readOneOf_31 rfl (lv_at hl 5 rfl) ?_
                                                                        refine lv_iload hx hb dX8_readOneOf_32 (lv_at hl 0 rfl) ?_
                                                                        refine vp_callSi (W.runV (As := [.int 16]) (rest := []) ⟨hx, hb, hml, hown, ht⟩ (c_J0_charAt_5068e_1 l dC dI ak av 16 ⟨by decide, by decide⟩) (kV 1 ht m_715 m_716 m_717 m_91 m_718 rfl rfl hd_J0_charAt_5068e_v ⟨Nat.le_of_ble_eq_true rfl, Nat.le_of_ble_eq_true rfl⟩) (vRZ noP (hK.sub (tys' := []) [] rfl) ((hZ.kept hS.2.1).narrow (fun _ h => h.elim)) (vk_recv hZ.1.2.2.2.2.2 (i := 1) (by decide) hS)) rfl rfl hl.1 rfl (lv_room (Nat.le_of_ble_eq_true rfl)) dX8_readOneOf_34 ⟨Nat.le_of_ble_eq_true rfl, Nat.le_of_ble_eq_true rfl⟩) (fun r76 hr76 => ?_)
                                                                        obtain rfl : 116 = r76 := (hr76.trans (by decide)).symm
                                                                        refine lv_bipush (v := 32) hx hb dX8_readOneOf_37 (by decide) ?_
                                                                        refine lv_icmp_ne (tgt := 71) hx hb dX8_readOneOf_39 (by decide) (fun c77 => ?_) (fun c77 => ?_)
                                                                        · skip
                                                                          refine lv_iinc (v := 17) (lv' := [(5, .int 17), (4, .int 13), (3, .int 2), (2, .int r3), (0, .ref (g 11 4)), (1, .ref (ak 1))]) hx hb dX8_readOneOf_71 hl (k := 0) rfl (by decide) (by decide) rfl (fun ls hl => ?_)
                                                                          refine lv_goto (tgt := 22) hx hb dX8_readOneOf_74 (by decide) ?_
                                                                          refine lv_iload hx hb dX8_readOneOf_22 (lv_at hl 0 rfl) ?_
                                                                          refine lv_aload_n hx hb dX8_readOneOf_24 rfl (lv_at hl 5 rfl) ?_
                                                                          refine vp_callSi (W.runV (As := []) (rest := [.int 17]) ⟨hx, hb, hml, hown, ht⟩ (c_J0_length_8abf5_1 l dC dI ak av) (kV 0 ht m_705 m_706 m_707 m_91 m_708 rfl rfl hd_J0_length_8abf5_v ⟨Nat.le_of_ble_eq_true rfl, Nat.le_of_ble_eq_true rfl⟩) (vRZ noP (hK.sub (tys' := []) [] rfl) ((hZ.kept hS.2.1).narrow (fun _ h => h.elim)) (vk_recv hZ.1.2.2.2.2.2 (i := 1) (by decide) hS)) rfl rfl hl.1 rfl (lv_room (Nat.le_of_ble_eq_true rfl)) dX8_readOneOf_25 ⟨Nat.le_of_ble_eq_true rfl, Nat.le_of_ble_eq_true rfl⟩) (fun r78 hr78 => ?_)
                                                                          obtain rfl : 28 = r78 := hr78.symm
                                                                          refine lv_icmp_ge (tgt := 77) hx hb dX8_readOneOf_28 (by decide) (fun c79 => ?_) (fun c79 => ?_)
                                                                          · exact absurd c79 (by decide)
                                                                          · skip
                                                                            refine lv_aload_n hx hb dX8_readOneOf_31 rfl (lv_at hl 5 rfl) ?_
                                                                            refine lv_iload hx hb dX8_readOneOf_32 (lv_at hl 0 rfl) ?_
                                                                            refine vp_callSi (W.runV (As := [.int 17]) (rest := []) ⟨hx, hb, hml, hown, ht⟩ (c_J0_charAt_5068e_1 l dC dI ak av 17 ⟨by decide, by decide⟩) (kV 1 ht m_715 m_716 m_717 m_91 m_718 rfl rfl hd_J0_charAt_5068e_v ⟨Nat.le_of_ble_eq_true rfl, Nat.le_of_ble_eq_true rfl⟩) (vRZ noP (hK.sub (tys' := []) [] rfl) ((hZ.kept hS.2.1).narrow (fun _ h => h.elim)) (vk_recv hZ.1.2.2.2.2.2 (i := 1) (by decide) hS)) rfl rfl hl.1 rfl (lv_room (Nat.le_of_ble_eq_true rfl)) dX8_readOneOf_34 ⟨Nat.le_of_ble_eq_true rfl, Nat.le_of_ble_eq_true rfl⟩) (fun r80 hr80 => ?_)
                                                                            obtain rfl : 32 = r80 := (hr80.trans (by decide)).symm
                                                                            refine lv_bipush (v := 32) hx hb dX8_readOneOf_37 (by decide) ?_
                                                                            refine lv_icmp_ne (tgt := 71) hx hb dX8_readOneOf_39 (by decide) (fun c81 => ?_) (fun c81 => ?_)
                                                                            · exact absurd rfl c81
                                                                            · skip
                                                                              refine lv_aload_n hx hb dX8_readOneOf_42 rfl (lv_at hl 4 rfl) ?_
                                                                              refine lv_aload_n hx hb dX8_readOneOf_43 rfl (lv_at hl 5 rfl) ?_
                                                                              refine lv_iload hx hb dX8_readOneOf_44 (lv_at hl 1 rfl) ?_
                                                                              refine lv_iload hx hb dX8_readOneOf_46 (lv_at hl 0 rfl) ?_
                                                                              refine lv_iload_n hx hb dX8_readOneOf_48 rfl (lv_at hl 3 rfl) ?_
                                                                              refine vp_callSi (W.runV (As := [.ref (ak 1), .int 13, .int 17, .int r3]) (rest := []) ⟨hx, hb, hml, hown, ht⟩ (c_X8_isSame_1 l dC dI ak av h g ca (u2 iv 8 5 n2) lv fa la (IX_i (c := 8) (k := 5) hI (show inb (0, 200) n2 from ⟨by omega, by omega⟩)) 13 17 r3 ⟨by decide, by decide⟩ ⟨by decide, by decide⟩ ⟨by omega, by omega⟩) (kV 4 ht m_753 m_755 m_20 m_82 m_756 rfl rfl hd_X8_isSame_v ⟨Nat.le_of_ble_eq_true rfl, Nat.le_of_ble_eq_true rfl⟩) (vRZ hP hK ((hZ.kept hS.2.1).narrow (fun _ h => h.elim)) (rX_8 hK hP)) rfl rfl hl.1 rfl (lv_room (Nat.le_of_ble_eq_true rfl)) dX8_readOneOf_49 ⟨Nat.le_of_ble_eq_true rfl, Nat.le_of_ble_eq_true rfl⟩) (fun r82 hr82 => ?_)
                                                                              refine lv_if_eq (tgt := 62) hx hb dX8_readOneOf_52 (by decide) (fun c83 => ?_) (fun c83 => ?_)
                                                                              · have fc83 := z_eq (rfl : (r82).toInt = _) (by decide : (0 : Int32).toInt = 0) c83
                                                                                refine lv_iinc (v := 3) (lv' := [(3, .int 3), (5, .int 17), (4, .int 13), (2, .int r3), (0, .ref (g 11 4)), (1, .ref (ak 1))]) hx hb dX8_readOneOf_62 hl (k := 2) rfl (by decide) (by decide) rfl (fun ls hl => ?_)
                                                                                refine lv_iload hx hb dX8_readOneOf_65 (lv_at hl 1 rfl) ?_
                                                                                refine lv_iconst (v := 1) hx hb dX8_readOneOf_67 (by decide) ?_
                                                                                refine lv_iadd hx hb dX8_readOneOf_68 ?_
                                                                                refine lv_topi (fun v84 ev84 => ?_)
                                                                                obtain rfl : 18 = v84 := (ev84.trans (by decide)).symm
                                                                                refine lv_istore (lv' := [(4, .int 18), (3, .int 3), (5, .int 17), (2, .int r3), (0, .ref (g 11 4)), (1, .ref (ak 1))]) hx hb dX8_readOneOf_69 hl (by decide) rfl (fun ls hl => ?_)
                                                                                refine lv_iinc (v := 18) (lv' := [(5, .int 18), (4, .int 18), (3, .int 3), (2, .int r3), (0, .ref (g 11 4)), (1, .ref (ak 1))]) hx hb dX8_readOneOf_71 hl (k := 2) rfl (by decide) (by decide) rfl (fun ls hl => ?_)
                                                                                refine lv_goto (tgt := 22) hx hb dX8_readOneOf_74 (by decide) ?_
                                                                                refine lv_iload hx hb dX8_readOneOf_22 (lv_at hl 0 rfl) ?_
                                                                                refine lv_aload_n hx hb dX8_readOneOf_24 rfl (lv_at hl 5 rfl) ?_
                                                                                refine vp_callSi (W.runV (As := []) (rest := [.int 18]) ⟨hx, hb, hml, hown, ht⟩ (c_J0_length_8abf5_1 l dC dI ak av) (kV 0 ht m_705 m_706 m_707 m_91 m_708 rfl rfl hd_J0_length_8abf5_v ⟨Nat.le_of_ble_eq_true rfl, Nat.le_of_ble_eq_true rfl⟩) (vRZ noP (hK.sub (tys' := []) [] rfl) ((hZ.kept hS.2.1).narrow (fun _ h => h.elim)) (vk_recv hZ.1.2.2.2.2.2 (i := 1) (by decide) hS)) rfl rfl hl.1 rfl (lv_room (Nat.le_of_ble_eq_true rfl)) dX8_readOneOf_25 ⟨Nat.le_of_ble_eq_true rfl, Nat.le_of_ble_eq_true rfl⟩) (fun r85 hr85 => ?_)
                                                                                obtain rfl : 28 = r85 := hr85.symm
                                                                                refine lv_icmp_ge (tgt := 77) hx hb dX8_readOneOf_28 (by decide) (fun c86 => ?_) (fun c86 => ?_)
                                                                                · exact absurd c86 (by decide)
                                                                                · skip
                                                                                  refine lv_aload_n hx hb dX8_readOneOf_31 rfl (lv_at hl 5 rfl) ?_
                                                                                  refine lv_iload hx hb dX8_readOneOf_32 (lv_at hl 0 rfl) ?_
                                                                                  refine vp_callSi (W.runV (As := [.int 18]) (rest := []) ⟨hx, hb, hml, hown, ht⟩ (c_J0_charAt_5068e_1 l dC dI ak av 18 ⟨by decide, by decide⟩) (kV 1 ht m_715 m_716 m_717 m_91 m_718 rfl rfl hd_J0_charAt_5068e_v ⟨Nat.le_of_ble_eq_true rfl, Nat.le_of_ble_eq_true rfl⟩) (vRZ noP (hK.sub (tys' := []) [] rfl) ((hZ.kept hS.2.1).narrow (fun _ h => h.elim)) (vk_recv hZ.1.2.2.2.2.2 (i := 1) (by decide) hS)) rfl rfl hl.1 rfl (lv_room (Nat.le_of_ble_eq_true rfl)) dX8_readOneOf_34 ⟨Nat.le_of_ble_eq_true rfl, Nat.le_of_ble_eq_true rfl⟩) (fun r87 hr87 => ?_)
                                                                                  obtain rfl : 108 = r87 := (hr87.trans (by decide)).symm
                                                                                  refine lv_bipush (v := 32) hx hb dX8_readOneOf_37 (by decide) ?_
                                                                                  refine lv_icmp_ne (tgt := 71) hx hb dX8_readOneOf_39 (by decide) (fun c88 => ?_) (fun c88 => ?_)
                                                                                  · skip
                                                                                    refine lv_iinc (v := 19) (lv' := [(5, .int 19), (4, .int 18), (3, .int 3), (2, .int r3), (0, .ref (g 11 4)), (1, .ref (ak 1))]) hx hb dX8_readOneOf_71 hl (k := 0) rfl (by decide) (by decide) rfl (fun ls hl => ?_)
                                                                                    refine lv_goto (tgt := 22) hx hb dX8_readOneOf_74 (by decide) ?_
                                                                                    refine lv_iload hx hb dX8_readOneOf_22 (lv_at hl 0 rfl) ?_
                                                                                    refine lv_aload_n hx hb dX8_readOneOf_24 rfl (lv_at hl 5 rfl) ?_
                                                                                    refine vp_callSi (W.runV (As := []) (rest := [.int 19]) ⟨hx, hb, hml, hown, ht⟩ (c_J0_length_8abf5_1 l dC dI ak av) (kV 0 ht m_705 m_706 m_707 m_91 m_708 rfl rfl hd_J0_length_8abf5_v ⟨Nat.le_of_ble_eq_true rfl, Nat.le_of_ble_eq_true rfl⟩) (vRZ noP (hK.sub (tys' := []) [] rfl) ((hZ.kept hS.2.1).narrow (fun _ h => h.elim)) (vk_recv hZ.1.2.2.2.2.2 (i := 1) (by decide) hS)) rfl rfl hl.1 rfl (lv_room (Nat.le_of_ble_eq_true rfl)) dX8_readOneOf_25 ⟨Nat.le_of_ble_eq_true rfl, Nat.le_of_ble_eq_true rfl⟩) (fun r89 hr89 => ?_)
                                                                                    obtain rfl : 28 = r89 := hr89.symm
                                                                                    refine lv_icmp_ge (tgt := 77) hx hb dX8_readOneOf_28 (by decide) (fun c90 => ?_) (fun c90 => ?_)
                                                                                    · exact absurd c90 (by decide)
                                                                                    · skip
                                                                                      refine lv_aload_n hx hb dX8_readOneOf_31 rfl (lv_at hl 5 rfl) ?_
                                                                                      refine lv_iload hx hb dX8_readOneOf_32 (lv_at hl 0 rfl) ?_
                                                                                      refine vp_callSi (W.runV (As := [.int 19]) (rest := []) ⟨hx, hb, hml, hown, ht⟩ (c_J0_charAt_5068e_1 l dC dI ak av 19 ⟨by decide, by decide⟩) (kV 1 ht m_715 m_716 m_717 m_91 m_718 rfl rfl hd_J0_charAt_5068e_v ⟨Nat.le_of_ble_eq_true rfl, Nat.le_of_ble_eq_true rfl⟩) (vRZ noP (hK.sub (tys' := []) [] rfl) ((hZ.kept hS.2.1).narrow (fun _ h => h.elim)) (vk_recv hZ.1.2.2.2.2.2 (i := 1) (by decide) hS)) rfl rfl hl.1 rfl (lv_room (Nat.le_of_ble_eq_true rfl)) dX8_readOneOf_34 ⟨Nat.le_of_ble_eq_true rfl, Nat.le_of_ble_eq_true rfl⟩) (fun r91 hr91 => ?_)
                                                                                      obtain rfl : 111 = r91 := (hr91.trans (by decide)).symm
                                                                                      refine lv_bipush (v := 32) hx hb dX8_readOneOf_37 (by decide) ?_
                                                                                      refine lv_icmp_ne (tgt := 71) hx hb dX8_readOneOf_39 (by decide) (fun c92 => ?_) (fun c92 => ?_)
                                                                                      · skip
                                                                                        refine lv_iinc (v := 20) (lv' := [(5, .int 20), (4, .int 18), (3, .int 3), (2, .int r3), (0, .ref (g 11 4)), (1, .ref (ak 1))]) hx hb dX8_readOneOf_71 hl (k := 0) rfl (by decide) (by decide) rfl (fun ls hl => ?_)
                                                                                        refine lv_goto (tgt := 22) hx hb dX8_readOneOf_74 (by decide) ?_
                                                                                        refine lv_iload hx hb dX8_readOneOf_22 (lv_at hl 0 rfl) ?_
                                                                                        refine lv_aload_n hx hb dX8_readOneOf_24 rfl (lv_at hl 5 rfl) ?_
                                                                                        refine vp_callSi (W.runV (As := []) (rest := [.int 20]) ⟨hx, hb, hml, hown, ht⟩ (c_J0_length_8abf5_1 l dC dI ak av) (kV 0 ht m_705 m_706 m_707 m_91 m_708 rfl rfl hd_J0_length_8abf5_v ⟨Nat.le_of_ble_eq_true rfl, Nat.le_of_ble_eq_true rfl⟩) (vRZ noP (hK.sub (tys' := []) [] rfl) ((hZ.kept hS.2.1).narrow (fun _ h => h.elim)) (vk_recv hZ.1.2.2.2.2.2 (i := 1) (by decide) hS)) rfl rfl hl.1 rfl (lv_room (Nat.le_of_ble_eq_true rfl)) dX8_readOneOf_25 ⟨Nat.le_of_ble_eq_true rfl, Nat.le_of_ble_eq_true rfl⟩) (fun r93 hr93 => ?_)
                                                                                        obtain rfl : 28 = r93 := hr93.symm
                                                                                        refine lv_icmp_ge (tgt := 77) hx hb dX8_readOneOf_28 (by decide) (fun c94 => ?_) (fun c94 => ?_)
                                                                                        · exact absurd c94 (by decide)
                                                                                        · skip
                                                                                          refine lv_aload_n hx hb dX8_readOneOf_31 rfl (lv_at hl 5 rfl) ?_
                                                                                          refine lv_iload hx hb dX8_readOneOf_32 (lv_at hl 0 rfl) ?_
                                                                                          refine vp_callSi (W.runV (As := [.int 20]) (rest := []) ⟨hx, hb, hml, hown, ht⟩ (c_J0_charAt_5068e_1 l dC dI ak av 20 ⟨by decide, by decide⟩) (kV 1 ht m_715 m_716 m_717 m_91 m_718 rfl rfl hd_J0_charAt_5068e_v ⟨Nat.le_of_ble_eq_true rfl, Nat.le_of_ble_eq_true rfl⟩) (vRZ noP (hK.sub (tys' := []) [] rfl) ((hZ.kept hS.2.1).narrow (fun _ h => h.elim)) (vk_recv hZ.1.2.2.2.2.2 (i := 1) (by decide) hS)) rfl rfl hl.1 rfl (lv_room (Nat.le_of_ble_eq_true rfl)) dX8_readOneOf_34 ⟨Nat.le_of_ble_eq_true rfl, Nat.le_of_ble_eq_true rfl⟩) (fun r95 hr95 => ?_)
                                                                                          obtain rfl : 111 = r95 := (hr95.trans (by decide)).symm
                                                                                          refine lv_bipush (v := 32) hx hb dX8_readOneOf_37 (by decide) ?_
                                                                                          refine lv_icmp_ne (tgt := 71) hx hb dX8_readOneOf_39 (by decide) (fun c96 => ?_) (fun c96 => ?_)
                                                                                          · skip
                                                                                            refine lv_iinc (v := 21) (lv' := [(5, .int 21), (4, .int 18), (3, .int 3), (2, .int r3), (0, .ref (g 11 4)), (1, .ref (ak 1))]) hx hb dX8_readOneOf_71 hl (k := 0) rfl (by decide) (by decide) rfl (fun ls hl => ?_)
                                                                                            refine lv_goto (tgt := 22) hx hb dX8_readOneOf_74 (by decide) ?_
                                                                                            refine lv_iload hx hb dX8_readOneOf_22 (lv_at hl 0 rfl) ?_
                                                                                            refine lv_aload_n hx hb dX8_readOneOf_24 rfl (lv_at hl 5 rfl) ?_
                                                                                            refine vp_callSi (W.runV (As := []) (rest := [.int 21]) ⟨hx, hb, hml, hown, ht⟩ (c_J0_length_8abf5_1 l dC dI ak av) (kV 0 ht m_705 m_706 m_707 m_91 m_708 rfl rfl hd_J0_length_8abf5_v ⟨Nat.le_of_ble_eq_true rfl, Nat.le_of_ble_eq_true rfl⟩) (vRZ noP (hK.sub (tys' := []) [] rfl) ((hZ.kept hS.2.1).narrow (fun _ h => h.elim)) (vk_recv hZ.1.2.2.2.2.2 (i := 1) (by decide) hS)) rfl rfl hl.1 rfl (lv_room (Nat.le_of_ble_eq_true rfl)) dX8_readOneOf_25 ⟨Nat.le_of_ble_eq_true rfl, Nat.le_of_ble_eq_true rfl⟩) (fun r97 hr97 => ?_)
                                                                                            obtain rfl : 28 = r97 := hr97.symm
                                                                                            refine lv_icmp_ge (tgt := 77) hx hb dX8_readOneOf_28 (by decide) (fun c98 => ?_) (fun c98 => ?_)
                                                                                            · exact absurd c98 (by decide)
                                                                                            · skip
                                                                                              refine lv_aload_n hx hb dX8_readOneOf_31 rfl (lv_at hl 5 rfl) ?_
                                                                                              refine lv_iload hx hb dX8_readOneOf_32 (lv_at hl 0 rfl) ?_
                                                                                              refine vp_callSi (W.runV (As := [.int 21]) (rest := []) ⟨hx, hb, hml, hown, ht⟩ (c_J0_charAt_5068e_1 l dC dI ak av 21 ⟨by decide, by decide⟩) (kV 1 ht m_715 m_716 m_717 m_91 m_718 rfl rfl hd_J0_charAt_5068e_v ⟨Nat.le_of_ble_eq_true rfl, Nat.le_of_ble_eq_true rfl⟩) (vRZ noP (hK.sub (tys' := []) [] rfl) ((hZ.kept hS.2.1).narrow (fun _ h => h.elim)) (vk_recv hZ.1.2.2.2.2.2 (i := 1) (by decide) hS)) rfl rfl hl.1 rfl (lv_room (Nat.le_of_ble_eq_true rfl)) dX8_readOneOf_34 ⟨Nat.le_of_ble_eq_true rfl, Nat.le_of_ble_eq_true rfl⟩) (fun r99 hr99 => ?_)
                                                                                              obtain rfl : 107 = r99 := (hr99.trans (by decide)).symm
                                                                                              refine lv_bipush (v := 32) hx hb dX8_readOneOf_37 (by decide) ?_
                                                                                              refine lv_icmp_ne (tgt := 71) hx hb dX8_readOneOf_39 (by decide) (fun c100 => ?_) (fun c100 => ?_)
                                                                                              · skip
                                                                                                refine lv_iinc (v := 22) (lv' := [(5, .int 22), (4, .int 18), (3, .int 3), (2, .int r3), (0, .ref (g 11 4)), (1, .ref (ak 1))]) hx hb dX8_readOneOf_71 hl (k := 0) rfl (by decide) (by decide) rfl (fun ls hl => ?_)
                                                                                                refine lv_goto (tgt := 22) hx hb dX8_readOneOf_74 (by decide) ?_
                                                                                                refine lv_iload hx hb dX8_readOneOf_22 (lv_at hl 0 rfl) ?_
                                                                                                refine lv_aload_n hx hb dX8_readOneOf_24 rfl (lv_at hl 5 rfl) ?_
                                                                                                refine vp_callSi (W.runV (As := []) (rest := [.int 22]) ⟨hx, hb, hml, hown, ht⟩ (c_J0_length_8abf5_1 l dC dI ak av) (kV 0 ht m_705 m_706 m_707 m_91 m_708 rfl rfl hd_J0_length_8abf5_v ⟨Nat.le_of_ble_eq_true rfl, Nat.le_of_ble_eq_true rfl⟩) (vRZ noP (hK.sub (tys' := []) [] rfl) ((hZ.kept hS.2.1).narrow (fun _ h => h.elim)) (vk_recv hZ.1.2.2.2.2.2 (i := 1) (by decide) hS)) rfl rfl hl.1 rfl (lv_room (Nat.le_of_ble_eq_true rfl)) dX8_readOneOf_25 ⟨Nat.le_of_ble_eq_true rfl, Nat.le_of_ble_eq_true rfl⟩) (fun r101 hr101 => ?_)
                                                                                                obtain rfl : 28 = r101 := hr101.symm
                                                                                                refine lv_icmp_ge (tgt := 77) hx hb dX8_readOneOf_28 (by decide) (fun c102 => ?_) (fun c102 => ?_)
                                                                                                · exact absurd c102 (by decide)
                                                                                                · skip
                                                                                                  refine lv_aload_n hx hb dX8_readOneOf_31 rfl (lv_at hl 5 rfl) ?_
                                                                                                  refine lv_iload hx hb dX8_readOneOf_32 (lv_at hl 0 rfl) ?_
                                                                                                  refine vp_callSi (W.runV (As := [.int 22]) (rest := []) ⟨hx, hb, hml, hown, ht⟩ (c_J0_charAt_5068e_1 l dC dI ak av 22 ⟨by decide, by decide⟩) (kV 1 ht m_715 m_716 m_717 m_91 m_718 rfl rfl hd_J0_charAt_5068e_v ⟨Nat.le_of_ble_eq_true rfl, Nat.le_of_ble_eq_true rfl⟩) (vRZ noP (hK.sub (tys' := []) [] rfl) ((hZ.kept hS.2.1).narrow (fun _ h => h.elim)) (vk_recv hZ.1.2.2.2.2.2 (i := 1) (by decide) hS)) rfl rfl hl.1 rfl (lv_room (Nat.le_of_ble_eq_true rfl)) dX8_readOneOf_34 ⟨Nat.le_of_ble_eq_true rfl, Nat.le_of_ble_eq_true rfl⟩) (fun r103 hr103 => ?_)
                                                                                                  obtain rfl : 115 = r103 := (hr103.trans (by decide)).symm
                                                                                                  refine lv_bipush (v := 32) hx hb dX8_readOneOf_37 (by decide) ?_
                                                                                                  refine lv_icmp_ne (tgt := 71) hx hb dX8_readOneOf_39 (by decide) (fun c104 => ?_) (fun c104 => ?_)
                                                                                                  · skip
                                                                                                    refine lv_iinc (v := 23) (lv' := [(5, .int 23), (4, .int 18), (3, .int 3), (2, .int r3), (0, .ref (g 11 4)), (1, .ref (ak 1))]) hx hb dX8_readOneOf_71 hl (k := 0) rfl (by decide) (by decide) rfl (fun ls hl => ?_)
                                                                                                    refine lv_goto (tgt := 22) hx hb dX8_readOneOf_74 (by decide) ?_
                                                                                                    refine lv_iload hx hb dX8_readOneOf_22 (lv_at hl 0 rfl) ?_
                                                                                                    refine lv_aload_n hx hb dX8_readOneOf_24 rfl (lv_at hl 5 rfl) ?_
                                                                                                    refine vp_callSi (W.runV (As := []) (rest := [.int 23]) ⟨hx, hb, hml, hown, ht⟩ (c_J0_length_8abf5_1 l dC dI ak av) (kV 0 ht m_705 m_706 m_707 m_91 m_708 rfl rfl hd_J0_length_8abf5_v ⟨Nat.le_of_ble_eq_true rfl, Nat.le_of_ble_eq_true rfl⟩) (vRZ noP (hK.sub (tys' := []) [] rfl) ((hZ.kept hS.2.1).narrow (fun _ h => h.elim)) (vk_recv hZ.1.2.2.2.2.2 (i := 1) (by decide) hS)) rfl rfl hl.1 rfl (lv_room (Nat.le_of_ble_eq_true rfl)) dX8_readOneOf_25 ⟨Nat.le_of_ble_eq_true rfl, Nat.le_of_ble_eq_true rfl⟩) (fun r105 hr105 => ?_)
                                                                                                    obtain rfl : 28 = r105 := hr105.symm
                                                                                                    refine lv_icmp_ge (tgt := 77) hx hb dX8_readOneOf_28 (by decide) (fun c106 => ?_) (fun c106 => ?_)
                                                                                                    · exact absurd c106 (by decide)
                                                                                                    · skip
                                                                                                      refine lv_aload_n hx hb dX8_readOneOf_31 rfl (lv_at hl 5 rfl) ?_
                                                                                                      refine lv_iload hx hb dX8_readOneOf_32 (lv_at hl 0 rfl) ?_
                                                                                                      refine vp_callSi (W.runV (As := [.int 23]) (rest := []) ⟨hx, hb, hml, hown, ht⟩ (c_J0_charAt_5068e_1 l dC dI ak av 23 ⟨by decide, by decide⟩) (kV 1 ht m_715 m_716 m_717 m_91 m_718 rfl rfl hd_J0_charAt_5068e_v ⟨Nat.le_of_ble_eq_true rfl, Nat.le_of_ble_eq_true rfl⟩) (vRZ noP (hK.sub (tys' := []) [] rfl) ((hZ.kept hS.2.1).narrow (fun _ h => h.elim)) (vk_recv hZ.1.2.2.2.2.2 (i := 1) (by decide) hS)) rfl rfl hl.1 rfl (lv_room (Nat.le_of_ble_eq_true rfl)) dX8_readOneOf_34 ⟨Nat.le_of_ble_eq_true rfl, Nat.le_of_ble_eq_true rfl⟩) (fun r107 hr107 => ?_)
                                                                                                      obtain rfl : 32 = r107 := (hr107.trans (by decide)).symm
                                                                                                      refine lv_bipush (v := 32) hx hb dX8_readOneOf_37 (by decide) ?_
                                                                                                      refine lv_icmp_ne (tgt := 71) hx hb dX8_readOneOf_39 (by decide) (fun c108 => ?_) (fun c108 => ?_)
                                                                                                      · exact absurd rfl c108
                                                                                                      · skip
                                                                                                        refine lv_aload_n hx hb dX8_readOneOf_42 rfl (lv_at hl 4 rfl) ?_
                                                                                                        refine lv_aload_n hx hb dX8_readOneOf_43 rfl (lv_at hl 5 rfl) ?_
                                                                                                        refine lv_iload hx hb dX8_readOneOf_44 (lv_at hl 1 rfl) ?_
                                                                                                        refine lv_iload hx hb dX8_readOneOf_46 (lv_at hl 0 rfl) ?_
                                                                                                        refine lv_iload_n hx hb dX8_readOneOf_48 rfl (lv_at hl 3 rfl) ?_
                                                                                                        refine vp_callSi (W.runV (As := [.ref (ak 1), .int 18, .int 23, .int r3]) (rest := []) ⟨hx, hb, hml, hown, ht⟩ (c_X8_isSame_1 l dC dI ak av h g ca (u2 iv 8 5 n2) lv fa la (IX_i (c := 8) (k := 5) hI (show inb (0, 200) n2 from ⟨by omega, by omega⟩)) 18 23 r3 ⟨by decide, by decide⟩ ⟨by decide, by decide⟩ ⟨by omega, by omega⟩) (kV 4 ht m_753 m_755 m_20 m_82 m_756 rfl rfl hd_X8_isSame_v ⟨Nat.le_of_ble_eq_true rfl, Nat.le_of_ble_eq_true rfl⟩) (vRZ hP hK ((hZ.kept hS.2.1).narrow (fun _ h => h.elim)) (rX_8 hK hP)) rfl rfl hl.1 rfl (lv_room (Nat.le_of_ble_eq_true rfl)) dX8_readOneOf_49 ⟨Nat.le_of_ble_eq_true rfl, Nat.le_of_ble_eq_true rfl⟩) (fun r109 hr109 => ?_)
                                                                                                        refine lv_if_eq (tgt := 62) hx hb dX8_readOneOf_52 (by decide) (fun c110 => ?_) (fun c110 => ?_)
                                                                                                        · have fc110 := z_eq (rfl : (r109).toInt = _) (by decide : (0 : Int32).toInt = 0) c110
                                                                                                          refine lv_iinc (v := 4) (lv' := [(3, .int 4), (5, .int 23), (4, .int 18), (2, .int r3), (0, .ref (g 11 4)), (1, .ref (ak 1))]) hx hb dX8_readOneOf_62 hl (k := 2) rfl (by decide) (by decide) rfl (fun ls hl => ?_)
                                                                                                          refine lv_iload hx hb dX8_readOneOf_65 (lv_at hl 1 rfl) ?_
                                                                                                          refine lv_iconst (v := 1) hx hb dX8_readOneOf_67 (by decide) ?_
                                                                                                          refine lv_iadd hx hb dX8_readOneOf_68 ?_
                                                                                                          refine lv_topi (fun v111 ev111 => ?_)
                                                                                                          obtain rfl : 24 = v111 := (ev111.trans (by decide)).symm
                                                                                                          refine lv_istore (lv' := [(4, .int 24), (3, .int 4), (5, .int 23), (2, .int r3), (0, .ref (g 11 4)), (1, .ref (ak 1))]) hx hb dX8_readOneOf_69 hl (by decide) rfl (fun ls hl => ?_)
                                                                                                          refine lv_iinc (v := 24) (lv' := [(5, .int 24), (4, .int 24), (3, .int 4), (2, .int r3), (0, .ref (g 11 4)), (1, .ref (ak 1))]) hx hb dX8_readOneOf_71 hl (k := 2) rfl (by decide) (by decide) rfl (fun ls hl => ?_)
                                                                                                          refine lv_goto (tgt := 22) hx hb dX8_readOneOf_74 (by decide) ?_
                                                                                                          refine lv_iload hx hb dX8_readOneOf_22 (lv_at hl 0 rfl) ?_
                                                                                                          refine lv_aload_n hx hb dX8_readOneOf_24 rfl (lv_at hl 5 rfl) ?_
                                                                                                          refine vp_callSi (W.runV (As := []) (rest := [.int 24]) ⟨hx, hb, hml, hown, ht⟩ (c_J0_length_8abf5_1 l dC dI ak av) (kV 0 ht m_705 m_706 m_707 m_91 m_708 rfl rfl hd_J0_length_8abf5_v ⟨Nat.le_of_ble_eq_true rfl, Nat.le_of_ble_eq_true rfl⟩) (vRZ noP (hK.sub (tys' := []) [] rfl) ((hZ.kept hS.2.1).narrow (fun _ h => h.elim)) (vk_recv hZ.1.2.2.2.2.2 (i := 1) (by decide) hS)) rfl rfl hl.1 rfl (lv_room (Nat.le_of_ble_eq_true rfl)) dX8_readOneOf_25 ⟨Nat.le_of_ble_eq_true rfl, Nat.le_of_ble_eq_true rfl⟩) (fun r112 hr112 => ?_)
                                                                                                          obtain rfl : 28 = r112 := hr112.symm
                                                                                                          refine lv_icmp_ge (tgt := 77) hx hb dX8_readOneOf_28 (by decide) (fun c113 => ?_) (fun c113 => ?_)
                                                                                                          · exact absurd c113 (by decide)
                                                                                                          · skip
                                                                                                            refine lv_aload_n hx hb dX8_readOneOf_31 rfl (lv_at hl 5 rfl) ?_
                                                                                                            refine lv_iload hx hb dX8_readOneOf_32 (lv_at hl 0 rfl) ?_
                                                                                                            refine vp_callSi (W.runV (As := [.int 24]) (rest := []) ⟨hx, hb, hml, hown, ht⟩ (c_J0_charAt_5068e_1 l dC dI ak av 24 ⟨by decide, by decide⟩) (kV 1 ht m_715 m_716 m_717 m_91 m_718 rfl rfl hd_J0_charAt_5068e_v ⟨Nat.le_of_ble_eq_true rfl, Nat.le_of_ble_eq_true rfl⟩) (vRZ noP (hK.sub (tys' := []) [] rfl) ((hZ.kept hS.2.1).narrow (fun _ h => h.elim)) (vk_recv hZ.1.2.2.2.2.2 (i := 1) (by decide) hS)) rfl rfl hl.1 rfl (lv_room (Nat.le_of_ble_eq_true rfl)) dX8_readOneOf_34 ⟨Nat.le_of_ble_eq_true rfl, Nat.le_of_ble_eq_true rfl⟩) (fun r114 hr114 => ?_)
                                                                                                            obtain rfl : 102 = r114 := (hr114.trans (by decide)).symm
                                                                                                            refine lv_bipush (v := 32) hx hb dX8_readOneOf_37 (by decide) ?_
                                                                                                            refine lv_icmp_ne (tgt := 71) hx hb dX8_readOneOf_39 (by decide) (fun c115 => ?_) (fun c115 => ?_)
                                                                                                            · skip
                                                                                                              refine lv_iinc (v := 25) (lv' := [(5, .int 25), (4, .int 24), (3, .int 4), (2, .int r3), (0, .ref (g 11 4)), (1, .ref (ak 1))]) hx hb dX8_readOneOf_71 hl (k := 0) rfl (by decide) (by decide) rfl (fun ls hl => ?_)
                                                                                                              refine lv_goto (tgt := 22) hx hb dX8_readOneOf_74 (by decide) ?_
                                                                                                              refine lv_iload hx hb dX8_readOneOf_22 (lv_at hl 0 rfl) ?_
                                                                                                              refine lv_aload_n hx hb dX8_readOneOf_24 rfl (lv_at hl 5 rfl) ?_
                                                                                                              refine vp_callSi (W.runV (As := []) (rest := [.int 25]) ⟨hx, hb, hml, hown, ht⟩ (c_J0_length_8abf5_1 l dC dI ak av) (kV 0 ht m_705 m_706 m_707 m_91 m_708 rfl rfl hd_J0_length_8abf5_v ⟨Nat.le_of_ble_eq_true rfl, Nat.le_of_ble_eq_true rfl⟩) (vRZ noP (hK.sub (tys' := []) [] rfl) ((hZ.kept hS.2.1).narrow (fun _ h => h.elim)) (vk_recv hZ.1.2.2.2.2.2 (i := 1) (by decide) hS)) rfl rfl hl.1 rfl (lv_room (Nat.le_of_ble_eq_true rfl)) dX8_readOneOf_25 ⟨Nat.le_of_ble_eq_true rfl, Nat.le_of_ble_eq_true rfl⟩) (fun r116 hr116 => ?_)
                                                                                                              obtain rfl : 28 = r116 := hr116.symm
                                                                                                              refine lv_icmp_ge (tgt := 77) hx hb dX8_readOneOf_28 (by decide) (fun c117 => ?_) (fun c117 => ?_)
                                                                                                              · exact absurd c117 (by decide)
                                                                                                              · skip
                                                                                                                refine lv_aload_n hx hb dX8_readOneOf_31 rfl (lv_at hl 5 rfl) ?_
                                                                                                                refine lv_iload hx hb dX8_readOneOf_32 (lv_at hl 0 rfl) ?_
                                                                                                                refine vp_callSi (W.runV (As := [.int 25]) (rest := []) ⟨hx, hb, hml, hown, ht⟩ (c_J0_charAt_5068e_1 l dC dI ak av 25 ⟨by decide, by decide⟩) (kV 1 ht m_715 m_716 m_717 m_91 m_718 rfl rfl hd_J0_charAt_5068e_v ⟨Nat.le_of_ble_eq_true rfl, Nat.le_of_ble_eq_true rfl⟩) (vRZ noP (hK.sub (tys' := []) [] rfl) ((hZ.kept hS.2.1).narrow (fun _ h => h.elim)) (vk_recv hZ.1.2.2.2.2.2 (i := 1) (by decide) hS)) rfl rfl hl.1 rfl (lv_room (Nat.le_of_ble_eq_true rfl)) dX8_readOneOf_34 ⟨Nat.le_of_ble_eq_true rfl, Nat.le_of_ble_eq_true rfl⟩) (fun r118 hr118 => ?_)
                                                                                                                obtain rfl : 101 = r118 := (hr118.trans (by decide)).symm
                                                                                                                refine lv_bipush (v := 32) hx hb dX8_readOneOf_37 (by decide) ?_
                                                                                                                refine lv_icmp_ne (tgt := 71) hx hb dX8_readOneOf_39 (by decide) (fun c119 => ?_) (fun c119 => ?_)
                                                                                                                · skip
                                                                                                                  refine lv_iinc (v := 26) (lv' := [(5, .int 26), (4, .int 24), (3, .int 4), (2, .int r3), (0, .ref (g 11 4)), (1, .ref (ak 1))]) hx hb dX8_readOneOf_71 hl (k := 0) rfl (by decide) (by decide) rfl (fun ls hl => ?_)
                                                                                                                  refine lv_goto (tgt := 22) hx hb dX8_readOneOf_74 (by decide) ?_
                                                                                                                  refine lv_iload hx hb dX8_readOneOf_22 (lv_at hl 0 rfl) ?_
                                                                                                                  refine lv_aload_n hx hb dX8_readOneOf_24 rfl (lv_at hl 5 rfl) ?_
                                                                                                                  refine vp_callSi (W.runV (As := []) (rest := [.int 26]) ⟨hx, hb, hml, hown, ht⟩ (c_J0_length_8abf5_1 l dC dI ak av) (kV 0 ht m_705 m_706 m_707 m_91 m_708 rfl rfl hd_J0_length_8abf5_v ⟨Nat.le_of_ble_eq_true rfl, Nat.le_of_ble_eq_true rfl⟩) (vRZ noP (hK.sub (tys' := []) [] rfl) ((hZ.kept hS.2.1).narrow (fun _ h => h.elim)) (vk_recv hZ.1.2.2.2.2.2 (i := 1) (by decide) hS)) rfl rfl hl.1 rfl (lv_room (Nat.le_of_ble_eq_true rfl)) dX8_readOneOf_25 ⟨Nat.le_of_ble_eq_true rfl, Nat.le_of_ble_eq_true rfl⟩) (fun r120 hr120 => ?_)
                                                                                                                  obtain rfl : 28 = r120 := hr120.symm
                                                                                                                  refine lv_icmp_ge (tgt := 77) hx hb dX8_readOneOf_28 (by decide) (fun c121 => ?_) (fun c121 => ?_)
                                                                                                                  · exact absurd c121 (by decide)
                                                                                                                  · skip
                                                                                                                    refine lv_aload_n hx hb dX8_readOneOf_31 rfl (lv_at hl 5 rfl) ?_
                                                                                                                    refine lv_iload hx hb dX8_readOneOf_32 (lv_at hl 0 rfl) ?_
                                                                                                                    refine vp_callSi (W.runV (As := [.int 26]) (rest := []) ⟨hx, hb, hml, hown, ht⟩ (c_J0_charAt_5068e_1 l dC dI ak av 26 ⟨by decide, by decide⟩) (kV 1 ht m_715 m_716 m_717 m_91 m_718 rfl rfl hd_J0_charAt_5068e_v ⟨Nat.le_of_ble_eq_true rfl, Nat.le_of_ble_eq_true rfl⟩) (vRZ noP (hK.sub (tys' := []) [] rfl) ((hZ.kept hS.2.1).narrow (fun _ h => h.elim)) (vk_recv hZ.1.2.2.2.2.2 (i := 1) (by decide) hS)) rfl rfl hl.1 rfl (lv_room (Nat.le_of_ble_eq_true rfl)) dX8_readOneOf_34 ⟨Nat.le_of_ble_eq_true rfl, Nat.le_of_ble_eq_true rfl⟩) (fun r122 hr122 => ?_)
                                                                                                                    obtain rfl : 101 = r122 := (hr122.trans (by decide)).symm
                                                                                                                    refine lv_bipush (v := 32) hx hb dX8_readOneOf_37 (by decide) ?_
                                                                                                                    refine lv_icmp_ne (tgt := 71) hx hb dX8_readOneOf_39 (by decide) (fun c123 => ?_) (fun c123 => ?_)
                                                                                                                    · skip
                                                                                                                      refine lv_iinc (v := 27) (lv' := [(5, .int 27), (4, .int 24), (3, .int 4), (2, .int r3), (0, .ref (g 11 4)), (1, .ref (ak 1))]) hx hb dX8_readOneOf_71 hl (k := 0) rfl (by decide) (by decide) rfl (fun ls hl => ?_)
                                                                                                                      refine lv_goto (tgt := 22) hx hb dX8_readOneOf_74 (by decide) ?_
                                                                                                                      refine lv_iload hx hb dX8_readOneOf_22 (lv_at hl 0 rfl) ?_
                                                                                                                      refine lv_aload_n hx hb dX8_readOneOf_24 rfl (lv_at hl 5 rfl) ?_
                                                                                                                      refine vp_callSi (W.runV (As := []) (rest := [.int 27]) ⟨hx, hb, hml, hown, ht⟩ (c_J0_length_8abf5_1 l dC dI ak av) (kV 0 ht m_705 m_706 m_707 m_91 m_708 rfl rfl hd_J0_length_8abf5_v ⟨Nat.le_of_ble_eq_true rfl, Nat.le_of_ble_eq_true rfl⟩) (vRZ noP (hK.sub (tys' := []) [] rfl) ((hZ.kept hS.2.1).narrow (fun _ h => h.elim)) (vk_recv hZ.1.2.2.2.2.2 (i := 1) (by decide) hS)) rfl rfl hl.1 rfl (lv_room (Nat.le_of_ble_eq_true rfl)) dX8_readOneOf_25 ⟨Nat.le_of_ble_eq_true rfl, Nat.le_of_ble_eq_true rfl⟩) (fun r124 hr124 => ?_)
                                                                                                                      obtain rfl : 28 = r124 := hr124.symm
                                                                                                                      refine lv_icmp_ge (tgt := 77) hx hb dX8_readOneOf_28 (by decide) (fun c125 => ?_) (fun c125 => ?_)
                                                                                                                      · exact absurd c125 (by decide)
                                                                                                                      · skip
                                                                                                                        refine lv_aload_n hx hb dX8_readOneOf_31 rfl (lv_at hl 5 rfl) ?_
                                                                                                                        refine lv_iload hx hb dX8_readOneOf_32 (lv_at hl 0 rfl) ?_
                                                                                                                        refine vp_callSi (W.runV (As := [.int 27]) (rest := []) ⟨hx, hb, hml, hown, ht⟩ (c_J0_charAt_5068e_1 l dC dI ak av 27 ⟨by decide, by decide⟩) (kV 1 ht m_715 m_716 m_717 m_91 m_718 rfl rfl hd_J0_charAt_5068e_v ⟨Nat.le_of_ble_eq_true rfl, Nat.le_of_ble_eq_true rfl⟩) (vRZ noP (hK.sub (tys' := []) [] rfl) ((hZ.kept hS.2.1).narrow (fun _ h => h.elim)) (vk_recv hZ.1.2.2.2.2.2 (i := 1) (by decide) hS)) rfl rfl hl.1 rfl (lv_room (Nat.le_of_ble_eq_true rfl)) dX8_readOneOf_34 ⟨Nat.le_of_ble_eq_true rfl, Nat.le_of_ble_eq_true rfl⟩) (fun r126 hr126 => ?_)
                                                                                                                        obtain rfl : 32 = r126 := (hr126.trans (by decide)).symm
                                                                                                                        refine lv_bipush (v := 32) hx hb dX8_readOneOf_37 (by decide) ?_
                                                                                                                        refine lv_icmp_ne (tgt := 71) hx hb dX8_readOneOf_39 (by decide) (fun c127 => ?_) (fun c127 => ?_)
                                                                                                                        · exact absurd rfl c127
                                                                                                                        · skip
                                                                                                                          refine lv_aload_n hx hb dX8_readOneOf_42 rfl (lv_at hl 4 rfl) ?_
                                                                                                                          refine lv_aload_n hx hb dX8_readOneOf_43 rfl (lv_at hl 5 rfl) ?_
                                                                                                                          refine lv_iload hx hb dX8_readOneOf_44 (lv_at hl 1 rfl) ?_
                                                                                                                          refine lv_iload hx hb dX8_readOneOf_46 (lv_at hl 0 rfl) ?_
                                                                                                                          refine lv_iload_n hx hb dX8_readOneOf_48 rfl (lv_at hl 3 rfl) ?_
                                                                                                                          refine vp_callSi (W.runV (As := [.ref (ak 1), .int 24, .int 27, .int r3]) (rest := []) ⟨hx, hb, hml, hown, ht⟩ (c_X8_isSame_1 l dC dI ak av h g ca (u2 iv 8 5 n2) lv fa la (IX_i (c := 8) (k := 5) hI (show inb (0, 200) n2 from ⟨by omega, by omega⟩)) 24 27 r3 ⟨by decide, by decide⟩ ⟨by decide, by decide⟩ ⟨by omega, by omega⟩) (kV 4 ht m_753 m_755 m_20 m_82 m_756 rfl rfl hd_X8_isSame_v ⟨Nat.le_of_ble_eq_true rfl, Nat.le_of_ble_eq_true rfl⟩) (vRZ hP hK ((hZ.kept hS.2.1).narrow (fun _ h => h.elim)) (rX_8 hK hP)) rfl rfl hl.1 rfl (lv_room (Nat.le_of_ble_eq_true rfl)) dX8_readOneOf_49 ⟨Nat.le_of_ble_eq_true rfl, Nat.le_of_ble_eq_true rfl⟩) (fun r128 hr128 => ?_)
                                                                                                                          refine lv_if_eq (tgt := 62) hx hb dX8_readOneOf_52 (by decide) (fun c129 => ?_) (fun c129 => ?_)
                                                                                                                          · have fc129 := z_eq (rfl : (r128).toInt = _) (by decide : (0 : Int32).toInt = 0) c129
                                                                                                                            refine lv_iinc (v := 5) (lv' := [(3, .int 5), (5, .int 27), (4, .int 24), (2, .int r3), (0, .ref (g 11 4)), (1, .ref (ak 1))]) hx hb dX8_readOneOf_62 hl (k := 2) rfl (by decide) (by decide) rfl (fun ls hl => ?_)
                                                                                                                            refine lv_iload hx hb dX8_readOneOf_65 (lv_at hl 1 rfl) ?_
                                                                                                                            refine lv_iconst (v := 1) hx hb dX8_readOneOf_67 (by decide) ?_
                                                                                                                            refine lv_iadd hx hb dX8_readOneOf_68 ?_
                                                                                                                            refine lv_topi (fun v130 ev130 => ?_)
                                                                                                                            obtain rfl : 28 = v130 := (ev130.trans (by decide)).symm
                                                                                                                            refine lv_istore (lv' := [(4, .int 28), (3, .int 5), (5, .int 27), (2, .int r3), (0, .ref (g 11 4)), (1, .ref (ak 1))]) hx hb dX8_readOneOf_69 hl (by decide) rfl (fun ls hl => ?_)
                                                                                                                            refine lv_iinc (v := 28) (lv' := [(5, .int 28), (4, .int 28), (3, .int 5), (2, .int r3), (0, .ref (g 11 4)), (1, .ref (ak 1))]) hx hb dX8_readOneOf_71 hl (k := 2) rfl (by decide) (by decide) rfl (fun ls hl => ?_)
                                                                                                                            refine lv_goto (tgt := 22) hx hb dX8_readOneOf_74 (by decide) ?_
                                                                                                                            refine lv_iload hx hb dX8_readOneOf_22 (lv_at hl 0 rfl) ?_
                                                                                                                            refine lv_aload_n hx hb dX8_readOneOf_24 rfl (lv_at hl 5 rfl) ?_
                                                                                                                            refine vp_callSi (W.runV (As := []) (rest := [.int 28]) ⟨hx, hb, hml, hown, ht⟩ (c_J0_length_8abf5_1 l dC dI ak av) (kV 0 ht m_705 m_706 m_707 m_91 m_708 rfl rfl hd_J0_length_8abf5_v ⟨Nat.le_of_ble_eq_true rfl, Nat.le_of_ble_eq_true rfl⟩) (vRZ noP (hK.sub (tys' := []) [] rfl) ((hZ.kept hS.2.1).narrow (fun _ h => h.elim)) (vk_recv hZ.1.2.2.2.2.2 (i := 1) (by decide) hS)) rfl rfl hl.1 rfl (lv_room (Nat.le_of_ble_eq_true rfl)) dX8_readOneOf_25 ⟨Nat.le_of_ble_eq_true rfl, Nat.le_of_ble_eq_true rfl⟩) (fun r131 hr131 => ?_)
                                                                                                                            obtain rfl : 28 = r131 := hr131.symm
                                                                                                                            refine lv_icmp_ge (tgt := 77) hx hb dX8_readOneOf_28 (by decide) (fun c132 => ?_) (fun c132 => ?_)
                                                                                                                            · skip
                                                                                                                              refine lv_aload_n hx hb dX8_readOneOf_77 rfl (lv_at hl 4 rfl) ?_
                                                                                                                              refine lv_iconst (v := 1) hx hb dX8_readOneOf_78 (by decide) ?_
                                                                                                                              refine lv_aload_n hx hb dX8_readOneOf_79 rfl (lv_at hl 4 rfl) ?_
                                                                                                                              refine gX_8_5 hx hb ht hown hK hP m_235 (v := n2) rfl dX8_readOneOf_80 ?_
                                                                                                                              have hFc := free_all hD hS hA
                                                                                                                              refine va_calli (va_runV (As := [.int 1, .int n2]) (rest := []) ⟨hx, hb, hml, hown, ht⟩ (c_X8_fail l dC dI H.size h g ca (u2 iv 8 5 n2) lv fa la (IX_i (c := 8) (k := 5) hI (show inb (0, 200) n2 from ⟨by omega, by omega⟩)) 1 n2 ⟨by decide, by decide⟩ ⟨by omega, by omega⟩) (kV 2 ht m_757 m_759 m_21 m_82 m_760 rfl rfl hd_X8_fail_v ⟨Nat.le_of_ble_eq_true rfl, Nat.le_of_ble_eq_true rfl⟩) (vW hP hK hD (rX_8 hK hP)) rfl rfl hl.1 rfl (lv_room (Nat.le_of_ble_eq_true rfl)) dX8_readOneOf_83 ⟨Nat.le_of_ble_eq_true rfl, Nat.le_of_ble_eq_true rfl⟩) hS (fun q _ h => hFc q h) hFc (fun r133 u t H1 locs ht9 hvm hr133 hB hz1 hk1 hS => ?_)
                                                                                                                              obtain ⟨n134, n135, hn134, hn135, hr133, rfl⟩ := hr133
                                                                                                                              have hn134 : (-1) ≤ n134.toInt ∧ n134.toInt ≤ 200 := hn134
                                                                                                                              have hn135 : 0 ≤ n135.toInt ∧ n135.toInt ≤ 5 := hn135
                                                                                                                              obtain ⟨hP, hD⟩ := hB
                                                                                                                              rw [ht9] at hP
                                                                                                                              generalize H1 = H at hP hS ⊢
                                                                                                                              have hP : va_P (dC, dI) classes (WX h g ca (u2 (u2 (u2 iv 8 5 n2) 8 3 n134) 8 4 n135) lv fa la) H := hP
                                                                                                                              have hD : va_D A (WX h g ca (u2 (u2 (u2 iv 8 5 n2) 8 3 n134) 8 4 n135) lv fa la) := (show va_D _ (WX h g ca (u2 (u2 (u2 iv 8 5 n2) 8 3 n134) 8 4 n135) lv fa la) from hD).weaken (fun _ _ _ h => hFc _ h)
                                                                                                                              refine lv_pop hx hb dX8_readOneOf_86 rfl ?_
                                                                                                                              refine lv_iconst (v := (-1)) hx hb dX8_readOneOf_87 (by decide) ?_
                                                                                                                              have hP9 : va_P (dC, dI) classes (WX h g ca (u2 (u2 (u2 iv 8 3 n134) 8 4 n135) 8 5 n2) lv fa la) H := hP
                                                                                                                              have hD9 : va_D A (WX h g ca (u2 (u2 (u2 iv 8 3 n134) 8 4 n135) 8 5 n2) lv fa la) := hD
                                                                                                                              exact W.iret (v := (-1)) hx hb hr (fun t ht9 hW => ⟨⟨(-1), ((u2 (u2 (u2 iv 8 3 n134) 8 4 n135) 8 5 n2), lv, fa, la), rfl, ⟨n134, n135, n2, (show inb ((-1), 200) n134 from ⟨by omega, by omega⟩), (show inb (0, 5) n135 from ⟨by omega, by omega⟩), (show inb (0, 200) n2 from ⟨by omega, by omega⟩), ⟨by decide, by decide⟩, rfl⟩, by rw [ht9]; exact hP9, hD9⟩, hS.F ht9⟩) hS.2.2 dX8_readOneOf_88
                                                                                                                            · exact absurd c132 (by decide)
                                                                                                                          · have fc129 := z_ne (rfl : (r128).toInt = _) (by decide : (0 : Int32).toInt = 0) c129
                                                                                                                            refine lv_aload_n hx hb dX8_readOneOf_55 rfl (lv_at hl 4 rfl) ?_
                                                                                                                            refine lv_iload_n hx hb dX8_readOneOf_56 rfl (lv_at hl 3 rfl) ?_
                                                                                                                            refine pX_8_5 (v := r3) hx hb ht hown hK hP hD hS m_235 dX8_readOneOf_57 (fun H locs hP hD hS => ?_)
                                                                                                                            have hP : va_P (dC, dI) classes (WX h g ca (u2 iv 8 5 r3) lv fa la) H := hP
                                                                                                                            have hD : va_D A (WX h g ca (u2 iv 8 5 r3) lv fa la) := hD
                                                                                                                            refine lv_iload_n hx hb dX8_readOneOf_60 rfl (lv_at hl 2 rfl) ?_
                                                                                                                            have hP9 : va_P (dC, dI) classes (WX h g ca (u2 (u2 (u2 iv 8 3 (iv 8 3)) 8 4 (iv 8 4)) 8 5 r3) lv fa la) H := hP
                                                                                                                            have hD9 : va_D A (WX h g ca (u2 (u2 (u2 iv 8 3 (iv 8 3)) 8 4 (iv 8 4)) 8 5 r3) lv fa la) := hD
                                                                                                                            exact W.iret (v := 4) hx hb hr (fun t ht9 hW => ⟨⟨4, ((u2 (u2 (u2 iv 8 3 (iv 8 3)) 8 4 (iv 8 4)) 8 5 r3), lv, fa, la), rfl, ⟨(iv 8 3), (iv 8 4), r3, (hI.1 8 3), (hI.1 8 4), (show inb (0, 200) r3 from ⟨by omega, by omega⟩), ⟨by decide, by decide⟩, rfl⟩, by rw [ht9]; exact hP9, hD9⟩, hS.F ht9⟩) hS.2.2 dX8_readOneOf_61
                                                                                                                    · exact absurd c123 (by decide)
                                                                                                                · exact absurd c119 (by decide)
                                                                                                            · exact absurd c115 (by decide)
                                                                                                        · have fc110 := z_ne (rfl : (r109).toInt = _) (by decide : (0 : Int32).toInt = 0) c110
                                                                                                          refine lv_aload_n hx hb dX8_readOneOf_55 rfl (lv_at hl 4 rfl) ?_
                                                                                                          refine lv_iload_n hx hb dX8_readOneOf_56 rfl (lv_at hl 3 rfl) ?_
                                                                                                          refine pX_8_5 (v := r3) hx hb ht hown hK hP hD hS m_235 dX8_readOneOf_57 (fun H locs hP hD hS => ?_)
                                                                                                          have hP : va_P (dC, dI) classes (WX h g ca (u2 iv 8 5 r3) lv fa la) H := hP
                                                                                                          have hD : va_D A (WX h g ca (u2 iv 8 5 r3) lv fa la) := hD
                                                                                                          refine lv_iload_n hx hb dX8_readOneOf_60 rfl (lv_at hl 2 rfl) ?_
                                                                                                          have hP9 : va_P (dC, dI) classes (WX h g ca (u2 (u2 (u2 iv 8 3 (iv 8 3)) 8 4 (iv 8 4)) 8 5 r3) lv fa la) H := hP
                                                                                                          have hD9 : va_D A (WX h g ca (u2 (u2 (u2 iv 8 3 (iv 8 3)) 8 4 (iv 8 4)) 8 5 r3) lv fa la) := hD
                                                                                                          exact W.iret (v := 3) hx hb hr (fun t ht9 hW => ⟨⟨3, ((u2 (u2 (u2 iv 8 3 (iv 8 3)) 8 4 (iv 8 4)) 8 5 r3), lv, fa, la), rfl, ⟨(iv 8 3), (iv 8 4), r3, (hI.1 8 3), (hI.1 8 4), (show inb (0, 200) r3 from ⟨by omega, by omega⟩), ⟨by decide, by decide⟩, rfl⟩, by rw [ht9]; exact hP9, hD9⟩, hS.F ht9⟩) hS.2.2 dX8_readOneOf_61
                                                                                                  · exact absurd c104 (by decide)
                                                                                              · exact absurd c100 (by decide)
                                                                                          · exact absurd c96 (by decide)
                                                                                      · exact absurd c92 (by decide)
                                                                                  · exact absurd c88 (by decide)
                                                                              · have fc83 := z_ne (rfl : (r82).toInt = _) (by decide : (0 : Int32).toInt = 0) c83
                                                                                refine lv_aload_n hx hb dX8_readOneOf_55 rfl (lv_at hl 4 rfl) ?_
                                                                                refine lv_iload_n hx hb dX8_readOneOf_56 rfl (lv_at hl 3 rfl) ?_
                                                                                refine pX_8_5 (v := r3) hx hb ht hown hK hP hD hS m_235 dX8_readOneOf_57 (fun H locs hP hD hS => ?_)
                                                                                have hP : va_P (dC, dI) classes (WX h g ca (u2 iv 8 5 r3) lv fa la) H := hP
                                                                                have hD : va_D A (WX h g ca (u2 iv 8 5 r3) lv fa la) := hD
                                                                                refine lv_iload_n hx hb dX8_readOneOf_60 rfl (lv_at hl 2 rfl) ?_
                                                                                have hP9 : va_P (dC, dI) classes (WX h g ca (u2 (u2 (u2 iv 8 3 (iv 8 3)) 8 4 (iv 8 4)) 8 5 r3) lv fa la) H := hP
                                                                                have hD9 : va_D A (WX h g ca (u2 (u2 (u2 iv 8 3 (iv 8 3)) 8 4 (iv 8 4)) 8 5 r3) lv fa la) := hD
                                                                                exact W.iret (v := 2) hx hb hr (fun t ht9 hW => ⟨⟨2, ((u2 (u2 (u2 iv 8 3 (iv 8 3)) 8 4 (iv 8 4)) 8 5 r3), lv, fa, la), rfl, ⟨(iv 8 3), (iv 8 4), r3, (hI.1 8 3), (hI.1 8 4), (show inb (0, 200) r3 from ⟨by omega, by omega⟩), ⟨by decide, by decide⟩, rfl⟩, by rw [ht9]; exact hP9, hD9⟩, hS.F ht9⟩) hS.2.2 dX8_readOneOf_61
                                                                        · exact absurd c77 (by decide)
                                                                    · exact absurd c73 (by decide)
                                                                · exact absurd c69 (by decide)
                                                            · exact absurd c65 (by decide)
                                                        · have fc60 := z_ne (rfl : (r59).toInt = _) (by decide : (0 : Int32).toInt = 0) c60
                                                          refine lv_aload_n hx hb dX8_readOneOf_55 rfl (lv_at hl 4 rfl) ?_
                                                          refine lv_iload_n hx hb dX8_readOneOf_56 rfl (lv_at hl 3 rfl) ?_
                                                          refine pX_8_5 (v := r3) hx hb ht hown hK hP hD hS m_235 dX8_readOneOf_57 (fun H locs hP hD hS => ?_)
                                                          have hP : va_P (dC, dI) classes (WX h g ca (u2 iv 8 5 r3) lv fa la) H := hP
                                                          have hD : va_D A (WX h g ca (u2 iv 8 5 r3) lv fa la) := hD
                                                          refine lv_iload_n hx hb dX8_readOneOf_60 rfl (lv_at hl 2 rfl) ?_
                                                          have hP9 : va_P (dC, dI) classes (WX h g ca (u2 (u2 (u2 iv 8 3 (iv 8 3)) 8 4 (iv 8 4)) 8 5 r3) lv fa la) H := hP
                                                          have hD9 : va_D A (WX h g ca (u2 (u2 (u2 iv 8 3 (iv 8 3)) 8 4 (iv 8 4)) 8 5 r3) lv fa la) := hD
                                                          exact W.iret (v := 1) hx hb hr (fun t ht9 hW => ⟨⟨1, ((u2 (u2 (u2 iv 8 3 (iv 8 3)) 8 4 (iv 8 4)) 8 5 r3), lv, fa, la), rfl, ⟨(iv 8 3), (iv 8 4), r3, (hI.1 8 3), (hI.1 8 4), (show inb (0, 200) r3 from ⟨by omega, by omega⟩), ⟨by decide, by decide⟩, rfl⟩, by rw [ht9]; exact hP9, hD9⟩, hS.F ht9⟩) hS.2.2 dX8_readOneOf_61
                                                  · exact absurd c54 (by decide)
                                              · exact absurd c50 (by decide)
                                          · exact absurd c46 (by decide)
                                      · exact absurd c42 (by decide)
                                  · exact absurd c38 (by decide)
                              · exact absurd c34 (by decide)
                          · have fc29 := z_ne (rfl : (r28).toInt = _) (by decide : (0 : Int32).toInt = 0) c29
                            refine lv_aload_n hx hb dX8_readOneOf_55 rfl (lv_at hl 4 rfl) ?_
                            refine lv_iload_n hx hb dX8_readOneOf_56 rfl (lv_at hl 3 rfl) ?_
                            refine pX_8_5 (v := r3) hx hb ht hown hK hP hD hS m_235 dX8_readOneOf_57 (fun H locs hP hD hS => ?_)
                            have hP : va_P (dC, dI) classes (WX h g ca (u2 iv 8 5 r3) lv fa la) H := hP
                            have hD : va_D A (WX h g ca (u2 iv 8 5 r3) lv fa la) := hD
                            refine lv_iload_n hx hb dX8_readOneOf_60 rfl (lv_at hl 2 rfl) ?_
                            have hP9 : va_P (dC, dI) classes (WX h g ca (u2 (u2 (u2 iv 8 3 (iv 8 3)) 8 4 (iv 8 4)) 8 5 r3) lv fa la) H := hP
                            have hD9 : va_D A (WX h g ca (u2 (u2 (u2 iv 8 3 (iv 8 3)) 8 4 (iv 8 4)) 8 5 r3) lv fa la) := hD
                            exact W.iret (v := 0) hx hb hr (fun t ht9 hW => ⟨⟨0, ((u2 (u2 (u2 iv 8 3 (iv 8 3)) 8 4 (iv 8 4)) 8 5 r3), lv, fa, la), rfl, ⟨(iv 8 3), (iv 8 4), r3, (hI.1 8 3), (hI.1 8 4), (show inb (0, 200) r3 from ⟨by omega, by omega⟩), ⟨by decide, by decide⟩, rfl⟩, by rw [ht9]; exact hP9, hD9⟩, hS.F ht9⟩) hS.2.2 dX8_readOneOf_61
                    · exact absurd c23 (by decide)
                · exact absurd c19 (by decide)
            · exact absurd c15 (by decide)
        · exact absurd c11 (by decide)
    · exact absurd c7 (by decide)
set_option maxHeartbeats 4000000 in
set_option maxRecDepth 100000 in
/-- X8_readOneOf -/
theorem c_X8_readOneOf_2 (l : Launch) (dC : Nat → ClassId) (dI : Nat → Nat → Nat) (sz : Nat) (ak av : Nat → Nat) (h : Nat) (g : Nat → Nat → Nat) (ca : Nat → Nat → ClassId) (iv : Nat → Nat → Int32) (lv : Nat → Nat → Int64) (fa : Nat → Nat → Nat → Int32) (la : Nat → Nat → Nat → Int64) (hI : IX iv fa) : Met l yX8_readOneOf (wc yX8_readOneOf cX8_readOneOf 6 (some .int)) ({ frames := 5, cells := 0, slots := 0, locals := 110 } : Room) (pWZ ak av (dC, dI) classes (WX h g ca iv lv fa la) (TX ca) sz [.ref (g 11 4), .ref (ak 2)]) (va_Qi (fun r (u : SS) => ∃ (ni_8_3 : Int32) (ni_8_4 : Int32) (ni_8_5 : Int32), inb (bI 8 3) ni_8_3 ∧ inb (bI 8 4) ni_8_4 ∧ inb (bI 8 5) ni_8_5 ∧ ((-1) ≤ r.toInt ∧ r.toInt ≤ 2) ∧ u = ((u2 (u2 (u2 iv 8 3 ni_8_3) 8 4 ni_8_4) 8 5 ni_8_5), lv, fa, la)) (bX (dC, dI) h g ca (va_A (WX h g ca iv lv fa la) sz)) (va_A (WX h g ca iv lv fa la) sz)) 0 0 (va_A (WX h g ca iv lv fa la) sz) := by
  refine Met.ofW (cc := cX8_readOneOf) (maxL := 6) (ret := (some .int)) (by decide) rfl ?_
  intro p e s m args below meth c s₁ B hml hv
  obtain ⟨rfl, hsz, hP, hK, hD0, hZ⟩ := hv
  have hx := B.exec
  have hb := B.bytes
  have hr := B.returns
  have ht := tb_tl (atoms_spec (ws := wc yX8_readOneOf cX8_readOneOf 6 (some .int)) B.pre)
  have hown : s.vm.findClass RX8 = some m.cls := findClass_of_methodNamed B.named
  have hlocks := B.notSynchronized
  subst hsz
  have hD := hD0.self (sz := s.heap.size)
  generalize hAe : va_A (WX h g ca iv lv fa la) s.heap.size = A at hD hZ ⊢
  have hA : ∀ q : Nat, s.heap.size ≤ q → A q := fun q h => by rw [← hAe]; exact Or.inr h
  have hS : va_S A s.heap s.heap [] := va_S.rf
  have hl := lv_entry [.ref (g 11 4), .ref (ak 2)] (n := 6) (Nat.le_of_ble_eq_true rfl)
  rw [lg_entry_eq]
  generalize (lg_sl [.ref (g 11 4), .ref (ak 2)] ++ List.replicate (6 - (lg_sl [.ref (g 11 4), .ref (ak 2)]).length) Slot.unset).toArray = ls at hl ⊢
  have hl : lv_has ls 6 [(0, .ref (g 11 4)), (1, .ref (ak 2))] := hl
  refine lv_aload_n hx hb dX8_readOneOf_0 rfl (lv_at hl 0 rfl) ?_
  have hFc := free_all hD hS hA
  refine va_calli (va_runV (As := []) (rest := []) ⟨hx, hb, hml, hown, ht⟩ (c_X8_skipBlanks l dC dI s.heap.size h g ca iv lv fa la hI) (kV 0 ht m_688 m_690 m_16 m_82 m_691 rfl rfl hd_X8_skipBlanks_v ⟨Nat.le_of_ble_eq_true rfl, Nat.le_of_ble_eq_true rfl⟩) (vW hP hK hD (rX_8 hK hP)) rfl rfl hl.1 rfl (lv_room (Nat.le_of_ble_eq_true rfl)) dX8_readOneOf_1 ⟨Nat.le_of_ble_eq_true rfl, Nat.le_of_ble_eq_true rfl⟩) hS (fun q _ h => hFc q h) hFc (fun r1 u t H1 locs ht9 hvm hr1 hB hz1 hk1 hS => ?_)
  obtain ⟨n2, hn2, hr1, rfl⟩ := hr1
  have hn2 : 0 ≤ n2.toInt ∧ n2.toInt ≤ 200 := hn2
  obtain ⟨hP, hD⟩ := hB
  rw [ht9] at hP
  generalize H1 = H at hP hS ⊢
  have hP : va_P (dC, dI) classes (WX h g ca (u2 iv 8 5 n2) lv fa la) H := hP
  have hD : va_D A (WX h g ca (u2 iv 8 5 n2) lv fa la) := (show va_D _ (WX h g ca (u2 iv 8 5 n2) lv fa la) from hD).weaken (fun _ _ _ h => hFc _ h)
  refine lv_pop hx hb dX8_readOneOf_4 rfl ?_
  refine lv_aload_n hx hb dX8_readOneOf_5 rfl (lv_at hl 0 rfl) ?_
  refine lv_bipush (v := 97) hx hb dX8_readOneOf_6 (by decide) ?_
  refine lv_bipush (v := 122) hx hb dX8_readOneOf_8 (by decide) ?_
  refine vp_callSi (W.runV (As := [.int 97, .int 122]) (rest := []) ⟨hx, hb, hml, hown, ht⟩ (c_X8_endOfRun l dC dI h g ca (u2 iv 8 5 n2) lv fa la (IX_i (c := 8) (k := 5) hI (show inb (0, 200) n2 from ⟨by omega, by omega⟩)) 97 122) (kV 2 ht m_701 m_703 m_19 m_82 m_704 rfl rfl hd_X8_endOfRun_v ⟨Nat.le_of_ble_eq_true rfl, Nat.le_of_ble_eq_true rfl⟩) (vR hP hK (rX_8 hK hP)) rfl rfl hl.1 rfl (lv_room (Nat.le_of_ble_eq_true rfl)) dX8_readOneOf_10 ⟨Nat.le_of_ble_eq_true rfl, Nat.le_of_ble_eq_true rfl⟩) (fun r3 hr3 => ?_)
  refine lv_istore_n (lv' := [(2, .int r3), (0, .ref (g 11 4)), (1, .ref (ak 2))]) hx hb dX8_readOneOf_13 rfl hl (by decide) rfl (fun ls hl => ?_)
  refine lv_iconst (v := 0) hx hb dX8_readOneOf_14 (by decide) ?_
  refine lv_istore_n (lv' := [(3, .int 0), (2, .int r3), (0, .ref (g 11 4)), (1, .ref (ak 2))]) hx hb dX8_readOneOf_15 rfl hl (by decide) rfl (fun ls hl => ?_)
  refine lv_iconst (v := 0) hx hb dX8_readOneOf_16 (by decide) ?_
  refine lv_istore (lv' := [(4, .int 0), (3, .int 0), (2, .int r3), (0, .ref (g 11 4)), (1, .ref (ak 2))]) hx hb dX8_readOneOf_17 hl (by decide) rfl (fun ls hl => ?_)
  refine lv_iconst (v := 0) hx hb dX8_readOneOf_19 (by decide) ?_
  refine lv_istore (lv' := [(5, .int 0), (4, .int 0), (3, .int 0), (2, .int r3), (0, .ref (g 11 4)), (1, .ref (ak 2))]) hx hb dX8_readOneOf_20 hl (by decide) rfl (fun ls hl => ?_)
  refine lv_iload hx hb dX8_readOneOf_22 (lv_at hl 0 rfl) ?_
  refine lv_aload_n hx hb dX8_readOneOf_24 rfl (lv_at hl 5 rfl) ?_
  refine vp_callSi (W.runV (As := []) (rest := [.int 0]) ⟨hx, hb, hml, hown, ht⟩ (c_J0_length_8abf5_2 l dC dI ak av) (kV 0 ht m_705 m_706 m_707 m_91 m_708 rfl rfl hd_J0_length_8abf5_v ⟨Nat.le_of_ble_eq_true rfl, Nat.le_of_ble_eq_true rfl⟩) (vRZ noP (hK.sub (tys' := []) [] rfl) ((hZ.kept hS.2.1).narrow (fun _ h => h.elim)) (vk_recv hZ.1.2.2.2.2.2 (i := 2) (by decide) hS)) rfl rfl hl.1 rfl (lv_room (Nat.le_of_ble_eq_true rfl)) dX8_readOneOf_25 ⟨Nat.le_of_ble_eq_true rfl, Nat.le_of_ble_eq_true rfl⟩) (fun r4 hr4 => ?_)
  obtain rfl : 18 = r4 := hr4.symm
  refine lv_icmp_ge (tgt := 77) hx hb dX8_readOneOf_28 (by decide) (fun c5 => ?_) (fun c5 => ?_)
  · exact absurd c5 (by decide)
  · skip
    refine lv_aload_n hx hb dX8_readOneOf_31 rfl (lv_at hl 5 rfl) ?_
    refine lv_iload hx hb dX8_readOneOf_32 (lv_at hl 0 rfl) ?_
    refine vp_callSi (W.runV (As := [.int 0]) (rest := []) ⟨hx, hb, hml, hown, ht⟩ (c_J0_charAt_5068e_2 l dC dI ak av 0 ⟨by decide, by decide⟩) (kV 1 ht m_715 m_716 m_717 m_91 m_718 rfl rfl hd_J0_charAt_5068e_v ⟨Nat.le_of_ble_eq_true rfl, Nat.le_of_ble_eq_true rfl⟩) (vRZ noP (hK.sub (tys' := []) [] rfl) ((hZ.kept hS.2.1).narrow (fun _ h => h.elim)) (vk_recv hZ.1.2.2.2.2.2 (i := 2) (by decide) hS)) rfl rfl hl.1 rfl (lv_room (Nat.le_of_ble_eq_true rfl)) dX8_readOneOf_34 ⟨Nat.le_of_ble_eq_true rfl, Nat.le_of_ble_eq_true rfl⟩) (fun r6 hr6 => ?_)
    obtain rfl : 109 = r6 := (hr6.trans (by decide)).symm
    refine lv_bipush (v := 32) hx hb dX8_readOneOf_37 (by decide) ?_
    refine lv_icmp_ne (tgt := 71) hx hb dX8_readOneOf_39 (by decide) (fun c7 => ?_) (fun c7 => ?_)
    · skip
      refine lv_iinc (v := 1) (lv' := [(5, .int 1), (4, .int 0), (3, .int 0), (2, .int r3), (0, .ref (g 11 4)), (1, .ref (ak 2))]) hx hb dX8_readOneOf_71 hl (k := 0) rfl (by decide) (by decide) rfl (fun ls hl => ?_)
      refine lv_goto (tgt := 22) hx hb dX8_readOneOf_74 (by decide) ?_
      refine lv_iload hx hb dX8_readOneOf_22 (lv_at hl 0 rfl) ?_
      refine lv_aload_n hx hb dX8_readOneOf_24 rfl (lv_at hl 5 rfl) ?_
      refine vp_callSi (W.runV (As := []) (rest := [.int 1]) ⟨hx, hb, hml, hown, ht⟩ (c_J0_length_8abf5_2 l dC dI ak av) (kV 0 ht m_705 m_706 m_707 m_91 m_708 rfl rfl hd_J0_length_8abf5_v ⟨Nat.le_of_ble_eq_true rfl, Nat.le_of_ble_eq_true rfl⟩) (vRZ noP (hK.sub (tys' := []) [] rfl) ((hZ.kept hS.2.1).narrow (fun _ h => h.elim)) (vk_recv hZ.1.2.2.2.2.2 (i := 2) (by decide) hS)) rfl rfl hl.1 rfl (lv_room (Nat.le_of_ble_eq_true rfl)) dX8_readOneOf_25 ⟨Nat.le_of_ble_eq_true rfl, Nat.le_of_ble_eq_true rfl⟩) (fun r8 hr8 => ?_)
      obtain rfl : 18 = r8 := hr8.symm
      refine lv_icmp_ge (tgt := 77) hx hb dX8_readOneOf_28 (by decide) (fun c9 => ?_) (fun c9 => ?_)
      · exact absurd c9 (by decide)
      · skip
        refine lv_aload_n hx hb dX8_readOneOf_31 rfl (lv_at hl 5 rfl) ?_
        refine lv_iload hx hb dX8_readOneOf_32 (lv_at hl 0 rfl) ?_
        refine vp_callSi (W.runV (As := [.int 1]) (rest := []) ⟨hx, hb, hml, hown, ht⟩ (c_J0_charAt_5068e_2 l dC dI ak av 1 ⟨by decide, by decide⟩) (kV 1 ht m_715 m_716 m_717 m_91 m_718 rfl rfl hd_J0_charAt_5068e_v ⟨Nat.le_of_ble_eq_true rfl, Nat.le_of_ble_eq_true rfl⟩) (vRZ noP (hK.sub (tys' := []) [] rfl) ((hZ.kept hS.2.1).narrow (fun _ h => h.elim)) (vk_recv hZ.1.2.2.2.2.2 (i := 2) (by decide) hS)) rfl rfl hl.1 rfl (lv_room (Nat.le_of_ble_eq_true rfl)) dX8_readOneOf_34 ⟨Nat.le_of_ble_eq_true rfl, Nat.le_of_ble_eq_true rfl⟩) (fun r10 hr10 => ?_)
        obtain rfl : 101 = r10 := (hr10.trans (by decide)).symm
        refine lv_bipush (v := 32) hx hb dX8_readOneOf_37 (by decide) ?_
        refine lv_icmp_ne (tgt := 71) hx hb dX8_readOneOf_39 (by decide) (fun c11 => ?_) (fun c11 => ?_)
        · skip
          refine lv_iinc (v := 2) (lv' := [(5, .int 2), (4, .int 0), (3, .int 0), (2, .int r3), (0, .ref (g 11 4)), (1, .ref (ak 2))]) hx hb dX8_readOneOf_71 hl (k := 0) rfl (by decide) (by decide) rfl (fun ls hl => ?_)
          refine lv_goto (tgt := 22) hx hb dX8_readOneOf_74 (by decide) ?_
          refine lv_iload hx hb dX8_readOneOf_22 (lv_at hl 0 rfl) ?_
          refine lv_aload_n hx hb dX8_readOneOf_24 rfl (lv_at hl 5 rfl) ?_
          refine vp_callSi (W.runV (As := []) (rest := [.int 2]) ⟨hx, hb, hml, hown, ht⟩ (c_J0_length_8abf5_2 l dC dI ak av) (kV 0 ht m_705 m_706 m_707 m_91 m_708 rfl rfl hd_J0_length_8abf5_v ⟨Nat.le_of_ble_eq_true rfl, Nat.le_of_ble_eq_true rfl⟩) (vRZ noP (hK.sub (tys' := []) [] rfl) ((hZ.kept hS.2.1).narrow (fun _ h => h.elim)) (vk_recv hZ.1.2.2.2.2.2 (i := 2) (by decide) hS)) rfl rfl hl.1 rfl (lv_room (Nat.le_of_ble_eq_true rfl)) dX8_readOneOf_25 ⟨Nat.le_of_ble_eq_true rfl, Nat.le_of_ble_eq_true rfl⟩) (fun r12 hr12 => ?_)
          obtain rfl : 18 = r12 := hr12.symm
          refine lv_icmp_ge (tgt := 77) hx hb dX8_readOneOf_28 (by decide) (fun c13 => ?_) (fun c13 => ?_)
          · exact absurd c13 (by decide)
          · skip
            refine lv_aload_n hx hb dX8_readOneOf_31 rfl (lv_at hl 5 rfl) ?_
            refine lv_iload hx hb dX8_readOneOf_32 (lv_at hl 0 rfl) ?_
            refine vp_callSi (W.runV (As := [.int 2]) (rest := []) ⟨hx, hb, hml, hown, ht⟩ (c_J0_charAt_5068e_2 l dC dI ak av 2 ⟨by decide, by decide⟩) (kV 1 ht m_715 m_716 m_717 m_91 m_718 rfl rfl hd_J0_charAt_5068e_v ⟨Nat.le_of_ble_eq_true rfl, Nat.le_of_ble_eq_true rfl⟩) (vRZ noP (hK.sub (tys' := []) [] rfl) ((hZ.kept hS.2.1).narrow (fun _ h => h.elim)) (vk_recv hZ.1.2.2.2.2.2 (i := 2) (by decide) hS)) rfl rfl hl.1 rfl (lv_room (Nat.le_of_ble_eq_true rfl)) dX8_readOneOf_34 ⟨Nat.le_of_ble_eq_true rfl, Nat.le_of_ble_eq_true rfl⟩) (fun r14 hr14 => ?_)
            obtain rfl : 97 = r14 := (hr14.trans (by decide)).symm
            refine lv_bipush (v := 32) hx hb dX8_readOneOf_37 (by decide) ?_
            refine lv_icmp_ne (tgt := 71) hx hb dX8_readOneOf_39 (by decide) (fun c15 => ?_) (fun c15 => ?_)
            · skip
              refine lv_iinc (v := 3) (lv' := [(5, .int 3), (4, .int 0), (3, .int 0), (2, .int r3), (0, .ref (g 11 4)), (1, .ref (ak 2))]) hx hb dX8_readOneOf_71 hl (k := 0) rfl (by decide) (by decide) rfl (fun ls hl => ?_)
              refine lv_goto (tgt := 22) hx hb dX8_readOneOf_74 (by decide) ?_
              refine lv_iload hx hb dX8_readOneOf_22 (lv_at hl 0 rfl) ?_
              refine lv_aload_n hx hb dX8_readOneOf_24 rfl (lv_at hl 5 rfl) ?_
              refine vp_callSi (W.runV (As := []) (rest := [.int 3]) ⟨hx, hb, hml, hown, ht⟩ (c_J0_length_8abf5_2 l dC dI ak av) (kV 0 ht m_705 m_706 m_707 m_91 m_708 rfl rfl hd_J0_length_8abf5_v ⟨Nat.le_of_ble_eq_true rfl, Nat.le_of_ble_eq_true rfl⟩) (vRZ noP (hK.sub (tys' := []) [] rfl) ((hZ.kept hS.2.1).narrow (fun _ h => h.elim)) (vk_recv hZ.1.2.2.2.2.2 (i := 2) (by decide) hS)) rfl rfl hl.1 rfl (lv_room (Nat.le_of_ble_eq_true rfl)) dX8_readOneOf_25 ⟨Nat.le_of_ble_eq_true rfl, Nat.le_of_ble_eq_true rfl⟩) (fun r16 hr16 => ?_)
              obtain rfl : 18 = r16 := hr16.symm
              refine lv_icmp_ge (tgt := 77) hx hb dX8_readOneOf_28 (by decide) (fun c17 => ?_) (fun c17 => ?_)
              · exact absurd c17 (by decide)
              · skip
                refine lv_aload_n hx hb dX8_readOneOf_31 rfl (lv_at hl 5 rfl) ?_
                refine lv_iload hx hb dX8_readOneOf_32 (lv_at hl 0 rfl) ?_
                refine vp_callSi (W.runV (As := [.int 3]) (rest := []) ⟨hx, hb, hml, hown, ht⟩ (c_J0_charAt_5068e_2 l dC dI ak av 3 ⟨by decide, by decide⟩) (kV 1 ht m_715 m_716 m_717 m_91 m_718 rfl rfl hd_J0_charAt_5068e_v ⟨Nat.le_of_ble_eq_true rfl, Nat.le_of_ble_eq_true rfl⟩) (vRZ noP (hK.sub (tys' := []) [] rfl) ((hZ.kept hS.2.1).narrow (fun _ h => h.elim)) (vk_recv hZ.1.2.2.2.2.2 (i := 2) (by decide) hS)) rfl rfl hl.1 rfl (lv_room (Nat.le_of_ble_eq_true rfl)) dX8_readOneOf_34 ⟨Nat.le_of_ble_eq_true rfl, Nat.le_of_ble_eq_true rfl⟩) (fun r18 hr18 => ?_)
                obtain rfl : 110 = r18 := (hr18.trans (by decide)).symm
                refine lv_bipush (v := 32) hx hb dX8_readOneOf_37 (by decide) ?_
                refine lv_icmp_ne (tgt := 71) hx hb dX8_readOneOf_39 (by decide) (fun c19 => ?_) (fun c19 => ?_)
                · skip
                  refine lv_iinc (v := 4) (lv' := [(5, .int 4), (4, .int 0), (3, .int 0), (2, .int r3), (0, .ref (g 11 4)), (1, .ref (ak 2))]) hx hb dX8_readOneOf_71 hl (k := 0) rfl (by decide) (by decide) rfl (fun ls hl => ?_)
                  refine lv_goto (tgt := 22) hx hb dX8_readOneOf_74 (by decide) ?_
                  refine lv_iload hx hb dX8_readOneOf_22 (lv_at hl 0 rfl) ?_
                  refine lv_aload_n hx hb dX8_readOneOf_24 rfl (lv_at hl 5 rfl) ?_
                  refine vp_callSi (W.runV (As := []) (rest := [.int 4]) ⟨hx, hb, hml, hown, ht⟩ (c_J0_length_8abf5_2 l dC dI ak av) (kV 0 ht m_705 m_706 m_707 m_91 m_708 rfl rfl hd_J0_length_8abf5_v ⟨Nat.le_of_ble_eq_true rfl, Nat.le_of_ble_eq_true rfl⟩) (vRZ noP (hK.sub (tys' := []) [] rfl) ((hZ.kept hS.2.1).narrow (fun _ h => h.elim)) (vk_recv hZ.1.2.2.2.2.2 (i := 2) (by decide) hS)) rfl rfl hl.1 rfl (lv_room (Nat.le_of_ble_eq_true rfl)) dX8_readOneOf_25 ⟨Nat.le_of_ble_eq_true rfl, Nat.le_of_ble_eq_true rfl⟩) (fun r20 hr20 => ?_)
                  obtain rfl : 18 = r20 := hr20.symm
                  refine lv_icmp_ge (tgt := 77) hx hb dX8_readOneOf_28 (by decide) (fun c21 => ?_) (fun c21 => ?_)
                  · exact absurd c21 (by decide)
                  · skip
                    refine lv_aload_n hx hb dX8_readOneOf_31 rfl (lv_at hl 5 rfl) ?_
                    refine lv_iload hx hb dX8_readOneOf_32 (lv_at hl 0 rfl) ?_
                    refine vp_callSi (W.runV (As := [.int 4]) (rest := []) ⟨hx, hb, hml, hown, ht⟩ (c_J0_charAt_5068e_2 l dC dI ak av 4 ⟨by decide, by decide⟩) (kV 1 ht m_715 m_716 m_717 m_91 m_718 rfl rfl hd_J0_charAt_5068e_v ⟨Nat.le_of_ble_eq_true rfl, Nat.le_of_ble_eq_true rfl⟩) (vRZ noP (hK.sub (tys' := []) [] rfl) ((hZ.kept hS.2.1).narrow (fun _ h => h.elim)) (vk_recv hZ.1.2.2.2.2.2 (i := 2) (by decide) hS)) rfl rfl hl.1 rfl (lv_room (Nat.le_of_ble_eq_true rfl)) dX8_readOneOf_34 ⟨Nat.le_of_ble_eq_true rfl, Nat.le_of_ble_eq_true rfl⟩) (fun r22 hr22 => ?_)
                    obtain rfl : 32 = r22 := (hr22.trans (by decide)).symm
                    refine lv_bipush (v := 32) hx hb dX8_readOneOf_37 (by decide) ?_
                    refine lv_icmp_ne (tgt := 71) hx hb dX8_readOneOf_39 (by decide) (fun c23 => ?_) (fun c23 => ?_)
                    · exact absurd rfl c23
                    · skip
                      refine lv_aload_n hx hb dX8_readOneOf_42 rfl (lv_at hl 4 rfl) ?_
                      refine lv_aload_n hx hb dX8_readOneOf_43 rfl (lv_at hl 5 rfl) ?_
                      refine lv_iload hx hb dX8_readOneOf_44 (lv_at hl 1 rfl) ?_
                      refine lv_iload hx hb dX8_readOneOf_46 (lv_at hl 0 rfl) ?_
                      refine lv_iload_n hx hb dX8_readOneOf_48 rfl (lv_at hl 3 rfl) ?_
                      refine vp_callSi (W.runV (As := [.ref (ak 2), .int 0, .int 4, .int r3]) (rest := []) ⟨hx, hb, hml, hown, ht⟩ (c_X8_isSame_2 l dC dI ak av h g ca (u2 iv 8 5 n2) lv fa la (IX_i (c := 8) (k := 5) hI (show inb (0, 200) n2 from ⟨by omega, by omega⟩)) 0 4 r3 ⟨by decide, by decide⟩ ⟨by decide, by decide⟩ ⟨by omega, by omega⟩) (kV 4 ht m_753 m_755 m_20 m_82 m_756 rfl rfl hd_X8_isSame_v ⟨Nat.le_of_ble_eq_true rfl, Nat.le_of_ble_eq_true rfl⟩) (vRZ hP hK ((hZ.kept hS.2.1).narrow (fun _ h => h.elim)) (rX_8 hK hP)) rfl rfl hl.1 rfl (lv_room (Nat.le_of_ble_eq_true rfl)) dX8_readOneOf_49 ⟨Nat.le_of_ble_eq_true rfl, Nat.le_of_ble_eq_true rfl⟩) (fun r24 hr24 => ?_)
                      refine lv_if_eq (tgt := 62) hx hb dX8_readOneOf_52 (by decide) (fun c25 => ?_) (fun c25 => ?_)
                      · have fc25 := z_eq (rfl : (r24).toInt = _) (by decide : (0 : Int32).toInt = 0) c25
                        refine lv_iinc (v := 1) (lv' := [(3, .int 1), (5, .int 4), (4, .int 0), (2, .int r3), (0, .ref (g 11 4)), (1, .ref (ak 2))]) hx hb dX8_readOneOf_62 hl (k := 2) rfl (by decide) (by decide) rfl (fun ls hl => ?_)
                        refine lv_iload hx hb dX8_readOneOf_65 (lv_at hl 1 rfl) ?_
                        refine lv_iconst (v := 1) hx hb dX8_readOneOf_67 (by decide) ?_
                        refine lv_iadd hx hb dX8_readOneOf_68 ?_
                        refine lv_topi (fun v26 ev26 => ?_)
                        obtain rfl : 5 = v26 := (ev26.trans (by decide)).symm
                        refine lv_istore (lv' := [(4, .int 5), (3, .int 1), (5, .int 4), (2, .int r3), (0, .ref (g 11 4)), (1, .ref (ak 2))]) hx hb dX8_readOneOf_69 hl (by decide) rfl (fun ls hl => ?_)
                        refine lv_iinc (v := 5) (lv' := [(5, .int 5), (4, .int 5), (3, .int 1), (2, .int r3), (0, .ref (g 11 4)), (1, .ref (ak 2))]) hx hb dX8_readOneOf_71 hl (k := 2) rfl (by decide) (by decide) rfl (fun ls hl => ?_)
                        refine lv_goto (tgt := 22) hx hb dX8_readOneOf_74 (by decide) ?_
                        refine lv_iload hx hb dX8_readOneOf_22 (lv_at hl 0 rfl) ?_
                        refine lv_aload_n hx hb dX8_readOneOf_24 rfl (lv_at hl 5 rfl) ?_
                        refine vp_callSi (W.runV (As := []) (rest := [.int 5]) ⟨hx, hb, hml, hown, ht⟩ (c_J0_length_8abf5_2 l dC dI ak av) (kV 0 ht m_705 m_706 m_707 m_91 m_708 rfl rfl hd_J0_length_8abf5_v ⟨Nat.le_of_ble_eq_true rfl, Nat.le_of_ble_eq_true rfl⟩) (vRZ noP (hK.sub (tys' := []) [] rfl) ((hZ.kept hS.2.1).narrow (fun _ h => h.elim)) (vk_recv hZ.1.2.2.2.2.2 (i := 2) (by decide) hS)) rfl rfl hl.1 rfl (lv_room (Nat.le_of_ble_eq_true rfl)) dX8_readOneOf_25 ⟨Nat.le_of_ble_eq_true rfl, Nat.le_of_ble_eq_true rfl⟩) (fun r27 hr27 => ?_)
                        obtain rfl : 18 = r27 := hr27.symm
                        refine lv_icmp_ge (tgt := 77) hx hb dX8_readOneOf_28 (by decide) (fun c28 => ?_) (fun c28 => ?_)
                        · exact absurd c28 (by decide)
                        · skip
                          refine lv_aload_n hx hb dX8_readOneOf_31 rfl (lv_at hl 5 rfl) ?_
                          refine lv_iload hx hb dX8_readOneOf_32 (lv_at hl 0 rfl) ?_
                          refine vp_callSi (W.runV (As := [.int 5]) (rest := []) ⟨hx, hb, hml, hown, ht⟩ (c_J0_charAt_5068e_2 l dC dI ak av 5 ⟨by decide, by decide⟩) (kV 1 ht m_715 m_716 m_717 m_91 m_718 rfl rfl hd_J0_charAt_5068e_v ⟨Nat.le_of_ble_eq_true rfl, Nat.le_of_ble_eq_true rfl⟩) (vRZ noP (hK.sub (tys' := []) [] rfl) ((hZ.kept hS.2.1).narrow (fun _ h => h.elim)) (vk_recv hZ.1.2.2.2.2.2 (i := 2) (by decide) hS)) rfl rfl hl.1 rfl (lv_room (Nat.le_of_ble_eq_true rfl)) dX8_readOneOf_34 ⟨Nat.le_of_ble_eq_true rfl, Nat.le_of_ble_eq_true rfl⟩) (fun r29 hr29 => ?_)
                          obtain rfl : 108 = r29 := (hr29.trans (by decide)).symm
                          refine lv_bipush (v := 32) hx hb dX8_readOneOf_37 (by decide) ?_
                          refine lv_icmp_ne (tgt := 71) hx hb dX8_readOneOf_39 (by decide) (fun c30 => ?_) (fun c30 => ?_)
                          · skip
                            refine lv_iinc (v := 6) (lv' := [(5, .int 6), (4, .int 5), (3, .int 1), (2, .int r3), (0, .ref (g 11 4)), (1, .ref (ak 2))]) hx hb dX8_readOneOf_71 hl (k := 0) rfl (by decide) (by decide) rfl (fun ls hl => ?_)
                            refine lv_goto (tgt := 22) hx hb dX8_readOneOf_74 (by decide) ?_
                            refine lv_iload hx hb dX8_readOneOf_22 (lv_at hl 0 rfl) ?_
                            refine lv_aload_n hx hb dX8_readOneOf_24 rfl (lv_at hl 5 rfl) ?_
                            refine vp_callSi (W.runV (As := []) (rest := [.int 6]) ⟨hx, hb, hml, hown, ht⟩ (c_J0_length_8abf5_2 l dC dI ak av) (kV 0 ht m_705 m_706 m_707 m_91 m_708 rfl rfl hd_J0_length_8abf5_v ⟨Nat.le_of_ble_eq_true rfl, Nat.le_of_ble_eq_true rfl⟩) (vRZ noP (hK.sub (tys' := []) [] rfl) ((hZ.kept hS.2.1).narrow (fun _ h => h.elim)) (vk_recv hZ.1.2.2.2.2.2 (i := 2) (by decide) hS)) rfl rfl hl.1 rfl (lv_room (Nat.le_of_ble_eq_true rfl)) dX8_readOneOf_25 ⟨Nat.le_of_ble_eq_true rfl, Nat.le_of_ble_eq_true rfl⟩) (fun r31 hr31 => ?_)
                            obtain rfl : 18 = r31 := hr31.symm
                            refine lv_icmp_ge (tgt := 77) hx hb dX8_readOneOf_28 (by decide) (fun c32 => ?_) (fun c32 => ?_)
                            · exact absurd c32 (by decide)
                            · skip
                              refine lv_aload_n hx hb dX8_readOneOf_31 rfl (lv_at hl 5 rfl) ?_
                              refine lv_iload hx hb dX8_readOneOf_32 (lv_at hl 0 rfl) ?_
                              refine vp_callSi (W.runV (As := [.int 6]) (rest := []) ⟨hx, hb, hml, hown, ht⟩ (c_J0_charAt_5068e_2 l dC dI ak av 6 ⟨by decide, by decide⟩) (kV 1 ht m_715 m_716 m_717 m_91 m_718 rfl rfl hd_J0_charAt_5068e_v ⟨Nat.le_of_ble_eq_true rfl, Nat.le_of_ble_eq_true rfl⟩) (vRZ noP (hK.sub (tys' := []) [] rfl) ((hZ.kept hS.2.1).narrow (fun _ h => h.elim)) (vk_recv hZ.1.2.2.2.2.2 (i := 2) (by decide) hS)) rfl rfl hl.1 rfl (lv_room (Nat.le_of_ble_eq_true rfl)) dX8_readOneOf_34 ⟨Nat.le_of_ble_eq_true rfl, Nat.le_of_ble_eq_true rfl⟩) (fun r33 hr33 => ?_)
                              obtain rfl : 101 = r33 := (hr33.trans (by decide)).symm
                              refine lv_bipush (v := 32) hx hb dX8_readOneOf_37 (by decide) ?_
                              refine lv_icmp_ne (tgt := 71) hx hb dX8_readOneOf_39 (by decide) (fun c34 => ?_) (fun c34 => ?_)
                              · skip
                                refine lv_iinc (v := 7) (lv' := [(5, .int 7), (4, .int 5), (3, .int 1), (2, .int r3), (0, .ref (g 11 4)), (1, .ref (ak 2))]) hx hb dX8_readOneOf_71 hl (k := 0) rfl (by decide) (by decide) rfl (fun ls hl => ?_)
                                refine lv_goto (tgt := 22) hx hb dX8_readOneOf_74 (by decide) ?_
                                refine lv_iload hx hb dX8_readOneOf_22 (lv_at hl 0 rfl) ?_
                                refine lv_aload_n hx hb dX8_readOneOf_24 rfl (lv_at hl 5 rfl) ?_
                                refine vp_callSi (W.runV (As := []) (rest := [.int 7]) ⟨hx, hb, hml, hown, ht⟩ (c_J0_length_8abf5_2 l dC dI ak av) (kV 0 ht m_705 m_706 m_707 m_91 m_708 rfl rfl hd_J0_length_8abf5_v ⟨Nat.le_of_ble_eq_true rfl, Nat.le_of_ble_eq_true rfl⟩) (vRZ noP (hK.sub (tys' := []) [] rfl) ((hZ.kept hS.2.1).narrow (fun _ h => h.elim)) (vk_recv hZ.1.2.2.2.2.2 (i := 2) (by decide) hS)) rfl rfl hl.1 rfl (lv_room (Nat.le_of_ble_eq_true rfl)) dX8_readOneOf_25 ⟨Nat.le_of_ble_eq_true rfl, Nat.le_of_ble_eq_true rfl⟩) (fun r35 hr35 => ?_)
                                obtain rfl : 18 = r35 := hr35.symm
                                refine lv_icmp_ge (tgt := 77) hx hb dX8_readOneOf_28 (by decide) (fun c36 => ?_) (fun c36 => ?_)
                                · exact absurd c36 (by decide)
                                · skip
                                  refine lv_aload_n hx hb dX8_readOneOf_31 rfl (lv_at hl 5 rfl) ?_
                                  refine lv_iload hx hb dX8_readOneOf_32 (lv_at hl 0 rfl) ?_
                                  refine vp_callSi (W.runV (As := [.int 7]) (rest := []) ⟨hx, hb, hml, hown, ht⟩ (c_J0_charAt_5068e_2 l dC dI ak av 7 ⟨by decide, by decide⟩) (kV 1 ht m_715 m_716 m_717 m_91 m_718 rfl rfl hd_J0_charAt_5068e_v ⟨Nat.le_of_ble_eq_true rfl, Nat.le_of_ble_eq_true rfl⟩) (vRZ noP (hK.sub (tys' := []) [] rfl) ((hZ.kept hS.2.1).narrow (fun _ h => h.elim)) (vk_recv hZ.1.2.2.2.2.2 (i := 2) (by decide) hS)) rfl rfl hl.1 rfl (lv_room (Nat.le_of_ble_eq_true rfl)) dX8_readOneOf_34 ⟨Nat.le_of_ble_eq_true rfl, Nat.le_of_ble_eq_true rfl⟩) (fun r37 hr37 => ?_)
                                  obtain rfl : 97 = r37 := (hr37.trans (by decide)).symm
                                  refine lv_bipush (v := 32) hx hb dX8_readOneOf_37 (by decide) ?_
                                  refine lv_icmp_ne (tgt := 71) hx hb dX8_readOneOf_39 (by decide) (fun c38 => ?_) (fun c38 => ?_)
                                  · skip
                                    refine lv_iinc (v := 8) (lv' := [(5, .int 8), (4, .int 5), (3, .int 1), (2, .int r3), (0, .ref (g 11 4)), (1, .ref (ak 2))]) hx hb dX8_readOneOf_71 hl (k := 0) rfl (by decide) (by decide) rfl (fun ls hl => ?_)
                                    refine lv_goto (tgt := 22) hx hb dX8_readOneOf_74 (by decide) ?_
                                    refine lv_iload hx hb dX8_readOneOf_22 (lv_at hl 0 rfl) ?_
                                    refine lv_aload_n hx hb dX8_readOneOf_24 rfl (lv_at hl 5 rfl) ?_
                                    refine vp_callSi (W.runV (As := []) (rest := [.int 8]) ⟨hx, hb, hml, hown, ht⟩ (c_J0_length_8abf5_2 l dC dI ak av) (kV 0 ht m_705 m_706 m_707 m_91 m_708 rfl rfl hd_J0_length_8abf5_v ⟨Nat.le_of_ble_eq_true rfl, Nat.le_of_ble_eq_true rfl⟩) (vRZ noP (hK.sub (tys' := []) [] rfl) ((hZ.kept hS.2.1).narrow (fun _ h => h.elim)) (vk_recv hZ.1.2.2.2.2.2 (i := 2) (by decide) hS)) rfl rfl hl.1 rfl (lv_room (Nat.le_of_ble_eq_true rfl)) dX8_readOneOf_25 ⟨Nat.le_of_ble_eq_true rfl, Nat.le_of_ble_eq_true rfl⟩) (fun r39 hr39 => ?_)
                                    obtain rfl : 18 = r39 := hr39.symm
                                    refine lv_icmp_ge (tgt := 77) hx hb dX8_readOneOf_28 (by decide) (fun c40 => ?_) (fun c40 => ?_)
                                    · exact absurd c40 (by decide)
                                    · skip
                                      refine lv_aload_n hx hb dX8_readOneOf_31 rfl (lv_at hl 5 rfl) ?_
                                      refine lv_iload hx hb dX8_readOneOf_32 (lv_at hl 0 rfl) ?_
                                      refine vp_callSi (W.runV (As := [.int 8]) (rest := []) ⟨hx, hb, hml, hown, ht⟩ (c_J0_charAt_5068e_2 l dC dI ak av 8 ⟨by decide, by decide⟩) (kV 1 ht m_715 m_716 m_717 m_91 m_718 rfl rfl hd_J0_charAt_5068e_v ⟨Nat.le_of_ble_eq_true rfl, Nat.le_of_ble_eq_true rfl⟩) (vRZ noP (hK.sub (tys' := []) [] rfl) ((hZ.kept hS.2.1).narrow (fun _ h => h.elim)) (vk_recv hZ.1.2.2.2.2.2 (i := 2) (by decide) hS)) rfl rfl hl.1 rfl (lv_room (Nat.le_of_ble_eq_true rfl)) dX8_readOneOf_34 ⟨Nat.le_of_ble_eq_true rfl, Nat.le_of_ble_eq_true rfl⟩) (fun r41 hr41 => ?_)
                                      obtain rfl : 115 = r41 := (hr41.trans (by decide)).symm
                                      refine lv_bipush (v := 32) hx hb dX8_readOneOf_37 (by decide) ?_
                                      refine lv_icmp_ne (tgt := 71) hx hb dX8_readOneOf_39 (by decide) (fun c42 => ?_) (fun c42 => ?_)
                                      · skip
                                        refine lv_iinc (v := 9) (lv' := [(5, .int 9), (4, .int 5), (3, .int 1), (2, .int r3), (0, .ref (g 11 4)), (1, .ref (ak 2))]) hx hb dX8_readOneOf_71 hl (k := 0) rfl (by decide) (by decide) rfl (fun ls hl => ?_)
                                        refine lv_goto (tgt := 22) hx hb dX8_readOneOf_74 (by decide) ?_
                                        refine lv_iload hx hb dX8_readOneOf_22 (lv_at hl 0 rfl) ?_
                                        refine lv_aload_n hx hb dX8_readOneOf_24 rfl (lv_at hl 5 rfl) ?_
                                        refine vp_callSi (W.runV (As := []) (rest := [.int 9]) ⟨hx, hb, hml, hown, ht⟩ (c_J0_length_8abf5_2 l dC dI ak av) (kV 0 ht m_705 m_706 m_707 m_91 m_708 rfl rfl hd_J0_length_8abf5_v ⟨Nat.le_of_ble_eq_true rfl, Nat.le_of_ble_eq_true rfl⟩) (vRZ noP (hK.sub (tys' := []) [] rfl) ((hZ.kept hS.2.1).narrow (fun _ h => h.elim)) (vk_recv hZ.1.2.2.2.2.2 (i := 2) (by decide) hS)) rfl rfl hl.1 rfl (lv_room (Nat.le_of_ble_eq_true rfl)) dX8_readOneOf_25 ⟨Nat.le_of_ble_eq_true rfl, Nat.le_of_ble_eq_true rfl⟩) (fun r43 hr43 => ?_)
                                        obtain rfl : 18 = r43 := hr43.symm
                                        refine lv_icmp_ge (tgt := 77) hx hb dX8_readOneOf_28 (by decide) (fun c44 => ?_) (fun c44 => ?_)
                                        · exact absurd c44 (by decide)
                                        · skip
                                          refine lv_aload_n hx hb dX8_readOneOf_31 rfl (lv_at hl 5 rfl) ?_
                                          refine lv_iload hx hb dX8_readOneOf_32 (lv_at hl 0 rfl) ?_
                                          refine vp_callSi (W.runV (As := [.int 9]) (rest := []) ⟨hx, hb, hml, hown, ht⟩ (c_J0_charAt_5068e_2 l dC dI ak av 9 ⟨by decide, by decide⟩) (kV 1 ht m_715 m_716 m_717 m_91 m_718 rfl rfl hd_J0_charAt_5068e_v ⟨Nat.le_of_ble_eq_true rfl, Nat.le_of_ble_eq_true rfl⟩) (vRZ noP (hK.sub (tys' := []) [] rfl) ((hZ.kept hS.2.1).narrow (fun _ h => h.elim)) (vk_recv hZ.1.2.2.2.2.2 (i := 2) (by decide) hS)) rfl rfl hl.1 rfl (lv_room (Nat.le_of_ble_eq_true rfl)) dX8_readOneOf_34 ⟨Nat.le_of_ble_eq_true rfl, Nat.le_of_ble_eq_true rfl⟩) (fun r45 hr45 => ?_)
                                          obtain rfl : 116 = r45 := (hr45.trans (by decide)).symm
                                          refine lv_bipush (v := 32) hx hb dX8_readOneOf_37 (by decide) ?_
                                          refine lv_icmp_ne (tgt := 71) hx hb dX8_readOneOf_39 (by decide) (fun c46 => ?_) (fun c46 => ?_)
                                          · skip
                                            refine lv_iinc (v := 10) (lv' := [(5, .int 10), (4, .int 5), (3, .int 1), (2, .int r3), (0, .ref (g 11 4)), (1, .ref (ak 2))]) hx hb dX8_readOneOf_71 hl (k := 0) rfl (by decide) (by decide) rfl (fun ls hl => ?_)
                                            refine lv_goto (tgt := 22) hx hb dX8_readOneOf_74 (by decide) ?_
                                            refine lv_iload hx hb dX8_readOneOf_22 (lv_at hl 0 rfl) ?_
                                            refine lv_aload_n hx hb dX8_readOneOf_24 rfl (lv_at hl 5 rfl) ?_
                                            refine vp_callSi (W.runV (As := []) (rest := [.int 10]) ⟨hx, hb, hml, hown, ht⟩ (c_J0_length_8abf5_2 l dC dI ak av) (kV 0 ht m_705 m_706 m_707 m_91 m_708 rfl rfl hd_J0_length_8abf5_v ⟨Nat.le_of_ble_eq_true rfl, Nat.le_of_ble_eq_true rfl⟩) (vRZ noP (hK.sub (tys' := []) [] rfl) ((hZ.kept hS.2.1).narrow (fun _ h => h.elim)) (vk_recv hZ.1.2.2.2.2.2 (i := 2) (by decide) hS)) rfl rfl hl.1 rfl (lv_room (Nat.le_of_ble_eq_true rfl)) dX8_readOneOf_25 ⟨Nat.le_of_ble_eq_true rfl, Nat.le_of_ble_eq_true rfl⟩) (fun r47 hr47 => ?_)
                                            obtain rfl : 18 = r47 := hr47.symm
                                            refine lv_icmp_ge (tgt := 77) hx hb dX8_readOneOf_28 (by decide) (fun c48 => ?_) (fun c48 => ?_)
                                            · exact absurd c48 (by decide)
                                            · skip
                                              refine lv_aload_n hx hb dX8_readOneOf_31 rfl (lv_at hl 5 rfl) ?_
                                              refine lv_iload hx hb dX8_readOneOf_32 (lv_at hl 0 rfl) ?_
                                              refine vp_callSi (W.runV (As := [.int 10]) (rest := []) ⟨hx, hb, hml, hown, ht⟩ (c_J0_charAt_5068e_2 l dC dI ak av 10 ⟨by decide, by decide⟩) (kV 1 ht m_715 m_716 m_717 m_91 m_718 rfl rfl hd_J0_charAt_5068e_v ⟨Nat.le_of_ble_eq_true rfl, Nat.le_of_ble_eq_true rfl⟩) (vRZ noP (hK.sub (tys' := []) [] rfl) ((hZ.kept hS.2.1).narrow (fun _ h => h.elim)) (vk_recv hZ.1.2.2.2.2.2 (i := 2) (by decide) hS)) rfl rfl hl.1 rfl (lv_room (Nat.le_of_ble_eq_true rfl)) dX8_readOneOf_34 ⟨Nat.le_of_ble_eq_true rfl, Nat.le_of_ble_eq_true rfl⟩) (fun r49 hr49 => ?_)
                                              obtain rfl : 32 = r49 := (hr49.trans (by decide)).symm
                                              refine lv_bipush (v := 32) hx hb dX8_readOneOf_37 (by decide) ?_
                                              refine lv_icmp_ne (tgt := 71) hx hb dX8_readOneOf_39 (by decide) (fun c50 => ?_) (fun c50 => ?_)
                                              · exact absurd rfl c50
                                              · skip
                                                refine lv_aload_n hx hb dX8_readOneOf_42 rfl (lv_at hl 4 rfl) ?_
                                                refine lv_aload_n hx hb dX8_readOneOf_43 rfl (lv_at hl 5 rfl) ?_
                                                refine lv_iload hx hb dX8_readOneOf_44 (lv_at hl 1 rfl) ?_
                                                refine lv_iload hx hb dX8_readOneOf_46 (lv_at hl 0 rfl) ?_
                                                refine lv_iload_n hx hb dX8_readOneOf_48 rfl (lv_at hl 3 rfl) ?_
                                                refine vp_callSi (W.runV (As := [.ref (ak 2), .int 5, .int 10, .int r3]) (rest := []) ⟨hx, hb, hml, hown, ht⟩ (c_X8_isSame_2 l dC dI ak av h g ca (u2 iv 8 5 n2) lv fa la (IX_i (c := 8) (k := 5) hI (show inb (0, 200) n2 from ⟨by omega, by omega⟩)) 5 10 r3 ⟨by decide, by decide⟩ ⟨by decide, by decide⟩ ⟨by omega, by omega⟩) (kV 4 ht m_753 m_755 m_20 m_82 m_756 rfl rfl hd_X8_isSame_v ⟨Nat.le_of_ble_eq_true rfl, Nat.le_of_ble_eq_true rfl⟩) (vRZ hP hK ((hZ.kept hS.2.1).narrow (fun _ h => h.elim)) (rX_8 hK hP)) rfl rfl hl.1 rfl (lv_room (Nat.le_of_ble_eq_true rfl)) dX8_readOneOf_49 ⟨Nat.le_of_ble_eq_true rfl, Nat.le_of_ble_eq_true rfl⟩) (fun r51 hr51 => ?_)
                                                refine lv_if_eq (tgt := 62) hx hb dX8_readOneOf_52 (by decide) (fun c52 => ?_) (fun c52 => ?_)
                                                · have fc52 := z_eq (rfl : (r51).toInt = _) (by decide : (0 : Int32).toInt = 0) c52
                                                  refine lv_iinc (v := 2) (lv' := [(3, .int 2), (5, .int 10), (4, .int 5), (2, .int r3), (0, .ref (g 11 4)), (1, .ref (ak 2))]) hx hb dX8_readOneOf_62 hl (k := 2) rfl (by decide) (by decide) rfl (fun ls hl => ?_)
                                                  refine lv_iload hx hb dX8_readOneOf_65 (lv_at hl 1 rfl) ?_
                                                  refine lv_iconst (v := 1) hx hb dX8_readOneOf_67 (by decide) ?_
                                                  refine lv_iadd hx hb dX8_readOneOf_68 ?_
                                                  refine lv_topi (fun v53 ev53 => ?_)
                                                  obtain rfl : 11 = v53 := (ev53.trans (by decide)).symm
                                                  refine lv_istore (lv' := [(4, .int 11), (3, .int 2), (5, .int 10), (2, .int r3), (0, .ref (g 11 4)), (1, .ref (ak 2))]) hx hb dX8_readOneOf_69 hl (by decide) rfl (fun ls hl => ?_)
                                                  refine lv_iinc (v := 11) (lv' := [(5, .int 11), (4, .int 11), (3, .int 2), (2, .int r3), (0, .ref (g 11 4)), (1, .ref (ak 2))]) hx hb dX8_readOneOf_71 hl (k := 2) rfl (by decide) (by decide) rfl (fun ls hl => ?_)
                                                  refine lv_goto (tgt := 22) hx hb dX8_readOneOf_74 (by decide) ?_
                                                  refine lv_iload hx hb dX8_readOneOf_22 (lv_at hl 0 rfl) ?_
                                                  refine lv_aload_n hx hb dX8_readOneOf_24 rfl (lv_at hl 5 rfl) ?_
                                                  refine vp_callSi (W.runV (As := []) (rest := [.int 11]) ⟨hx, hb, hml, hown, ht⟩ (c_J0_length_8abf5_2 l dC dI ak av) (kV 0 ht m_705 m_706 m_707 m_91 m_708 rfl rfl hd_J0_length_8abf5_v ⟨Nat.le_of_ble_eq_true rfl, Nat.le_of_ble_eq_true rfl⟩) (vRZ noP (hK.sub (tys' := []) [] rfl) ((hZ.kept hS.2.1).narrow (fun _ h => h.elim)) (vk_recv hZ.1.2.2.2.2.2 (i := 2) (by decide) hS)) rfl rfl hl.1 rfl (lv_room (Nat.le_of_ble_eq_true rfl)) dX8_readOneOf_25 ⟨Nat.le_of_ble_eq_true rfl, Nat.le_of_ble_eq_true rfl⟩) (fun r54 hr54 => ?_)
                                                  obtain rfl : 18 = r54 := hr54.symm
                                                  refine lv_icmp_ge (tgt := 77) hx hb dX8_readOneOf_28 (by decide) (fun c55 => ?_) (fun c55 => ?_)
                                                  · exact absurd c55 (by decide)
                                                  · skip
                                                    refine lv_aload_n hx hb dX8_readOneOf_31 rfl (lv_at hl 5 rfl) ?_
                                                    refine lv_iload hx hb dX8_readOneOf_32 (lv_at hl 0 rfl) ?_
                                                    refine vp_callSi (W.runV (As := [.int 11]) (rest := []) ⟨hx, hb, hml, hown, ht⟩ (c_J0_charAt_5068e_2 l dC dI ak av 11 ⟨by decide, by decide⟩) (kV 1 ht m_715 m_716 m_717 m_91 m_718 rfl rfl hd_J0_charAt_5068e_v ⟨Nat.le_of_ble_eq_true rfl, Nat.le_of_ble_eq_true rfl⟩) (vRZ noP (hK.sub (tys' := []) [] rfl) ((hZ.kept hS.2.1).narrow (fun _ h => h.elim)) (vk_recv hZ.1.2.2.2.2.2 (i := 2) (by decide) hS)) rfl rfl hl.1 rfl (lv_room (Nat.le_of_ble_eq_true rfl)) dX8_readOneOf_34 ⟨Nat.le_of_ble_eq_true rfl, Nat.le_of_ble_eq_true rfl⟩) (fun r56 hr56 => ?_)
                                                    obtain rfl : 109 = r56 := (hr56.trans (by decide)).symm
                                                    refine lv_bipush (v := 32) hx hb dX8_readOneOf_37 (by decide) ?_
                                                    refine lv_icmp_ne (tgt := 71) hx hb dX8_readOneOf_39 (by decide) (fun c57 => ?_) (fun c57 => ?_)
                                                    · skip
                                                      refine lv_iinc (v := 12) (lv' := [(5, .int 12), (4, .int 11), (3, .int 2), (2, .int r3), (0, .ref (g 11 4)), (1, .ref (ak 2))]) hx hb dX8_readOneOf_71 hl (k := 0) rfl (by decide) (by decide) rfl (fun ls hl => ?_)
                                                      refine lv_goto (tgt := 22) hx hb dX8_readOneOf_74 (by decide) ?_
                                                      refine lv_iload hx hb dX8_readOneOf_22 (lv_at hl 0 rfl) ?_
                                                      refine lv_aload_n hx hb dX8_readOneOf_24 rfl (lv_at hl 5 rfl) ?_
                                                      refine vp_callSi (W.runV (As := []) (rest := [.int 12]) ⟨hx, hb, hml, hown, ht⟩ (c_J0_length_8abf5_2 l dC dI ak av) (kV 0 ht m_705 m_706 m_707 m_91 m_708 rfl rfl hd_J0_length_8abf5_v ⟨Nat.le_of_ble_eq_true rfl, Nat.le_of_ble_eq_true rfl⟩) (vRZ noP (hK.sub (tys' := []) [] rfl) ((hZ.kept hS.2.1).narrow (fun _ h => h.elim)) (vk_recv hZ.1.2.2.2.2.2 (i := 2) (by decide) hS)) rfl rfl hl.1 rfl (lv_room (Nat.le_of_ble_eq_true rfl)) dX8_readOneOf_25 ⟨Nat.le_of_ble_eq_true rfl, Nat.le_of_ble_eq_true rfl⟩) (fun r58 hr58 => ?_)
                                                      obtain rfl : 18 = r58 := hr58.symm
                                                      refine lv_icmp_ge (tgt := 77) hx hb dX8_readOneOf_28 (by decide) (fun c59 => ?_) (fun c59 => ?_)
                                                      · exact absurd c59 (by decide)
                                                      · skip
                                                        refine lv_aload_n hx hb dX8_readOneOf_31 rfl (lv_at hl 5 rfl) ?_
                                                        refine lv_iload hx hb dX8_readOneOf_32 (lv_at hl 0 rfl) ?_
                                                        refine vp_callSi (W.runV (As := [.int 12]) (rest := []) ⟨hx, hb, hml, hown, ht⟩ (c_J0_charAt_5068e_2 l dC dI ak av 12 ⟨by decide, by decide⟩) (kV 1 ht m_715 m_716 m_717 m_91 m_718 rfl rfl hd_J0_charAt_5068e_v ⟨Nat.le_of_ble_eq_true rfl, Nat.le_of_ble_eq_true rfl⟩) (vRZ noP (hK.sub (tys' := []) [] rfl) ((hZ.kept hS.2.1).narrow (fun _ h => h.elim)) (vk_recv hZ.1.2.2.2.2.2 (i := 2) (by decide) hS)) rfl rfl hl.1 rfl (lv_room (Nat.le_of_ble_eq_true rfl)) dX8_readOneOf_34 ⟨Nat.le_of_ble_eq_true rfl, Nat.le_of_ble_eq_true rfl⟩) (fun r60 hr60 => ?_)
                                                        obtain rfl : 105 = r60 := (hr60.trans (by decide)).symm
                                                        refine lv_bipush (v := 32) hx hb dX8_readOneOf_37 (by decide) ?_
                                                        refine lv_icmp_ne (tgt := 71) hx hb dX8_readOneOf_39 (by decide) (fun c61 => ?_) (fun c61 => ?_)
                                                        · skip
                                                          refine lv_iinc (v := 13) (lv' := [(5, .int 13), (4, .int 11), (3, .int 2), (2, .int r3), (0, .ref (g 11 4)), (1, .ref (ak 2))]) hx hb dX8_readOneOf_71 hl (k := 0) rfl (by decide) (by decide) rfl (fun ls hl => ?_)
                                                          refine lv_goto (tgt := 22) hx hb dX8_readOneOf_74 (by decide) ?_
                                                          refine lv_iload hx hb dX8_readOneOf_22 (lv_at hl 0 rfl) ?_
                                                          refine lv_aload_n hx hb dX8_readOneOf_24 rfl (lv_at hl 5 rfl) ?_
                                                          refine vp_callSi (W.runV (As := []) (rest := [.int 13]) ⟨hx, hb, hml, hown, ht⟩ (c_J0_length_8abf5_2 l dC dI ak av) (kV 0 ht m_705 m_706 m_707 m_91 m_708 rfl rfl hd_J0_length_8abf5_v ⟨Nat.le_of_ble_eq_true rfl, Nat.le_of_ble_eq_true rfl⟩) (vRZ noP (hK.sub (tys' := []) [] rfl) ((hZ.kept hS.2.1).narrow (fun _ h => h.elim)) (vk_recv hZ.1.2.2.2.2.2 (i := 2) (by decide) hS)) rfl rfl hl.1 rfl (lv_room (Nat.le_of_ble_eq_true rfl)) dX8_readOneOf_25 ⟨Nat.le_of_ble_eq_true rfl, Nat.le_of_ble_eq_true rfl⟩) (fun r62 hr62 => ?_)
                                                          obtain rfl : 18 = r62 := hr62.symm
                                                          refine lv_icmp_ge (tgt := 77) hx hb dX8_readOneOf_28 (by decide) (fun c63 => ?_) (fun c63 => ?_)
                                                          · exact absurd c63 (by decide)
                                                          · skip
                                                            refine lv_aload_n hx hb dX8_readOneOf_31 rfl (lv_at hl 5 rfl) ?_
                                                            refine lv_iload hx hb dX8_readOneOf_32 (lv_at hl 0 rfl) ?_
                                                            refine vp_callSi (W.runV (As := [.int 13]) (rest := []) ⟨hx, hb, hml, hown, ht⟩ (c_J0_charAt_5068e_2 l dC dI ak av 13 ⟨by decide, by decide⟩) (kV 1 ht m_715 m_716 m_717 m_91 m_718 rfl rfl hd_J0_charAt_5068e_v ⟨Nat.le_of_ble_eq_true rfl, Nat.le_of_ble_eq_true rfl⟩) (vRZ noP (hK.sub (tys' := []) [] rfl) ((hZ.kept hS.2.1).narrow (fun _ h => h.elim)) (vk_recv hZ.1.2.2.2.2.2 (i := 2) (by decide) hS)) rfl rfl hl.1 rfl (lv_room (Nat.le_of_ble_eq_true rfl)) dX8_readOneOf_34 ⟨Nat.le_of_ble_eq_true rfl, Nat.le_of_ble_eq_true rfl⟩) (fun r64 hr64 => ?_)
                                                            obtain rfl : 100 = r64 := (hr64.trans (by decide)).symm
                                                            refine lv_bipush (v := 32) hx hb dX8_readOneOf_37 (by decide) ?_
                                                            refine lv_icmp_ne (tgt := 71) hx hb dX8_readOneOf_39 (by decide) (fun c65 => ?_) (fun c65 => ?_)
                                                            · skip
                                                              refine lv_iinc (v := 14) (lv' := [(5, .int 14), (4, .int 11), (3, .int 2), (2, .int r3), (0, .ref (g 11 4)), (1, .ref (ak 2))]) hx hb dX8_readOneOf_71 hl (k := 0) rfl (by decide) (by decide) rfl (fun ls hl => ?_)
                                                              refine lv_goto (tgt := 22) hx hb dX8_readOneOf_74 (by decide) ?_
                                                              refine lv_iload hx hb dX8_readOneOf_22 (lv_at hl 0 rfl) ?_
                                                              refine lv_aload_n hx hb dX8_readOneOf_24 rfl (lv_at hl 5 rfl) ?_
                                                              refine vp_callSi (W.runV (As := []) (rest := [.int 14]) ⟨hx, hb, hml, hown, ht⟩ (c_J0_length_8abf5_2 l dC dI ak av) (kV 0 ht m_705 m_706 m_707 m_91 m_708 rfl rfl hd_J0_length_8abf5_v ⟨Nat.le_of_ble_eq_true rfl, Nat.le_of_ble_eq_true rfl⟩) (vRZ noP (hK.sub (tys' := []) [] rfl) ((hZ.kept hS.2.1).narrow (fun _ h => h.elim)) (vk_recv hZ.1.2.2.2.2.2 (i := 2) (by decide) hS)) rfl rfl hl.1 rfl (lv_room (Nat.le_of_ble_eq_true rfl)) dX8_readOneOf_25 ⟨Nat.le_of_ble_eq_true rfl, Nat.le_of_ble_eq_true rfl⟩) (fun r66 hr66 => ?_)
                                                              obtain rfl : 18 = r66 := hr66.symm
                                                              refine lv_icmp_ge (tgt := 77) hx hb dX8_readOneOf_28 (by decide) (fun c67 => ?_) (fun c67 => ?_)
                                                              · exact absurd c67 (by decide)
                                                              · skip
                                                                refine lv_aload_n hx hb dX8_readOneOf_31 rfl (lv_at hl 5 rfl) ?_
                                                                refine lv_iload hx hb dX8_readOneOf_32 (lv_at hl 0 rfl) ?_
                                                                refine vp_callSi (W.runV (As := [.int 14]) (rest := []) ⟨hx, hb, hml, hown, ht⟩ (c_J0_charAt_5068e_2 l dC dI ak av 14 ⟨by decide, by decide⟩) (kV 1 ht m_715 m_716 m_717 m_91 m_718 rfl rfl hd_J0_charAt_5068e_v ⟨Nat.le_of_ble_eq_true rfl, Nat.le_of_ble_eq_true rfl⟩) (vRZ noP (hK.sub (tys' := []) [] rfl) ((hZ.kept hS.2.1).narrow (fun _ h => h.elim)) (vk_recv hZ.1.2.2.2.2.2 (i := 2) (by decide) hS)) rfl rfl hl.1 rfl (lv_room (Nat.le_of_ble_eq_true rfl)) dX8_readOneOf_34 ⟨Nat.le_of_ble_eq_true rfl, Nat.le_of_ble_eq_true rfl⟩) (fun r68 hr68 => ?_)
                                                                obtain rfl : 100 = r68 := (hr68.trans (by decide)).symm
                                                                refine lv_bipush (v := 32) hx hb dX8_readOneOf_37 (by decide) ?_
                                                                refine lv_icmp_ne (tgt := 71) hx hb dX8_readOneOf_39 (by decide) (fun c69 => ?_) (fun c69 => ?_)
                                                                · skip
                                                                  refine lv_iinc (v := 15) (lv' := [(5, .int 15), (4, .int 11), (3, .int 2), (2, .int r3), (0, .ref (g 11 4)), (1, .ref (ak 2))]) hx hb dX8_readOneOf_71 hl (k := 0) rfl (by decide) (by decide) rfl (fun ls hl => ?_)
                                                                  refine lv_goto (tgt := 22) hx hb dX8_readOneOf_74 (by decide) ?_
                                                                  refine lv_iload hx hb dX8_readOneOf_22 (lv_at hl 0 rfl) ?_
                                                                  refine lv_aload_n hx hb dX8_readOneOf_24 rfl (lv_at hl 5 rfl) ?_
                                                                  refine vp_callSi (W.runV (As := []) (rest := [.int 15]) ⟨hx, hb, hml, hown, ht⟩ (c_J0_length_8abf5_2 l dC dI ak av) (kV 0 ht m_705 m_706 m_707 m_91 m_708 rfl rfl hd_J0_length_8abf5_v ⟨Nat.le_of_ble_eq_true rfl, Nat.le_of_ble_eq_true rfl⟩) (vRZ noP (hK.sub (tys' := []) [] rfl) ((hZ.kept hS.2.1).narrow (fun _ h => h.elim)) (vk_recv hZ.1.2.2.2.2.2 (i := 2) (by decide) hS)) rfl rfl hl.1 rfl (lv_room (Nat.le_of_ble_eq_true rfl)) dX8_readOneOf_25 ⟨Nat.le_of_ble_eq_true rfl, Nat.le_of_ble_eq_true rfl⟩) (fun r70 hr70 => ?_)
                                                                  obtain rfl : 18 = r70 := hr70.symm
                                                                  refine lv_icmp_ge (tgt := 77) hx hb dX8_readOneOf_28 (by decide) (fun c71 => ?_) (fun c71 => ?_)
                                                                  · exact absurd c71 (by decide)
                                                                  · skip
                                                                    refine lv_aload_n hx hb dX8_readOneOf_31 rfl (lv_at hl 5 rfl) ?_
                                                                    refine lv_iload hx hb dX8_readOneOf_32 (lv_at hl 0 rfl) ?_
                                                                    refine vp_callSi (W.runV (As := [.int 15]) (rest := []) ⟨hx, hb, hml, hown, ht⟩ (c_J0_charAt_5068e_2 l dC dI ak av 15 ⟨by decide, by decide⟩) (kV 1 ht m_715 m_716 m_717 m_91 m_718 rfl rfl hd_J0_charAt_5068e_v ⟨Nat.le_of_ble_eq_true rfl, Nat.le_of_ble_eq_true rfl⟩) (vRZ noP (hK.sub (tys' := []) [] rfl) ((hZ.kept hS.2.1).narrow (fun _ h => h.elim)) (vk_recv hZ.1.2.2.2.2.2 (i := 2) (by decide) hS)) rfl rfl hl.1 rfl (lv_room (Nat.le_of_ble_eq_true rfl)) dX8_readOneOf_34 ⟨Nat.le_of_ble_eq_true rfl, Nat.le_of_ble_eq_true rfl⟩) (fun r72 hr72 => ?_)
                                                                    obtain rfl : 108 = r72 := (hr72.trans (by decide)).symm
                                                                    refine lv_bipush (v := 32) hx hb dX8_readOneOf_37 (by decide) ?_
                                                                    refine lv_icmp_ne (tgt := 71) hx hb dX8_readOneOf_39 (by decide) (fun c73 => ?_) (fun c73 => ?_)
                                                                    · skip
                                                                      refine lv_iinc (v := 16) (lv' := [(5, .int 16), (4, .int 11), (3, .int 2), (2, .int r3), (0, .ref (g 11 4)), (1, .ref (ak 2))]) hx hb dX8_readOneOf_71 hl (k := 0) rfl (by decide) (by decide) rfl (fun ls hl => ?_)
                                                                      refine lv_goto (tgt := 22) hx hb dX8_readOneOf_74 (by decide) ?_
                                                                      refine lv_iload hx hb dX8_readOneOf_22 (lv_at hl 0 rfl) ?_
                                                                      refine lv_aload_n hx hb dX8_readOneOf_24 rfl (lv_at hl 5 rfl) ?_
                                                                      refine vp_callSi (W.runV (As := []) (rest := [.int 16]) ⟨hx, hb, hml, hown, ht⟩ (c_J0_length_8abf5_2 l dC dI ak av) (kV 0 ht m_705 m_706 m_707 m_91 m_708 rfl rfl hd_J0_length_8abf5_v ⟨Nat.le_of_ble_eq_true rfl, Nat.le_of_ble_eq_true rfl⟩) (vRZ noP (hK.sub (tys' := []) [] rfl) ((hZ.kept hS.2.1).narrow (fun _ h => h.elim)) (vk_recv hZ.1.2.2.2.2.2 (i := 2) (by decide) hS)) rfl rfl hl.1 rfl (lv_room (Nat.le_of_ble_eq_true rfl)) dX8_readOneOf_25 ⟨Nat.le_of_ble_eq_true rfl, Nat.le_of_ble_eq_true rfl⟩) (fun r74 hr74 => ?_)
                                                                      obtain rfl : 18 = r74 := hr74.symm
                                                                      refine lv_icmp_ge (tgt := 77) hx hb dX8_readOneOf_28 (by decide) (fun c75 => ?_) (fun c75 => ?_)
                                                                      · exact absurd c75 (by decide)
                                                                      · skip
                                                                        refine lv_aload_n hx hb dX8_readOneOf_31 rfl (lv_at hl 5 rfl) ?_
                                                                        refine lv_iload hx hb dX8_readOneOf_32 (lv_at hl 0 rfl) ?_
                                                                        refine vp_callSi (W.runV (As := [.int 16]) (rest := []) ⟨hx, hb, hml, hown, ht⟩ (c_J0_charAt_5068e_2 l dC dI ak av 16 ⟨by decide, by decide⟩) (kV 1 ht m_715 m_716 m_717 m_91 m_718 rfl rfl hd_J0_charAt_5068e_v ⟨Nat.le_of_ble_eq_true rfl, Nat.le_of_ble_eq_true rfl⟩) (vRZ noP (hK.sub (tys' := []) [] rfl) ((hZ.kept hS.2.1).narrow (fun _ h => h.elim)) (vk_recv hZ.1.2.2.2.2.2 (i := 2) (by decide) hS)) rfl rfl hl.1 rfl (lv_room (Nat.le_of_ble_eq_true rfl)) dX8_readOneOf_34 ⟨Nat.le_of_ble_eq_true rfl, Nat.le_of_ble_eq_true rfl⟩) (fun r76 hr76 => ?_)
                                                                        obtain rfl : 101 = r76 := (hr76.trans (by decide)).symm
                                                                        refine lv_bipush (v := 32) hx hb dX8_readOneOf_37 (by decide) ?_
                                                                        refine lv_icmp_ne (tgt := 71) hx hb dX8_readOneOf_39 (by decide) (fun c77 => ?_) (fun c77 => ?_)
                                                                        · skip
                                                                          refine lv_iinc (v := 17) (lv' := [(5, .int 17), (4, .int 11), (3, .int 2), (2, .int r3), (0, .ref (g 11 4)), (1, .ref (ak 2))]) hx hb dX8_readOneOf_71 hl (k := 0) rfl (by decide) (by decide) rfl (fun ls hl => ?_)
                                                                          refine lv_goto (tgt := 22) hx hb dX8_readOneOf_74 (by decide) ?_
                                                                          refine lv_iload hx hb dX8_readOneOf_22 (lv_at hl 0 rfl) ?_
                                                                          refine lv_aload_n hx hb dX8_readOneOf_24 rfl (lv_at hl 5 rfl) ?_
                                                                          refine vp_callSi (W.runV (As := []) (rest := [.int 17]) ⟨hx, hb, hml, hown, ht⟩ (c_J0_length_8abf5_2 l dC dI ak av) (kV 0 ht m_705 m_706 m_707 m_91 m_708 rfl rfl hd_J0_length_8abf5_v ⟨Nat.le_of_ble_eq_true rfl, Nat.le_of_ble_eq_true rfl⟩) (vRZ noP (hK.sub (tys' := []) [] rfl) ((hZ.kept hS.2.1).narrow (fun _ h => h.elim)) (vk_recv hZ.1.2.2.2.2.2 (i := 2) (by decide) hS)) rfl rfl hl.1 rfl (lv_room (Nat.le_of_ble_eq_true rfl)) dX8_readOneOf_25 ⟨Nat.le_of_ble_eq_true rfl, Nat.le_of_ble_eq_true rfl⟩) (fun r78 hr78 => ?_)
                                                                          obtain rfl : 18 = r78 := hr78.symm
                                                                          refine lv_icmp_ge (tgt := 77) hx hb dX8_readOneOf_28 (by decide) (fun c79 => ?_) (fun c79 => ?_)
                                                                          · exact absurd c79 (by decide)
                                                                          · skip
                                                                            refine lv_aload_n hx hb dX8_readOneOf_31 rfl (lv_at hl 5 rfl) ?_
                                                                            refine lv_iload hx hb dX8_readOneOf_32 (lv_at hl 0 rfl) ?_
                                                                            refine vp_callSi (W.runV (As := [.int 17]) (rest := []) ⟨hx, hb, hml, hown, ht⟩ (c_J0_charAt_5068e_2 l dC dI ak av 17 ⟨by decide, by decide⟩) (kV 1 ht m_715 m_716 m_717 m_91 m_718 rfl rfl hd_J0_charAt_5068e_v ⟨Nat.le_of_ble_eq_true rfl, Nat.le_of_ble_eq_true rfl⟩) (vRZ noP (hK.sub (tys' := []) [] rfl) ((hZ.kept hS.2.1).narrow (fun _ h => h.elim)) (vk_recv hZ.1.2.2.2.2.2 (i := 2) (by decide) hS)) rfl rfl hl.1 rfl (lv_room (Nat.le_of_ble_eq_true rfl)) dX8_readOneOf_34 ⟨Nat.le_of_ble_eq_true rfl, Nat.le_of_ble_eq_true rfl⟩) (fun r80 hr80 => ?_)
                                                                            obtain rfl : 32 = r80 := (hr80.trans (by decide)).symm
                                                                            refine lv_bipush (v := 32) hx hb dX8_readOneOf_37 (by decide) ?_
                                                                            refine lv_icmp_ne (tgt := 71) hx hb dX8_readOneOf_39 (by decide) (fun c81 => ?_) (fun c81 => ?_)
                                                                            · exact absurd rfl c81
                                                                            · skip
                                                                              refine lv_aload_n hx hb dX8_readOneOf_42 rfl (lv_at hl 4 rfl) ?_
                                                                              refine lv_aload_n hx hb dX8_readOneOf_43 rfl (lv_at hl 5 rfl) ?_
                                                                              refine lv_iload hx hb dX8_readOneOf_44 (lv_at hl 1 rfl) ?_
                                                                              refine lv_iload hx hb dX8_readOneOf_46 (lv_at hl 0 rfl) ?_
                                                                              refine lv_iload_n hx hb dX8_readOneOf_48 rfl (lv_at hl 3 rfl) ?_
                                                                              refine vp_callSi (W.runV (As := [.ref (ak 2), .int 11, .int 17, .int r3]) (rest := []) ⟨hx, hb, hml, hown, ht⟩ (c_X8_isSame_2 l dC dI ak av h g ca (u2 iv 8 5 n2) lv fa la (IX_i (c := 8) (k := 5) hI (show inb (0, 200) n2 from ⟨by omega, by omega⟩)) 11 17 r3 ⟨by decide, by decide⟩ ⟨by decide, by decide⟩ ⟨by omega, by omega⟩) (kV 4 ht m_753 m_755 m_20 m_82 m_756 rfl rfl hd_X8_isSame_v ⟨Nat.le_of_ble_eq_true rfl, Nat.le_of_ble_eq_true rfl⟩) (vRZ hP hK ((hZ.kept hS.2.1).narrow (fun _ h => h.elim)) (rX_8 hK hP)) rfl rfl hl.1 rfl (lv_room (Nat.le_of_ble_eq_true rfl)) dX8_readOneOf_49 ⟨Nat.le_of_ble_eq_true rfl, Nat.le_of_ble_eq_true rfl⟩) (fun r82 hr82 => ?_)
                                                                              refine lv_if_eq (tgt := 62) hx hb dX8_readOneOf_52 (by decide) (fun c83 => ?_) (fun c83 => ?_)
                                                                              · have fc83 := z_eq (rfl : (r82).toInt = _) (by decide : (0 : Int32).toInt = 0) c83
                                                                                refine lv_iinc (v := 3) (lv' := [(3, .int 3), (5, .int 17), (4, .int 11), (2, .int r3), (0, .ref (g 11 4)), (1, .ref (ak 2))]) hx hb dX8_readOneOf_62 hl (k := 2) rfl (by decide) (by decide) rfl (fun ls hl => ?_)
                                                                                refine lv_iload hx hb dX8_readOneOf_65 (lv_at hl 1 rfl) ?_
                                                                                refine lv_iconst (v := 1) hx hb dX8_readOneOf_67 (by decide) ?_
                                                                                refine lv_iadd hx hb dX8_readOneOf_68 ?_
                                                                                refine lv_topi (fun v84 ev84 => ?_)
                                                                                obtain rfl : 18 = v84 := (ev84.trans (by decide)).symm
                                                                                refine lv_istore (lv' := [(4, .int 18), (3, .int 3), (5, .int 17), (2, .int r3), (0, .ref (g 11 4)), (1, .ref (ak 2))]) hx hb dX8_readOneOf_69 hl (by decide) rfl (fun ls hl => ?_)
                                                                                refine lv_iinc (v := 18) (lv' := [(5, .int 18), (4, .int 18), (3, .int 3), (2, .int r3), (0, .ref (g 11 4)), (1, .ref (ak 2))]) hx hb dX8_readOneOf_71 hl (k := 2) rfl (by decide) (by decide) rfl (fun ls hl => ?_)
                                                                                refine lv_goto (tgt := 22) hx hb dX8_readOneOf_74 (by decide) ?_
                                                                                refine lv_iload hx hb dX8_readOneOf_22 (lv_at hl 0 rfl) ?_
                                                                                refine lv_aload_n hx hb dX8_readOneOf_24 rfl (lv_at hl 5 rfl) ?_
                                                                                refine vp_callSi (W.runV (As := []) (rest := [.int 18]) ⟨hx, hb, hml, hown, ht⟩ (c_J0_length_8abf5_2 l dC dI ak av) (kV 0 ht m_705 m_706 m_707 m_91 m_708 rfl rfl hd_J0_length_8abf5_v ⟨Nat.le_of_ble_eq_true rfl, Nat.le_of_ble_eq_true rfl⟩) (vRZ noP (hK.sub (tys' := []) [] rfl) ((hZ.kept hS.2.1).narrow (fun _ h => h.elim)) (vk_recv hZ.1.2.2.2.2.2 (i := 2) (by decide) hS)) rfl rfl hl.1 rfl (lv_room (Nat.le_of_ble_eq_true rfl)) dX8_readOneOf_25 ⟨Nat.le_of_ble_eq_true rfl, Nat.le_of_ble_eq_true rfl⟩) (fun r85 hr85 => ?_)
                                                                                obtain rfl : 18 = r85 := hr85.symm
                                                                                refine lv_icmp_ge (tgt := 77) hx hb dX8_readOneOf_28 (by decide) (fun c86 => ?_) (fun c86 => ?_)
                                                                                · skip
                                                                                  refine lv_aload_n hx hb dX8_readOneOf_77 rfl (lv_at hl 4 rfl) ?_
                                                                                  refine lv_iconst (v := 1) hx hb dX8_readOneOf_78 (by decide) ?_
                                                                                  refine lv_aload_n hx hb dX8_readOneOf_79 rfl (lv_at hl 4 rfl) ?_
                                                                                  refine gX_8_5 hx hb ht hown hK hP m_235 (v := n2) rfl dX8_readOneOf_80 ?_
                                                                                  have hFc := free_all hD hS hA
                                                                                  refine va_calli (va_runV (As := [.int 1, .int n2]) (rest := []) ⟨hx, hb, hml, hown, ht⟩ (c_X8_fail l dC dI H.size h g ca (u2 iv 8 5 n2) lv fa la (IX_i (c := 8) (k := 5) hI (show inb (0, 200) n2 from ⟨by omega, by omega⟩)) 1 n2 ⟨by decide, by decide⟩ ⟨by omega, by omega⟩) (kV 2 ht m_757 m_759 m_21 m_82 m_760 rfl rfl hd_X8_fail_v ⟨Nat.le_of_ble_eq_true rfl, Nat.le_of_ble_eq_true rfl⟩) (vW hP hK hD (rX_8 hK hP)) rfl rfl hl.1 rfl (lv_room (Nat.le_of_ble_eq_true rfl)) dX8_readOneOf_83 ⟨Nat.le_of_ble_eq_true rfl, Nat.le_of_ble_eq_true rfl⟩) hS (fun q _ h => hFc q h) hFc (fun r87 u t H1 locs ht9 hvm hr87 hB hz1 hk1 hS => ?_)
                                                                                  obtain ⟨n88, n89, hn88, hn89, hr87, rfl⟩ := hr87
                                                                                  have hn88 : (-1) ≤ n88.toInt ∧ n88.toInt ≤ 200 := hn88
                                                                                  have hn89 : 0 ≤ n89.toInt ∧ n89.toInt ≤ 5 := hn89
                                                                                  obtain ⟨hP, hD⟩ := hB
                                                                                  rw [ht9] at hP
                                                                                  generalize H1 = H at hP hS ⊢
                                                                                  have hP : va_P (dC, dI) classes (WX h g ca (u2 (u2 (u2 iv 8 5 n2) 8 3 n88) 8 4 n89) lv fa la) H := hP
                                                                                  have hD : va_D A (WX h g ca (u2 (u2 (u2 iv 8 5 n2) 8 3 n88) 8 4 n89) lv fa la) := (show va_D _ (WX h g ca (u2 (u2 (u2 iv 8 5 n2) 8 3 n88) 8 4 n89) lv fa la) from hD).weaken (fun _ _ _ h => hFc _ h)
                                                                                  refine lv_pop hx hb dX8_readOneOf_86 rfl ?_
                                                                                  refine lv_iconst (v := (-1)) hx hb dX8_readOneOf_87 (by decide) ?_
                                                                                  have hP9 : va_P (dC, dI) classes (WX h g ca (u2 (u2 (u2 iv 8 3 n88) 8 4 n89) 8 5 n2) lv fa la) H := hP
                                                                                  have hD9 : va_D A (WX h g ca (u2 (u2 (u2 iv 8 3 n88) 8 4 n89) 8 5 n2) lv fa la) := hD
                                                                                  exact W.iret (v := (-1)) hx hb hr (fun t ht9 hW => ⟨⟨(-1), ((u2 (u2 (u2 iv 8 3 n88) 8 4 n89) 8 5 n2), lv, fa, la), rfl, ⟨n88, n89, n2, (show inb ((-1), 200) n88 from ⟨by omega, by omega⟩), (show inb (0, 5) n89 from ⟨by omega, by omega⟩), (show inb (0, 200) n2 from ⟨by omega, by omega⟩), ⟨by decide, by decide⟩, rfl⟩, by rw [ht9]; exact hP9, hD9⟩, hS.F ht9⟩) hS.2.2 dX8_readOneOf_88
                                                                                · exact absurd c86 (by decide)
                                                                              · have fc83 := z_ne (rfl : (r82).toInt = _) (by decide : (0 : Int32).toInt = 0) c83
                                                                                refine lv_aload_n hx hb dX8_readOneOf_55 rfl (lv_at hl 4 rfl) ?_
                                                                                refine lv_iload_n hx hb dX8_readOneOf_56 rfl (lv_at hl 3 rfl) ?_
                                                                                refine pX_8_5 (v := r3) hx hb ht hown hK hP hD hS m_235 dX8_readOneOf_57 (fun H locs hP hD hS => ?_)
                                                                                have hP : va_P (dC, dI) classes (WX h g ca (u2 iv 8 5 r3) lv fa la) H := hP
                                                                                have hD : va_D A (WX h g ca (u2 iv 8 5 r3) lv fa la) := hD
                                                                                refine lv_iload_n hx hb dX8_readOneOf_60 rfl (lv_at hl 2 rfl) ?_
                                                                                have hP9 : va_P (dC, dI) classes (WX h g ca (u2 (u2 (u2 iv 8 3 (iv 8 3)) 8 4 (iv 8 4)) 8 5 r3) lv fa la) H := hP
                                                                                have hD9 : va_D A (WX h g ca (u2 (u2 (u2 iv 8 3 (iv 8 3)) 8 4 (iv 8 4)) 8 5 r3) lv fa la) := hD
                                                                                exact W.iret (v := 2) hx hb hr (fun t ht9 hW => ⟨⟨2, ((u2 (u2 (u2 iv 8 3 (iv 8 3)) 8 4 (iv 8 4)) 8 5 r3), lv, fa, la), rfl, ⟨(iv 8 3), (iv 8 4), r3, (hI.1 8 3), (hI.1 8 4), (show inb (0, 200) r3 from ⟨by omega, by omega⟩), ⟨by decide, by decide⟩, rfl⟩, by rw [ht9]; exact hP9, hD9⟩, hS.F ht9⟩) hS.2.2 dX8_readOneOf_61
                                                                        · exact absurd c77 (by decide)
                                                                    · exact absurd c73 (by decide)
                                                                · exact absurd c69 (by decide)
                                                            · exact absurd c65 (by decide)
                                                        · exact absurd c61 (by decide)
                                                    · exact absurd c57 (by decide)
                                                · have fc52 := z_ne (rfl : (r51).toInt = _) (by decide : (0 : Int32).toInt = 0) c52
                                                  refine lv_aload_n hx hb dX8_readOneOf_55 rfl (lv_at hl 4 rfl) ?_
                                                  refine lv_iload_n hx hb dX8_readOneOf_56 rfl (lv_at hl 3 rfl) ?_
                                                  refine pX_8_5 (v := r3) hx hb ht hown hK hP hD hS m_235 dX8_readOneOf_57 (fun H locs hP hD hS => ?_)
                                                  have hP : va_P (dC, dI) classes (WX h g ca (u2 iv 8 5 r3) lv fa la) H := hP
                                                  have hD : va_D A (WX h g ca (u2 iv 8 5 r3) lv fa la) := hD
                                                  refine lv_iload_n hx hb dX8_readOneOf_60 rfl (lv_at hl 2 rfl) ?_
                                                  have hP9 : va_P (dC, dI) classes (WX h g ca (u2 (u2 (u2 iv 8 3 (iv 8 3)) 8 4 (iv 8 4)) 8 5 r3) lv fa la) H := hP
                                                  have hD9 : va_D A (WX h g ca (u2 (u2 (u2 iv 8 3 (iv 8 3)) 8 4 (iv 8 4)) 8 5 r3) lv fa la) := hD
                                                  exact W.iret (v := 1) hx hb hr (fun t ht9 hW => ⟨⟨1, ((u2 (u2 (u2 iv 8 3 (iv 8 3)) 8 4 (iv 8 4)) 8 5 r3), lv, fa, la), rfl, ⟨(iv 8 3), (iv 8 4), r3, (hI.1 8 3), (hI.1 8 4), (show inb (0, 200) r3 from ⟨by omega, by omega⟩), ⟨by decide, by decide⟩, rfl⟩, by rw [ht9]; exact hP9, hD9⟩, hS.F ht9⟩) hS.2.2 dX8_readOneOf_61
                                          · exact absurd c46 (by decide)
                                      · exact absurd c42 (by decide)
                                  · exact absurd c38 (by decide)
                              · exact absurd c34 (by decide)
                          · exact absurd c30 (by decide)
                      · have fc25 := z_ne (rfl : (r24).toInt = _) (by decide : (0 : Int32).toInt = 0) c25
                        refine lv_aload_n hx hb dX8_readOneOf_55 rfl (lv_at hl 4 rfl) ?_
                        refine lv_iload_n hx hb dX8_readOneOf_56 rfl (lv_at hl 3 rfl) ?_
                        refine pX_8_5 (v := r3) hx hb ht hown hK hP hD hS m_235 dX8_readOneOf_57 (fun H locs hP hD hS => ?_)
                        have hP : va_P (dC, dI) classes (WX h g ca (u2 iv 8 5 r3) lv fa la) H := hP
                        have hD : va_D A (WX h g ca (u2 iv 8 5 r3) lv fa la) := hD
                        refine lv_iload_n hx hb dX8_readOneOf_60 rfl (lv_at hl 2 rfl) ?_
                        have hP9 : va_P (dC, dI) classes (WX h g ca (u2 (u2 (u2 iv 8 3 (iv 8 3)) 8 4 (iv 8 4)) 8 5 r3) lv fa la) H := hP
                        have hD9 : va_D A (WX h g ca (u2 (u2 (u2 iv 8 3 (iv 8 3)) 8 4 (iv 8 4)) 8 5 r3) lv fa la) := hD
                        exact W.iret (v := 0) hx hb hr (fun t ht9 hW => ⟨⟨0, ((u2 (u2 (u2 iv 8 3 (iv 8 3)) 8 4 (iv 8 4)) 8 5 r3), lv, fa, la), rfl, ⟨(iv 8 3), (iv 8 4), r3, (hI.1 8 3), (hI.1 8 4), (show inb (0, 200) r3 from ⟨by omega, by omega⟩), ⟨by decide, by decide⟩, rfl⟩, by rw [ht9]; exact hP9, hD9⟩, hS.F ht9⟩) hS.2.2 dX8_readOneOf_61
                · exact absurd c19 (by decide)
            · exact absurd c15 (by decide)
        · exact absurd c11 (by decide)
    · exact absurd c7 (by decide)
set_option maxHeartbeats 4000000 in
set_option maxRecDepth 100000 in
/-- X8_readOneOf -/
theorem c_X8_readOneOf_3 (l : Launch) (dC : Nat → ClassId) (dI : Nat → Nat → Nat) (sz : Nat) (ak av : Nat → Nat) (h : Nat) (g : Nat → Nat → Nat) (ca : Nat → Nat → ClassId) (iv : Nat → Nat → Int32) (lv : Nat → Nat → Int64) (fa : Nat → Nat → Nat → Int32) (la : Nat → Nat → Nat → Int64) (hI : IX iv fa) : Met l yX8_readOneOf (wc yX8_readOneOf cX8_readOneOf 6 (some .int)) ({ frames := 5, cells := 0, slots := 0, locals := 110 } : Room) (pWZ ak av (dC, dI) classes (WX h g ca iv lv fa la) (TX ca) sz [.ref (g 11 4), .ref (ak 3)]) (va_Qi (fun r (u : SS) => ∃ (ni_8_3 : Int32) (ni_8_4 : Int32) (ni_8_5 : Int32), inb (bI 8 3) ni_8_3 ∧ inb (bI 8 4) ni_8_4 ∧ inb (bI 8 5) ni_8_5 ∧ ((-1) ≤ r.toInt ∧ r.toInt ≤ 0) ∧ u = ((u2 (u2 (u2 iv 8 3 ni_8_3) 8 4 ni_8_4) 8 5 ni_8_5), lv, fa, la)) (bX (dC, dI) h g ca (va_A (WX h g ca iv lv fa la) sz)) (va_A (WX h g ca iv lv fa la) sz)) 0 0 (va_A (WX h g ca iv lv fa la) sz) := by
  refine Met.ofW (cc := cX8_readOneOf) (maxL := 6) (ret := (some .int)) (by decide) rfl ?_
  intro p e s m args below meth c s₁ B hml hv
  obtain ⟨rfl, hsz, hP, hK, hD0, hZ⟩ := hv
  have hx := B.exec
  have hb := B.bytes
  have hr := B.returns
  have ht := tb_tl (atoms_spec (ws := wc yX8_readOneOf cX8_readOneOf 6 (some .int)) B.pre)
  have hown : s.vm.findClass RX8 = some m.cls := findClass_of_methodNamed B.named
  have hlocks := B.notSynchronized
  subst hsz
  have hD := hD0.self (sz := s.heap.size)
  generalize hAe : va_A (WX h g ca iv lv fa la) s.heap.size = A at hD hZ ⊢
  have hA : ∀ q : Nat, s.heap.size ≤ q → A q := fun q h => by rw [← hAe]; exact Or.inr h
  have hS : va_S A s.heap s.heap [] := va_S.rf
  have hl := lv_entry [.ref (g 11 4), .ref (ak 3)] (n := 6) (Nat.le_of_ble_eq_true rfl)
  rw [lg_entry_eq]
  generalize (lg_sl [.ref (g 11 4), .ref (ak 3)] ++ List.replicate (6 - (lg_sl [.ref (g 11 4), .ref (ak 3)]).length) Slot.unset).toArray = ls at hl ⊢
  have hl : lv_has ls 6 [(0, .ref (g 11 4)), (1, .ref (ak 3))] := hl
  refine lv_aload_n hx hb dX8_readOneOf_0 rfl (lv_at hl 0 rfl) ?_
  have hFc := free_all hD hS hA
  refine va_calli (va_runV (As := []) (rest := []) ⟨hx, hb, hml, hown, ht⟩ (c_X8_skipBlanks l dC dI s.heap.size h g ca iv lv fa la hI) (kV 0 ht m_688 m_690 m_16 m_82 m_691 rfl rfl hd_X8_skipBlanks_v ⟨Nat.le_of_ble_eq_true rfl, Nat.le_of_ble_eq_true rfl⟩) (vW hP hK hD (rX_8 hK hP)) rfl rfl hl.1 rfl (lv_room (Nat.le_of_ble_eq_true rfl)) dX8_readOneOf_1 ⟨Nat.le_of_ble_eq_true rfl, Nat.le_of_ble_eq_true rfl⟩) hS (fun q _ h => hFc q h) hFc (fun r1 u t H1 locs ht9 hvm hr1 hB hz1 hk1 hS => ?_)
  obtain ⟨n2, hn2, hr1, rfl⟩ := hr1
  have hn2 : 0 ≤ n2.toInt ∧ n2.toInt ≤ 200 := hn2
  obtain ⟨hP, hD⟩ := hB
  rw [ht9] at hP
  generalize H1 = H at hP hS ⊢
  have hP : va_P (dC, dI) classes (WX h g ca (u2 iv 8 5 n2) lv fa la) H := hP
  have hD : va_D A (WX h g ca (u2 iv 8 5 n2) lv fa la) := (show va_D _ (WX h g ca (u2 iv 8 5 n2) lv fa la) from hD).weaken (fun _ _ _ h => hFc _ h)
  refine lv_pop hx hb dX8_readOneOf_4 rfl ?_
  refine lv_aload_n hx hb dX8_readOneOf_5 rfl (lv_at hl 0 rfl) ?_
  refine lv_bipush (v := 97) hx hb dX8_readOneOf_6 (by decide) ?_
  refine lv_bipush (v := 122) hx hb dX8_readOneOf_8 (by decide) ?_
  refine vp_callSi (W.runV (As := [.int 97, .int 122]) (rest := []) ⟨hx, hb, hml, hown, ht⟩ (c_X8_endOfRun l dC dI h g ca (u2 iv 8 5 n2) lv fa la (IX_i (c := 8) (k := 5) hI (show inb (0, 200) n2 from ⟨by omega, by omega⟩)) 97 122) (kV 2 ht m_701 m_703 m_19 m_82 m_704 rfl rfl hd_X8_endOfRun_v ⟨Nat.le_of_ble_eq_true rfl, Nat.le_of_ble_eq_true rfl⟩) (vR hP hK (rX_8 hK hP)) rfl rfl hl.1 rfl (lv_room (Nat.le_of_ble_eq_true rfl)) dX8_readOneOf_10 ⟨Nat.le_of_ble_eq_true rfl, Nat.le_of_ble_eq_true rfl⟩) (fun r3 hr3 => ?_)
  refine lv_istore_n (lv' := [(2, .int r3), (0, .ref (g 11 4)), (1, .ref (ak 3))]) hx hb dX8_readOneOf_13 rfl hl (by decide) rfl (fun ls hl => ?_)
  refine lv_iconst (v := 0) hx hb dX8_readOneOf_14 (by decide) ?_
  refine lv_istore_n (lv' := [(3, .int 0), (2, .int r3), (0, .ref (g 11 4)), (1, .ref (ak 3))]) hx hb dX8_readOneOf_15 rfl hl (by decide) rfl (fun ls hl => ?_)
  refine lv_iconst (v := 0) hx hb dX8_readOneOf_16 (by decide) ?_
  refine lv_istore (lv' := [(4, .int 0), (3, .int 0), (2, .int r3), (0, .ref (g 11 4)), (1, .ref (ak 3))]) hx hb dX8_readOneOf_17 hl (by decide) rfl (fun ls hl => ?_)
  refine lv_iconst (v := 0) hx hb dX8_readOneOf_19 (by decide) ?_
  refine lv_istore (lv' := [(5, .int 0), (4, .int 0), (3, .int 0), (2, .int r3), (0, .ref (g 11 4)), (1, .ref (ak 3))]) hx hb dX8_readOneOf_20 hl (by decide) rfl (fun ls hl => ?_)
  refine lv_iload hx hb dX8_readOneOf_22 (lv_at hl 0 rfl) ?_
  refine lv_aload_n hx hb dX8_readOneOf_24 rfl (lv_at hl 5 rfl) ?_
  refine vp_callSi (W.runV (As := []) (rest := [.int 0]) ⟨hx, hb, hml, hown, ht⟩ (c_J0_length_8abf5_3 l dC dI ak av) (kV 0 ht m_705 m_706 m_707 m_91 m_708 rfl rfl hd_J0_length_8abf5_v ⟨Nat.le_of_ble_eq_true rfl, Nat.le_of_ble_eq_true rfl⟩) (vRZ noP (hK.sub (tys' := []) [] rfl) ((hZ.kept hS.2.1).narrow (fun _ h => h.elim)) (vk_recv hZ.1.2.2.2.2.2 (i := 3) (by decide) hS)) rfl rfl hl.1 rfl (lv_room (Nat.le_of_ble_eq_true rfl)) dX8_readOneOf_25 ⟨Nat.le_of_ble_eq_true rfl, Nat.le_of_ble_eq_true rfl⟩) (fun r4 hr4 => ?_)
  obtain rfl : 3 = r4 := hr4.symm
  refine lv_icmp_ge (tgt := 77) hx hb dX8_readOneOf_28 (by decide) (fun c5 => ?_) (fun c5 => ?_)
  · exact absurd c5 (by decide)
  · skip
    refine lv_aload_n hx hb dX8_readOneOf_31 rfl (lv_at hl 5 rfl) ?_
    refine lv_iload hx hb dX8_readOneOf_32 (lv_at hl 0 rfl) ?_
    refine vp_callSi (W.runV (As := [.int 0]) (rest := []) ⟨hx, hb, hml, hown, ht⟩ (c_J0_charAt_5068e_3 l dC dI ak av 0 ⟨by decide, by decide⟩) (kV 1 ht m_715 m_716 m_717 m_91 m_718 rfl rfl hd_J0_charAt_5068e_v ⟨Nat.le_of_ble_eq_true rfl, Nat.le_of_ble_eq_true rfl⟩) (vRZ noP (hK.sub (tys' := []) [] rfl) ((hZ.kept hS.2.1).narrow (fun _ h => h.elim)) (vk_recv hZ.1.2.2.2.2.2 (i := 3) (by decide) hS)) rfl rfl hl.1 rfl (lv_room (Nat.le_of_ble_eq_true rfl)) dX8_readOneOf_34 ⟨Nat.le_of_ble_eq_true rfl, Nat.le_of_ble_eq_true rfl⟩) (fun r6 hr6 => ?_)
    obtain rfl : 116 = r6 := (hr6.trans (by decide)).symm
    refine lv_bipush (v := 32) hx hb dX8_readOneOf_37 (by decide) ?_
    refine lv_icmp_ne (tgt := 71) hx hb dX8_readOneOf_39 (by decide) (fun c7 => ?_) (fun c7 => ?_)
    · skip
      refine lv_iinc (v := 1) (lv' := [(5, .int 1), (4, .int 0), (3, .int 0), (2, .int r3), (0, .ref (g 11 4)), (1, .ref (ak 3))]) hx hb dX8_readOneOf_71 hl (k := 0) rfl (by decide) (by decide) rfl (fun ls hl => ?_)
      refine lv_goto (tgt := 22) hx hb dX8_readOneOf_74 (by decide) ?_
      refine lv_iload hx hb dX8_readOneOf_22 (lv_at hl 0 rfl) ?_
      refine lv_aload_n hx hb dX8_readOneOf_24 rfl (lv_at hl 5 rfl) ?_
      refine vp_callSi (W.runV (As := []) (rest := [.int 1]) ⟨hx, hb, hml, hown, ht⟩ (c_J0_length_8abf5_3 l dC dI ak av) (kV 0 ht m_705 m_706 m_707 m_91 m_708 rfl rfl hd_J0_length_8abf5_v ⟨Nat.le_of_ble_eq_true rfl, Nat.le_of_ble_eq_true rfl⟩) (vRZ noP (hK.sub (tys' := []) [] rfl) ((hZ.kept hS.2.1).narrow (fun _ h => h.elim)) (vk_recv hZ.1.2.2.2.2.2 (i := 3) (by decide) hS)) rfl rfl hl.1 rfl (lv_room (Nat.le_of_ble_eq_true rfl)) dX8_readOneOf_25 ⟨Nat.le_of_ble_eq_true rfl, Nat.le_of_ble_eq_true rfl⟩) (fun r8 hr8 => ?_)
      obtain rfl : 3 = r8 := hr8.symm
      refine lv_icmp_ge (tgt := 77) hx hb dX8_readOneOf_28 (by decide) (fun c9 => ?_) (fun c9 => ?_)
      · exact absurd c9 (by decide)
      · skip
        refine lv_aload_n hx hb dX8_readOneOf_31 rfl (lv_at hl 5 rfl) ?_
        refine lv_iload hx hb dX8_readOneOf_32 (lv_at hl 0 rfl) ?_
        refine vp_callSi (W.runV (As := [.int 1]) (rest := []) ⟨hx, hb, hml, hown, ht⟩ (c_J0_charAt_5068e_3 l dC dI ak av 1 ⟨by decide, by decide⟩) (kV 1 ht m_715 m_716 m_717 m_91 m_718 rfl rfl hd_J0_charAt_5068e_v ⟨Nat.le_of_ble_eq_true rfl, Nat.le_of_ble_eq_true rfl⟩) (vRZ noP (hK.sub (tys' := []) [] rfl) ((hZ.kept hS.2.1).narrow (fun _ h => h.elim)) (vk_recv hZ.1.2.2.2.2.2 (i := 3) (by decide) hS)) rfl rfl hl.1 rfl (lv_room (Nat.le_of_ble_eq_true rfl)) dX8_readOneOf_34 ⟨Nat.le_of_ble_eq_true rfl, Nat.le_of_ble_eq_true rfl⟩) (fun r10 hr10 => ?_)
        obtain rfl : 111 = r10 := (hr10.trans (by decide)).symm
        refine lv_bipush (v := 32) hx hb dX8_readOneOf_37 (by decide) ?_
        refine lv_icmp_ne (tgt := 71) hx hb dX8_readOneOf_39 (by decide) (fun c11 => ?_) (fun c11 => ?_)
        · skip
          refine lv_iinc (v := 2) (lv' := [(5, .int 2), (4, .int 0), (3, .int 0), (2, .int r3), (0, .ref (g 11 4)), (1, .ref (ak 3))]) hx hb dX8_readOneOf_71 hl (k := 0) rfl (by decide) (by decide) rfl (fun ls hl => ?_)
          refine lv_goto (tgt := 22) hx hb dX8_readOneOf_74 (by decide) ?_
          refine lv_iload hx hb dX8_readOneOf_22 (lv_at hl 0 rfl) ?_
          refine lv_aload_n hx hb dX8_readOneOf_24 rfl (lv_at hl 5 rfl) ?_
          refine vp_callSi (W.runV (As := []) (rest := [.int 2]) ⟨hx, hb, hml, hown, ht⟩ (c_J0_length_8abf5_3 l dC dI ak av) (kV 0 ht m_705 m_706 m_707 m_91 m_708 rfl rfl hd_J0_length_8abf5_v ⟨Nat.le_of_ble_eq_true rfl, Nat.le_of_ble_eq_true rfl⟩) (vRZ noP (hK.sub (tys' := []) [] rfl) ((hZ.kept hS.2.1).narrow (fun _ h => h.elim)) (vk_recv hZ.1.2.2.2.2.2 (i := 3) (by decide) hS)) rfl rfl hl.1 rfl (lv_room (Nat.le_of_ble_eq_true rfl)) dX8_readOneOf_25 ⟨Nat.le_of_ble_eq_true rfl, Nat.le_of_ble_eq_true rfl⟩) (fun r12 hr12 => ?_)
          obtain rfl : 3 = r12 := hr12.symm
          refine lv_icmp_ge (tgt := 77) hx hb dX8_readOneOf_28 (by decide) (fun c13 => ?_) (fun c13 => ?_)
          · exact absurd c13 (by decide)
          · skip
            refine lv_aload_n hx hb dX8_readOneOf_31 rfl (lv_at hl 5 rfl) ?_
            refine lv_iload hx hb dX8_readOneOf_32 (lv_at hl 0 rfl) ?_
            refine vp_callSi (W.runV (As := [.int 2]) (rest := []) ⟨hx, hb, hml, hown, ht⟩ (c_J0_charAt_5068e_3 l dC dI ak av 2 ⟨by decide, by decide⟩) (kV 1 ht m_715 m_716 m_717 m_91 m_718 rfl rfl hd_J0_charAt_5068e_v ⟨Nat.le_of_ble_eq_true rfl, Nat.le_of_ble_eq_true rfl⟩) (vRZ noP (hK.sub (tys' := []) [] rfl) ((hZ.kept hS.2.1).narrow (fun _ h => h.elim)) (vk_recv hZ.1.2.2.2.2.2 (i := 3) (by decide) hS)) rfl rfl hl.1 rfl (lv_room (Nat.le_of_ble_eq_true rfl)) dX8_readOneOf_34 ⟨Nat.le_of_ble_eq_true rfl, Nat.le_of_ble_eq_true rfl⟩) (fun r14 hr14 => ?_)
            obtain rfl : 32 = r14 := (hr14.trans (by decide)).symm
            refine lv_bipush (v := 32) hx hb dX8_readOneOf_37 (by decide) ?_
            refine lv_icmp_ne (tgt := 71) hx hb dX8_readOneOf_39 (by decide) (fun c15 => ?_) (fun c15 => ?_)
            · exact absurd rfl c15
            · skip
              refine lv_aload_n hx hb dX8_readOneOf_42 rfl (lv_at hl 4 rfl) ?_
              refine lv_aload_n hx hb dX8_readOneOf_43 rfl (lv_at hl 5 rfl) ?_
              refine lv_iload hx hb dX8_readOneOf_44 (lv_at hl 1 rfl) ?_
              refine lv_iload hx hb dX8_readOneOf_46 (lv_at hl 0 rfl) ?_
              refine lv_iload_n hx hb dX8_readOneOf_48 rfl (lv_at hl 3 rfl) ?_
              refine vp_callSi (W.runV (As := [.ref (ak 3), .int 0, .int 2, .int r3]) (rest := []) ⟨hx, hb, hml, hown, ht⟩ (c_X8_isSame_3 l dC dI ak av h g ca (u2 iv 8 5 n2) lv fa la (IX_i (c := 8) (k := 5) hI (show inb (0, 200) n2 from ⟨by omega, by omega⟩)) 0 2 r3 ⟨by decide, by decide⟩ ⟨by decide, by decide⟩ ⟨by omega, by omega⟩) (kV 4 ht m_753 m_755 m_20 m_82 m_756 rfl rfl hd_X8_isSame_v ⟨Nat.le_of_ble_eq_true rfl, Nat.le_of_ble_eq_true rfl⟩) (vRZ hP hK ((hZ.kept hS.2.1).narrow (fun _ h => h.elim)) (rX_8 hK hP)) rfl rfl hl.1 rfl (lv_room (Nat.le_of_ble_eq_true rfl)) dX8_readOneOf_49 ⟨Nat.le_of_ble_eq_true rfl, Nat.le_of_ble_eq_true rfl⟩) (fun r16 hr16 => ?_)
              refine lv_if_eq (tgt := 62) hx hb dX8_readOneOf_52 (by decide) (fun c17 => ?_) (fun c17 => ?_)
              · have fc17 := z_eq (rfl : (r16).toInt = _) (by decide : (0 : Int32).toInt = 0) c17
                refine lv_iinc (v := 1) (lv' := [(3, .int 1), (5, .int 2), (4, .int 0), (2, .int r3), (0, .ref (g 11 4)), (1, .ref (ak 3))]) hx hb dX8_readOneOf_62 hl (k := 2) rfl (by decide) (by decide) rfl (fun ls hl => ?_)
                refine lv_iload hx hb dX8_readOneOf_65 (lv_at hl 1 rfl) ?_
                refine lv_iconst (v := 1) hx hb dX8_readOneOf_67 (by decide) ?_
                refine lv_iadd hx hb dX8_readOneOf_68 ?_
                refine lv_topi (fun v18 ev18 => ?_)
                obtain rfl : 3 = v18 := (ev18.trans (by decide)).symm
                refine lv_istore (lv' := [(4, .int 3), (3, .int 1), (5, .int 2), (2, .int r3), (0, .ref (g 11 4)), (1, .ref (ak 3))]) hx hb dX8_readOneOf_69 hl (by decide) rfl (fun ls hl => ?_)
                refine lv_iinc (v := 3) (lv' := [(5, .int 3), (4, .int 3), (3, .int 1), (2, .int r3), (0, .ref (g 11 4)), (1, .ref (ak 3))]) hx hb dX8_readOneOf_71 hl (k := 2) rfl (by decide) (by decide) rfl (fun ls hl => ?_)
                refine lv_goto (tgt := 22) hx hb dX8_readOneOf_74 (by decide) ?_
                refine lv_iload hx hb dX8_readOneOf_22 (lv_at hl 0 rfl) ?_
                refine lv_aload_n hx hb dX8_readOneOf_24 rfl (lv_at hl 5 rfl) ?_
                refine vp_callSi (W.runV (As := []) (rest := [.int 3]) ⟨hx, hb, hml, hown, ht⟩ (c_J0_length_8abf5_3 l dC dI ak av) (kV 0 ht m_705 m_706 m_707 m_91 m_708 rfl rfl hd_J0_length_8abf5_v ⟨Nat.le_of_ble_eq_true rfl, Nat.le_of_ble_eq_true rfl⟩) (vRZ noP (hK.sub (tys' := []) [] rfl) ((hZ.kept hS.2.1).narrow (fun _ h => h.elim)) (vk_recv hZ.1.2.2.2.2.2 (i := 3) (by decide) hS)) rfl rfl hl.1 rfl (lv_room (Nat.le_of_ble_eq_true rfl)) dX8_readOneOf_25 ⟨Nat.le_of_ble_eq_true rfl, Nat.le_of_ble_eq_true rfl⟩) (fun r19 hr19 => ?_)
                obtain rfl : 3 = r19 := hr19.symm
                refine lv_icmp_ge (tgt := 77) hx hb dX8_readOneOf_28 (by decide) (fun c20 => ?_) (fun c20 => ?_)
                · skip
                  refine lv_aload_n hx hb dX8_readOneOf_77 rfl (lv_at hl 4 rfl) ?_
                  refine lv_iconst (v := 1) hx hb dX8_readOneOf_78 (by decide) ?_
                  refine lv_aload_n hx hb dX8_readOneOf_79 rfl (lv_at hl 4 rfl) ?_
                  refine gX_8_5 hx hb ht hown hK hP m_235 (v := n2) rfl dX8_readOneOf_80 ?_
                  have hFc := free_all hD hS hA
                  refine va_calli (va_runV (As := [.int 1, .int n2]) (rest := []) ⟨hx, hb, hml, hown, ht⟩ (c_X8_fail l dC dI H.size h g ca (u2 iv 8 5 n2) lv fa la (IX_i (c := 8) (k := 5) hI (show inb (0, 200) n2 from ⟨by omega, by omega⟩)) 1 n2 ⟨by decide, by decide⟩ ⟨by omega, by omega⟩) (kV 2 ht m_757 m_759 m_21 m_82 m_760 rfl rfl hd_X8_fail_v ⟨Nat.le_of_ble_eq_true rfl, Nat.le_of_ble_eq_true rfl⟩) (vW hP hK hD (rX_8 hK hP)) rfl rfl hl.1 rfl (lv_room (Nat.le_of_ble_eq_true rfl)) dX8_readOneOf_83 ⟨Nat.le_of_ble_eq_true rfl, Nat.le_of_ble_eq_true rfl⟩) hS (fun q _ h => hFc q h) hFc (fun r21 u t H1 locs ht9 hvm hr21 hB hz1 hk1 hS => ?_)
                  obtain ⟨n22, n23, hn22, hn23, hr21, rfl⟩ := hr21
                  have hn22 : (-1) ≤ n22.toInt ∧ n22.toInt ≤ 200 := hn22
                  have hn23 : 0 ≤ n23.toInt ∧ n23.toInt ≤ 5 := hn23
                  obtain ⟨hP, hD⟩ := hB
                  rw [ht9] at hP
                  generalize H1 = H at hP hS ⊢
                  have hP : va_P (dC, dI) classes (WX h g ca (u2 (u2 (u2 iv 8 5 n2) 8 3 n22) 8 4 n23) lv fa la) H := hP
                  have hD : va_D A (WX h g ca (u2 (u2 (u2 iv 8 5 n2) 8 3 n22) 8 4 n23) lv fa la) := (show va_D _ (WX h g ca (u2 (u2 (u2 iv 8 5 n2) 8 3 n22) 8 4 n23) lv fa la) from hD).weaken (fun _ _ _ h => hFc _ h)
                  refine lv_pop hx hb dX8_readOneOf_86 rfl ?_
                  refine lv_iconst (v := (-1)) hx hb dX8_readOneOf_87 (by decide) ?_
                  have hP9 : va_P (dC, dI) classes (WX h g ca (u2 (u2 (u2 iv 8 3 n22) 8 4 n23) 8 5 n2) lv fa la) H := hP
                  have hD9 : va_D A (WX h g ca (u2 (u2 (u2 iv 8 3 n22) 8 4 n23) 8 5 n2) lv fa la) := hD
                  exact W.iret (v := (-1)) hx hb hr (fun t ht9 hW => ⟨⟨(-1), ((u2 (u2 (u2 iv 8 3 n22) 8 4 n23) 8 5 n2), lv, fa, la), rfl, ⟨n22, n23, n2, (show inb ((-1), 200) n22 from ⟨by omega, by omega⟩), (show inb (0, 5) n23 from ⟨by omega, by omega⟩), (show inb (0, 200) n2 from ⟨by omega, by omega⟩), ⟨by decide, by decide⟩, rfl⟩, by rw [ht9]; exact hP9, hD9⟩, hS.F ht9⟩) hS.2.2 dX8_readOneOf_88
                · exact absurd c20 (by decide)
              · have fc17 := z_ne (rfl : (r16).toInt = _) (by decide : (0 : Int32).toInt = 0) c17
                refine lv_aload_n hx hb dX8_readOneOf_55 rfl (lv_at hl 4 rfl) ?_
                refine lv_iload_n hx hb dX8_readOneOf_56 rfl (lv_at hl 3 rfl) ?_
                refine pX_8_5 (v := r3) hx hb ht hown hK hP hD hS m_235 dX8_readOneOf_57 (fun H locs hP hD hS => ?_)
                have hP : va_P (dC, dI) classes (WX h g ca (u2 iv 8 5 r3) lv fa la) H := hP
                have hD : va_D A (WX h g ca (u2 iv 8 5 r3) lv fa la) := hD
                refine lv_iload_n hx hb dX8_readOneOf_60 rfl (lv_at hl 2 rfl) ?_
                have hP9 : va_P (dC, dI) classes (WX h g ca (u2 (u2 (u2 iv 8 3 (iv 8 3)) 8 4 (iv 8 4)) 8 5 r3) lv fa la) H := hP
                have hD9 : va_D A (WX h g ca (u2 (u2 (u2 iv 8 3 (iv 8 3)) 8 4 (iv 8 4)) 8 5 r3) lv fa la) := hD
                exact W.iret (v := 0) hx hb hr (fun t ht9 hW => ⟨⟨0, ((u2 (u2 (u2 iv 8 3 (iv 8 3)) 8 4 (iv 8 4)) 8 5 r3), lv, fa, la), rfl, ⟨(iv 8 3), (iv 8 4), r3, (hI.1 8 3), (hI.1 8 4), (show inb (0, 200) r3 from ⟨by omega, by omega⟩), ⟨by decide, by decide⟩, rfl⟩, by rw [ht9]; exact hP9, hD9⟩, hS.F ht9⟩) hS.2.2 dX8_readOneOf_61
        · exact absurd c11 (by decide)
    · exact absurd c7 (by decide)
