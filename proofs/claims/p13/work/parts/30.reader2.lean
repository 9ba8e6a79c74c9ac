/-! ===== reader2 ===== -/
set_option maxRecDepth 100000 in
theorem m_17 : Cond.selects RX8 yX8_readClause yX8_readClause ∈ tb := tb_in 17 (by decide +kernel) rfl
set_option maxRecDepth 100000 in
theorem m_18 : Cond.selects RX8 yX8_readOneOf yX8_readOneOf ∈ tb := tb_in 18 (by decide +kernel) rfl
set_option maxRecDepth 100000 in
theorem m_22 : Cond.selects RX8 yX8_readLet yX8_readLet ∈ tb := tb_in 22 (by decide +kernel) rfl
set_option maxRecDepth 100000 in
theorem m_23 : Cond.selects RX8 yX8_readNumber yX8_readNumber ∈ tb := tb_in 23 (by decide +kernel) rfl
set_option maxRecDepth 100000 in
theorem m_24 : Cond.selects RX8 yX8_readStop yX8_readStop ∈ tb := tb_in 24 (by decide +kernel) rfl
set_option maxRecDepth 100000 in
theorem m_25 : Cond.selects RX8 yX8_readTake yX8_readTake ∈ tb := tb_in 25 (by decide +kernel) rfl
set_option maxRecDepth 100000 in
theorem m_26 : Cond.selects RX8 yX8_readName yX8_readName ∈ tb := tb_in 26 (by decide +kernel) rfl
set_option maxRecDepth 100000 in
theorem m_27 : Cond.selects RX8 yX8_readWord yX8_readWord ∈ tb := tb_in 27 (by decide +kernel) rfl
set_option maxRecDepth 100000 in
theorem m_28 : Cond.selects RX8 yX8_readStrike yX8_readStrike ∈ tb := tb_in 28 (by decide +kernel) rfl
theorem m_197 : Cond.fieldLink RX8 96 "SilkHouse$Book" "number" "I" ∈ tb := mb_1_3 _ (List.mem_of_getElem? (i := 10) rfl)
theorem m_200 : Cond.fieldLink RX8 50 "SilkHouse$Book" "drafted" "I" ∈ tb := mb_1_3 _ (List.mem_of_getElem? (i := 13) rfl)
theorem m_228 : Cond.fieldLink RX8 28 "SilkHouse$Reader" "book" "LSilkHouse$Book;" ∈ tb := mb_1_3 _ (List.mem_of_getElem? (i := 22) rfl)
theorem m_684 : Cond.methodLink RX8 32 yX1_startDraft ∈ tb := mb_3_4 _ (List.mem_of_getElem? (i := 19) rfl)
theorem m_685 : Cond.instanceMethod yX1_startDraft ∈ tb := mb_3_4 _ (List.mem_of_getElem? (i := 20) rfl)
theorem m_686 : Cond.selects RX1 yX1_startDraft yX1_startDraft ∈ tb := mb_3_4 _ (List.mem_of_getElem? (i := 21) rfl)
theorem m_687 : Cond.code yX1_startDraft cX1_startDraft 1 none ∈ tb := mb_3_4 _ (List.mem_of_getElem? (i := 22) rfl)
theorem m_692 : Cond.methodLink RX8 41 yX8_readClause ∈ tb := mb_3_5 _ (List.mem_of_getElem? (i := 2) rfl)
theorem m_694 : Cond.instanceMethod yX8_readClause ∈ tb := mb_3_5 _ (List.mem_of_getElem? (i := 3) rfl)
theorem m_695 : Cond.code yX8_readClause cX8_readClause 3 (some .boolean) ∈ tb := mb_3_5 _ (List.mem_of_getElem? (i := 4) rfl)
theorem m_697 : Cond.methodLink RX8 46 yX8_readOneOf ∈ tb := mb_3_5 _ (List.mem_of_getElem? (i := 5) rfl)
theorem m_699 : Cond.instanceMethod yX8_readOneOf ∈ tb := mb_3_5 _ (List.mem_of_getElem? (i := 6) rfl)
theorem m_700 : Cond.code yX8_readOneOf cX8_readOneOf 6 (some .int) ∈ tb := mb_3_5 _ (List.mem_of_getElem? (i := 7) rfl)
theorem m_761 : Cond.methodLink RX8 57 yX8_readLet ∈ tb := mb_3_5 _ (List.mem_of_getElem? (i := 19) rfl)
theorem m_763 : Cond.instanceMethod yX8_readLet ∈ tb := mb_3_5 _ (List.mem_of_getElem? (i := 20) rfl)
theorem m_764 : Cond.code yX8_readLet cX8_readLet 3 (some .boolean) ∈ tb := mb_3_5 _ (List.mem_of_getElem? (i := 21) rfl)
theorem m_766 : Cond.fieldLink RX8 71 "SilkHouse$Reader" "LEAST_OF_NAME" "[I" ∈ tb := mb_3_5 _ (List.mem_of_getElem? (i := 22) rfl)
theorem m_768 : Cond.fieldLink RX8 75 "SilkHouse$Reader" "MOST_OF_NAME" "[I" ∈ tb := mb_3_5 _ (List.mem_of_getElem? (i := 23) rfl)
theorem m_770 : Cond.methodLink RX8 78 yX8_readNumber ∈ tb := mb_3_6 _ (List.mem_of_getElem? (i := 0) rfl)
theorem m_772 : Cond.instanceMethod yX8_readNumber ∈ tb := mb_3_6 _ (List.mem_of_getElem? (i := 1) rfl)
theorem m_773 : Cond.code yX8_readNumber cX8_readNumber 7 (some .int) ∈ tb := mb_3_6 _ (List.mem_of_getElem? (i := 2) rfl)
theorem m_775 : Cond.methodLink RX8 82 yX8_readStop ∈ tb := mb_3_6 _ (List.mem_of_getElem? (i := 3) rfl)
theorem m_777 : Cond.instanceMethod yX8_readStop ∈ tb := mb_3_6 _ (List.mem_of_getElem? (i := 4) rfl)
theorem m_778 : Cond.code yX8_readStop cX8_readStop 1 (some .boolean) ∈ tb := mb_3_6 _ (List.mem_of_getElem? (i := 5) rfl)
theorem m_779 : Cond.methodLink RX8 85 yX1_draft ∈ tb := mb_3_6 _ (List.mem_of_getElem? (i := 6) rfl)
theorem m_780 : Cond.instanceMethod yX1_draft ∈ tb := mb_3_6 _ (List.mem_of_getElem? (i := 7) rfl)
theorem m_781 : Cond.selects RX1 yX1_draft yX1_draft ∈ tb := mb_3_6 _ (List.mem_of_getElem? (i := 8) rfl)
theorem m_782 : Cond.code yX1_draft cX1_draft 5 none ∈ tb := mb_3_6 _ (List.mem_of_getElem? (i := 9) rfl)
theorem m_783 : Cond.methodLink RX8 60 yX8_readTake ∈ tb := mb_3_6 _ (List.mem_of_getElem? (i := 10) rfl)
theorem m_785 : Cond.instanceMethod yX8_readTake ∈ tb := mb_3_6 _ (List.mem_of_getElem? (i := 11) rfl)
theorem m_786 : Cond.code yX8_readTake cX8_readTake 2 (some .boolean) ∈ tb := mb_3_6 _ (List.mem_of_getElem? (i := 12) rfl)
theorem m_788 : Cond.methodLink RX8 63 yX8_readName ∈ tb := mb_3_6 _ (List.mem_of_getElem? (i := 13) rfl)
theorem m_790 : Cond.instanceMethod yX8_readName ∈ tb := mb_3_6 _ (List.mem_of_getElem? (i := 14) rfl)
theorem m_791 : Cond.code yX8_readName cX8_readName 3 (some .boolean) ∈ tb := mb_3_6 _ (List.mem_of_getElem? (i := 15) rfl)
theorem m_792 : Cond.methodLink RX8 91 yX8_readWord ∈ tb := mb_3_6 _ (List.mem_of_getElem? (i := 16) rfl)
theorem m_794 : Cond.instanceMethod yX8_readWord ∈ tb := mb_3_6 _ (List.mem_of_getElem? (i := 17) rfl)
theorem m_795 : Cond.code yX8_readWord cX8_readWord 2 (some .boolean) ∈ tb := mb_3_6 _ (List.mem_of_getElem? (i := 18) rfl)
theorem m_796 : Cond.methodLink RX8 103 yX1_draftWord ∈ tb := mb_4_0 _ (List.mem_of_getElem? (i := 0) rfl)
theorem m_797 : Cond.instanceMethod yX1_draftWord ∈ tb := mb_4_0 _ (List.mem_of_getElem? (i := 1) rfl)
theorem m_798 : Cond.selects RX1 yX1_draftWord yX1_draftWord ∈ tb := mb_4_0 _ (List.mem_of_getElem? (i := 2) rfl)
theorem m_799 : Cond.code yX1_draftWord cX1_draftWord 6 none ∈ tb := mb_4_0 _ (List.mem_of_getElem? (i := 3) rfl)
theorem m_801 : Cond.methodLink RX8 66 yX8_readStrike ∈ tb := mb_4_0 _ (List.mem_of_getElem? (i := 4) rfl)
theorem m_803 : Cond.instanceMethod yX8_readStrike ∈ tb := mb_4_0 _ (List.mem_of_getElem? (i := 5) rfl)
theorem m_804 : Cond.code yX8_readStrike cX8_readStrike 3 (some .boolean) ∈ tb := mb_4_0 _ (List.mem_of_getElem? (i := 6) rfl)
theorem hd_X11_within_i : yX11_within.cls ≠ "java/lang/invoke/MethodHandle" ∧ yX11_within.cls ≠ "java/lang/invoke/VarHandle" ∧ (parseMethodDescriptor yX11_within.desc).map (fun d => d.parameters.length) = some 3 := by decide +kernel
theorem hd_X1_draftWord_v : yX1_draftWord.cls = RX1 ∧ yX1_draftWord.cls ≠ "java/lang/invoke/MethodHandle" ∧ yX1_draftWord.cls ≠ "java/lang/invoke/VarHandle" ∧ (parseMethodDescriptor yX1_draftWord.desc).map (fun d => d.parameters.length) = some 3 := by decide +kernel
theorem hd_X1_draft_v : yX1_draft.cls = RX1 ∧ yX1_draft.cls ≠ "java/lang/invoke/MethodHandle" ∧ yX1_draft.cls ≠ "java/lang/invoke/VarHandle" ∧ (parseMethodDescriptor yX1_draft.desc).map (fun d => d.parameters.length) = some 3 := by decide +kernel
theorem hd_X1_startDraft_v : yX1_startDraft.cls = RX1 ∧ yX1_startDraft.cls ≠ "java/lang/invoke/MethodHandle" ∧ yX1_startDraft.cls ≠ "java/lang/invoke/VarHandle" ∧ (parseMethodDescriptor yX1_startDraft.desc).map (fun d => d.parameters.length) = some 0 := by decide +kernel
theorem hd_X8_readClause_v : yX8_readClause.cls = RX8 ∧ yX8_readClause.cls ≠ "java/lang/invoke/MethodHandle" ∧ yX8_readClause.cls ≠ "java/lang/invoke/VarHandle" ∧ (parseMethodDescriptor yX8_readClause.desc).map (fun d => d.parameters.length) = some 0 := by decide +kernel
theorem hd_X8_readLet_v : yX8_readLet.cls = RX8 ∧ yX8_readLet.cls ≠ "java/lang/invoke/MethodHandle" ∧ yX8_readLet.cls ≠ "java/lang/invoke/VarHandle" ∧ (parseMethodDescriptor yX8_readLet.desc).map (fun d => d.parameters.length) = some 0 := by decide +kernel
theorem hd_X8_readName_v : yX8_readName.cls = RX8 ∧ yX8_readName.cls ≠ "java/lang/invoke/MethodHandle" ∧ yX8_readName.cls ≠ "java/lang/invoke/VarHandle" ∧ (parseMethodDescriptor yX8_readName.desc).map (fun d => d.parameters.length) = some 0 := by decide +kernel
theorem hd_X8_readNumber_v : yX8_readNumber.cls = RX8 ∧ yX8_readNumber.cls ≠ "java/lang/invoke/MethodHandle" ∧ yX8_readNumber.cls ≠ "java/lang/invoke/VarHandle" ∧ (parseMethodDescriptor yX8_readNumber.desc).map (fun d => d.parameters.length) = some 2 := by decide +kernel
theorem hd_X8_readOneOf_v : yX8_readOneOf.cls = RX8 ∧ yX8_readOneOf.cls ≠ "java/lang/invoke/MethodHandle" ∧ yX8_readOneOf.cls ≠ "java/lang/invoke/VarHandle" ∧ (parseMethodDescriptor yX8_readOneOf.desc).map (fun d => d.parameters.length) = some 1 := by decide +kernel
theorem hd_X8_readStop_v : yX8_readStop.cls = RX8 ∧ yX8_readStop.cls ≠ "java/lang/invoke/MethodHandle" ∧ yX8_readStop.cls ≠ "java/lang/invoke/VarHandle" ∧ (parseMethodDescriptor yX8_readStop.desc).map (fun d => d.parameters.length) = some 0 := by decide +kernel
theorem hd_X8_readStrike_v : yX8_readStrike.cls = RX8 ∧ yX8_readStrike.cls ≠ "java/lang/invoke/MethodHandle" ∧ yX8_readStrike.cls ≠ "java/lang/invoke/VarHandle" ∧ (parseMethodDescriptor yX8_readStrike.desc).map (fun d => d.parameters.length) = some 0 := by decide +kernel
theorem hd_X8_readTake_v : yX8_readTake.cls = RX8 ∧ yX8_readTake.cls ≠ "java/lang/invoke/MethodHandle" ∧ yX8_readTake.cls ≠ "java/lang/invoke/VarHandle" ∧ (parseMethodDescriptor yX8_readTake.desc).map (fun d => d.parameters.length) = some 0 := by decide +kernel
theorem hd_X8_readWord_v : yX8_readWord.cls = RX8 ∧ yX8_readWord.cls ≠ "java/lang/invoke/MethodHandle" ∧ yX8_readWord.cls ≠ "java/lang/invoke/VarHandle" ∧ (parseMethodDescriptor yX8_readWord.desc).map (fun d => d.parameters.length) = some 0 := by decide +kernel
set_option maxRecDepth 100000 in
theorem dvX8_read_0 : ([(0, .aload_n 0, 1), (1, .iconst 0, 1), (2, .putfield 25, 3), (5, .aload_n 0, 1), (6, .iconst 0, 1), (7, .putfield 22, 3), (10, .aload_n 0, 1), (11, .iconst (-1), 1), (12, .putfield 19, 3), (15, .aload_n 0, 1), (16, .getfield 28, 3), (19, .invokevirtual 32, 3), (22, .aload_n 0, 1), (23, .invokevirtual 37, 3), (26, .istore_n 1, 1), (27, .iconst 0, 1), (28, .istore_n 2, 1), (29, .iload_n 1, 1), (30, .ifCond .eq 35, 3), (33, .iload_n 2, 1), (34, .bipush 12, 2), (36, .if_icmp .gt 29, 3), (39, .aload_n 0, 1), (40, .invokevirtual 41, 3)] : List (Nat × Instr × Nat)).all (fun q => decide (decode cX8_read q.1 = .ok (q.2.1, q.2.2))) = true := by decide +kernel
theorem dX8_read_0 : decode cX8_read 0 = .ok (.aload_n 0, 1) := all_at dvX8_read_0 0 rfl
theorem dX8_read_1 : decode cX8_read 1 = .ok (.iconst 0, 1) := all_at dvX8_read_0 1 rfl
theorem dX8_read_2 : decode cX8_read 2 = .ok (.putfield 25, 3) := all_at dvX8_read_0 2 rfl
theorem dX8_read_5 : decode cX8_read 5 = .ok (.aload_n 0, 1) := all_at dvX8_read_0 3 rfl
theorem dX8_read_6 : decode cX8_read 6 = .ok (.iconst 0, 1) := all_at dvX8_read_0 4 rfl
theorem dX8_read_7 : decode cX8_read 7 = .ok (.putfield 22, 3) := all_at dvX8_read_0 5 rfl
theorem dX8_read_10 : decode cX8_read 10 = .ok (.aload_n 0, 1) := all_at dvX8_read_0 6 rfl
theorem dX8_read_11 : decode cX8_read 11 = .ok (.iconst (-1), 1) := all_at dvX8_read_0 7 rfl
theorem dX8_read_12 : decode cX8_read 12 = .ok (.putfield 19, 3) := all_at dvX8_read_0 8 rfl
theorem dX8_read_15 : decode cX8_read 15 = .ok (.aload_n 0, 1) := all_at dvX8_read_0 9 rfl
theorem dX8_read_16 : decode cX8_read 16 = .ok (.getfield 28, 3) := all_at dvX8_read_0 10 rfl
theorem dX8_read_19 : decode cX8_read 19 = .ok (.invokevirtual 32, 3) := all_at dvX8_read_0 11 rfl
theorem dX8_read_22 : decode cX8_read 22 = .ok (.aload_n 0, 1) := all_at dvX8_read_0 12 rfl
theorem dX8_read_23 : decode cX8_read 23 = .ok (.invokevirtual 37, 3) := all_at dvX8_read_0 13 rfl
theorem dX8_read_26 : decode cX8_read 26 = .ok (.istore_n 1, 1) := all_at dvX8_read_0 14 rfl
theorem dX8_read_27 : decode cX8_read 27 = .ok (.iconst 0, 1) := all_at dvX8_read_0 15 rfl
theorem dX8_read_28 : decode cX8_read 28 = .ok (.istore_n 2, 1) := all_at dvX8_read_0 16 rfl
theorem dX8_read_29 : decode cX8_read 29 = .ok (.iload_n 1, 1) := all_at dvX8_read_0 17 rfl
theorem dX8_read_30 : decode cX8_read 30 = .ok (.ifCond .eq 35, 3) := all_at dvX8_read_0 18 rfl
theorem dX8_read_33 : decode cX8_read 33 = .ok (.iload_n 2, 1) := all_at dvX8_read_0 19 rfl
theorem dX8_read_34 : decode cX8_read 34 = .ok (.bipush 12, 2) := all_at dvX8_read_0 20 rfl
theorem dX8_read_36 : decode cX8_read 36 = .ok (.if_icmp .gt 29, 3) := all_at dvX8_read_0 21 rfl
theorem dX8_read_39 : decode cX8_read 39 = .ok (.aload_n 0, 1) := all_at dvX8_read_0 22 rfl
theorem dX8_read_40 : decode cX8_read 40 = .ok (.invokevirtual 41, 3) := all_at dvX8_read_0 23 rfl
set_option maxRecDepth 100000 in
theorem dvX8_read_43 : ([(43, .ifCond .eq 14, 3), (46, .aload_n 0, 1), (47, .invokevirtual 37, 3), (50, .ifCond .eq 7, 3), (53, .iconst 1, 1), (54, .goto 4, 3), (57, .iconst 0, 1), (58, .istore_n 1, 1), (59, .iinc 2 1, 3), (62, .goto (-33), 3), (65, .aload_n 0, 1), (66, .iconst 0, 1), (67, .putfield 15, 3), (70, .aload_n 0, 1), (71, .getfield 22, 3), (74, .ireturn, 1)] : List (Nat × Instr × Nat)).all (fun q => decide (decode cX8_read q.1 = .ok (q.2.1, q.2.2))) = true := by decide +kernel
theorem dX8_read_43 : decode cX8_read 43 = .ok (.ifCond .eq 14, 3) := all_at dvX8_read_43 0 rfl
theorem dX8_read_46 : decode cX8_read 46 = .ok (.aload_n 0, 1) := all_at dvX8_read_43 1 rfl
theorem dX8_read_47 : decode cX8_read 47 = .ok (.invokevirtual 37, 3) := all_at dvX8_read_43 2 rfl
theorem dX8_read_50 : decode cX8_read 50 = .ok (.ifCond .eq 7, 3) := all_at dvX8_read_43 3 rfl
theorem dX8_read_53 : decode cX8_read 53 = .ok (.iconst 1, 1) := all_at dvX8_read_43 4 rfl
theorem dX8_read_54 : decode cX8_read 54 = .ok (.goto 4, 3) := all_at dvX8_read_43 5 rfl
theorem dX8_read_57 : decode cX8_read 57 = .ok (.iconst 0, 1) := all_at dvX8_read_43 6 rfl
theorem dX8_read_58 : decode cX8_read 58 = .ok (.istore_n 1, 1) := all_at dvX8_read_43 7 rfl
theorem dX8_read_59 : decode cX8_read 59 = .ok (.iinc 2 1, 3) := all_at dvX8_read_43 8 rfl
theorem dX8_read_62 : decode cX8_read 62 = .ok (.goto (-33), 3) := all_at dvX8_read_43 9 rfl
theorem dX8_read_65 : decode cX8_read 65 = .ok (.aload_n 0, 1) := all_at dvX8_read_43 10 rfl
theorem dX8_read_66 : decode cX8_read 66 = .ok (.iconst 0, 1) := all_at dvX8_read_43 11 rfl
theorem dX8_read_67 : decode cX8_read 67 = .ok (.putfield 15, 3) := all_at dvX8_read_43 12 rfl
theorem dX8_read_70 : decode cX8_read 70 = .ok (.aload_n 0, 1) := all_at dvX8_read_43 13 rfl
theorem dX8_read_71 : decode cX8_read 71 = .ok (.getfield 22, 3) := all_at dvX8_read_43 14 rfl
theorem dX8_read_74 : decode cX8_read 74 = .ok (.ireturn, 1) := all_at dvX8_read_43 15 rfl
set_option maxRecDepth 100000 in
theorem dvX8_readClause_0 : ([(0, .aload_n 0, 1), (1, .getfield 25, 3), (4, .istore_n 1, 1), (5, .aload_n 0, 1), (6, .ldc 44, 2), (8, .invokevirtual 46, 3), (11, .istore_n 2, 1), (12, .iload_n 2, 1), (13, .iconst (-1), 1), (14, .if_icmp .ne 5, 3), (17, .iconst 0, 1), (18, .ireturn, 1), (19, .aload_n 0, 1), (20, .getfield 28, 3), (23, .getfield 50, 3), (26, .bipush 12, 2), (28, .if_icmp .lt 10, 3), (31, .aload_n 0, 1), (32, .iconst 5, 1), (33, .iload_n 1, 1), (34, .invokevirtual 53, 3), (37, .ireturn, 1), (38, .iload_n 2, 1), (39, .tableswitch 40 0 2 #[25, 30, 35], 25)] : List (Nat × Instr × Nat)).all (fun q => decide (decode cX8_readClause q.1 = .ok (q.2.1, q.2.2))) = true := by decide +kernel
theorem dX8_readClause_0 : decode cX8_readClause 0 = .ok (.aload_n 0, 1) := all_at dvX8_readClause_0 0 rfl
theorem dX8_readClause_1 : decode cX8_readClause 1 = .ok (.getfield 25, 3) := all_at dvX8_readClause_0 1 rfl
theorem dX8_readClause_4 : decode cX8_readClause 4 = .ok (.istore_n 1, 1) := all_at dvX8_readClause_0 2 rfl
theorem dX8_readClause_5 : decode cX8_readClause 5 = .ok (.aload_n 0, 1) := all_at dvX8_readClause_0 3 rfl
theorem dX8_readClause_6 : decode cX8_readClause 6 = .ok (.ldc 44, 2) := all_at dvX8_readClause_0 4 rfl
theorem dX8_readClause_8 : decode cX8_readClause 8 = .ok (.invokevirtual 46, 3) := all_at dvX8_readClause_0 5 rfl
theorem dX8_readClause_11 : decode cX8_readClause 11 = .ok (.istore_n 2, 1) := all_at dvX8_readClause_0 6 rfl
theorem dX8_readClause_12 : decode cX8_readClause 12 = .ok (.iload_n 2, 1) := all_at dvX8_readClause_0 7 rfl
theorem dX8_readClause_13 : decode cX8_readClause 13 = .ok (.iconst (-1), 1) := all_at dvX8_readClause_0 8 rfl
theorem dX8_readClause_14 : decode cX8_readClause 14 = .ok (.if_icmp .ne 5, 3) := all_at dvX8_readClause_0 9 rfl
theorem dX8_readClause_17 : decode cX8_readClause 17 = .ok (.iconst 0, 1) := all_at dvX8_readClause_0 10 rfl
theorem dX8_readClause_18 : decode cX8_readClause 18 = .ok (.ireturn, 1) := all_at dvX8_readClause_0 11 rfl
theorem dX8_readClause_19 : decode cX8_readClause 19 = .ok (.aload_n 0, 1) := all_at dvX8_readClause_0 12 rfl
theorem dX8_readClause_20 : decode cX8_readClause 20 = .ok (.getfield 28, 3) := all_at dvX8_readClause_0 13 rfl
theorem dX8_readClause_23 : decode cX8_readClause 23 = .ok (.getfield 50, 3) := all_at dvX8_readClause_0 14 rfl
theorem dX8_readClause_26 : decode cX8_readClause 26 = .ok (.bipush 12, 2) := all_at dvX8_readClause_0 15 rfl
theorem dX8_readClause_28 : decode cX8_readClause 28 = .ok (.if_icmp .lt 10, 3) := all_at dvX8_readClause_0 16 rfl
theorem dX8_readClause_31 : decode cX8_readClause 31 = .ok (.aload_n 0, 1) := all_at dvX8_readClause_0 17 rfl
theorem dX8_readClause_32 : decode cX8_readClause 32 = .ok (.iconst 5, 1) := all_at dvX8_readClause_0 18 rfl
theorem dX8_readClause_33 : decode cX8_readClause 33 = .ok (.iload_n 1, 1) := all_at dvX8_readClause_0 19 rfl
theorem dX8_readClause_34 : decode cX8_readClause 34 = .ok (.invokevirtual 53, 3) := all_at dvX8_readClause_0 20 rfl
theorem dX8_readClause_37 : decode cX8_readClause 37 = .ok (.ireturn, 1) := all_at dvX8_readClause_0 21 rfl
theorem dX8_readClause_38 : decode cX8_readClause 38 = .ok (.iload_n 2, 1) := all_at dvX8_readClause_0 22 rfl
theorem dX8_readClause_39 : decode cX8_readClause 39 = .ok (.tableswitch 40 0 2 #[25, 30, 35], 25) := all_at dvX8_readClause_0 23 rfl
set_option maxRecDepth 100000 in
theorem dvX8_readClause_64 : ([(64, .aload_n 0, 1), (65, .invokevirtual 57, 3), (68, .ireturn, 1), (69, .aload_n 0, 1), (70, .invokevirtual 60, 3), (73, .ireturn, 1), (74, .aload_n 0, 1), (75, .invokevirtual 63, 3), (78, .ireturn, 1), (79, .aload_n 0, 1), (80, .invokevirtual 66, 3), (83, .ireturn, 1)] : List (Nat × Instr × Nat)).all (fun q => decide (decode cX8_readClause q.1 = .ok (q.2.1, q.2.2))) = true := by decide +kernel
theorem dX8_readClause_64 : decode cX8_readClause 64 = .ok (.aload_n 0, 1) := all_at dvX8_readClause_64 0 rfl
theorem dX8_readClause_65 : decode cX8_readClause 65 = .ok (.invokevirtual 57, 3) := all_at dvX8_readClause_64 1 rfl
theorem dX8_readClause_68 : decode cX8_readClause 68 = .ok (.ireturn, 1) := all_at dvX8_readClause_64 2 rfl
theorem dX8_readClause_69 : decode cX8_readClause 69 = .ok (.aload_n 0, 1) := all_at dvX8_readClause_64 3 rfl
theorem dX8_readClause_70 : decode cX8_readClause 70 = .ok (.invokevirtual 60, 3) := all_at dvX8_readClause_64 4 rfl
theorem dX8_readClause_73 : decode cX8_readClause 73 = .ok (.ireturn, 1) := all_at dvX8_readClause_64 5 rfl
theorem dX8_readClause_74 : decode cX8_readClause 74 = .ok (.aload_n 0, 1) := all_at dvX8_readClause_64 6 rfl
theorem dX8_readClause_75 : decode cX8_readClause 75 = .ok (.invokevirtual 63, 3) := all_at dvX8_readClause_64 7 rfl
theorem dX8_readClause_78 : decode cX8_readClause 78 = .ok (.ireturn, 1) := all_at dvX8_readClause_64 8 rfl
theorem dX8_readClause_79 : decode cX8_readClause 79 = .ok (.aload_n 0, 1) := all_at dvX8_readClause_64 9 rfl
theorem dX8_readClause_80 : decode cX8_readClause 80 = .ok (.invokevirtual 66, 3) := all_at dvX8_readClause_64 10 rfl
theorem dX8_readClause_83 : decode cX8_readClause 83 = .ok (.ireturn, 1) := all_at dvX8_readClause_64 11 rfl
set_option maxRecDepth 100000 in
theorem dvX8_readLet_0 : ([(0, .aload_n 0, 1), (1, .ldc 69, 2), (3, .invokevirtual 46, 3), (6, .istore_n 1, 1), (7, .iload_n 1, 1), (8, .iconst (-1), 1), (9, .if_icmp .ne 5, 3), (12, .iconst 0, 1), (13, .ireturn, 1), (14, .aload_n 0, 1), (15, .getstatic 71, 3), (18, .iload_n 1, 1), (19, .iaload, 1), (20, .getstatic 75, 3), (23, .iload_n 1, 1), (24, .iaload, 1), (25, .invokevirtual 78, 3), (28, .istore_n 2, 1), (29, .iload_n 2, 1), (30, .iconst (-1), 1), (31, .if_icmp .eq 10, 3), (34, .aload_n 0, 1), (35, .invokevirtual 82, 3), (38, .ifCond .ne 5, 3)] : List (Nat × Instr × Nat)).all (fun q => decide (decode cX8_readLet q.1 = .ok (q.2.1, q.2.2))) = true := by decide +kernel
theorem dX8_readLet_0 : decode cX8_readLet 0 = .ok (.aload_n 0, 1) := all_at dvX8_readLet_0 0 rfl
theorem dX8_readLet_1 : decode cX8_readLet 1 = .ok (.ldc 69, 2) := all_at dvX8_readLet_0 1 rfl
theorem dX8_readLet_3 : decode cX8_readLet 3 = .ok (.invokevirtual 46, 3) := all_at dvX8_readLet_0 2 rfl
theorem dX8_readLet_6 : decode cX8_readLet 6 = .ok (.istore_n 1, 1) := all_at dvX8_readLet_0 3 rfl
theorem dX8_readLet_7 : decode cX8_readLet 7 = .ok (.iload_n 1, 1) := all_at dvX8_readLet_0 4 rfl
theorem dX8_readLet_8 : decode cX8_readLet 8 = .ok (.iconst (-1), 1) := all_at dvX8_readLet_0 5 rfl
theorem dX8_readLet_9 : decode cX8_readLet 9 = .ok (.if_icmp .ne 5, 3) := all_at dvX8_readLet_0 6 rfl
theorem dX8_readLet_12 : decode cX8_readLet 12 = .ok (.iconst 0, 1) := all_at dvX8_readLet_0 7 rfl
theorem dX8_readLet_13 : decode cX8_readLet 13 = .ok (.ireturn, 1) := all_at dvX8_readLet_0 8 rfl
theorem dX8_readLet_14 : decode cX8_readLet 14 = .ok (.aload_n 0, 1) := all_at dvX8_readLet_0 9 rfl
theorem dX8_readLet_15 : decode cX8_readLet 15 = .ok (.getstatic 71, 3) := all_at dvX8_readLet_0 10 rfl
theorem dX8_readLet_18 : decode cX8_readLet 18 = .ok (.iload_n 1, 1) := all_at dvX8_readLet_0 11 rfl
theorem dX8_readLet_19 : decode cX8_readLet 19 = .ok (.iaload, 1) := all_at dvX8_readLet_0 12 rfl
theorem dX8_readLet_20 : decode cX8_readLet 20 = .ok (.getstatic 75, 3) := all_at dvX8_readLet_0 13 rfl
theorem dX8_readLet_23 : decode cX8_readLet 23 = .ok (.iload_n 1, 1) := all_at dvX8_readLet_0 14 rfl
theorem dX8_readLet_24 : decode cX8_readLet 24 = .ok (.iaload, 1) := all_at dvX8_readLet_0 15 rfl
theorem dX8_readLet_25 : decode cX8_readLet 25 = .ok (.invokevirtual 78, 3) := all_at dvX8_readLet_0 16 rfl
theorem dX8_readLet_28 : decode cX8_readLet 28 = .ok (.istore_n 2, 1) := all_at dvX8_readLet_0 17 rfl
theorem dX8_readLet_29 : decode cX8_readLet 29 = .ok (.iload_n 2, 1) := all_at dvX8_readLet_0 18 rfl
theorem dX8_readLet_30 : decode cX8_readLet 30 = .ok (.iconst (-1), 1) := all_at dvX8_readLet_0 19 rfl
theorem dX8_readLet_31 : decode cX8_readLet 31 = .ok (.if_icmp .eq 10, 3) := all_at dvX8_readLet_0 20 rfl
theorem dX8_readLet_34 : decode cX8_readLet 34 = .ok (.aload_n 0, 1) := all_at dvX8_readLet_0 21 rfl
theorem dX8_readLet_35 : decode cX8_readLet 35 = .ok (.invokevirtual 82, 3) := all_at dvX8_readLet_0 22 rfl
theorem dX8_readLet_38 : decode cX8_readLet 38 = .ok (.ifCond .ne 5, 3) := all_at dvX8_readLet_0 23 rfl
set_option maxRecDepth 100000 in
theorem dvX8_readLet_41 : ([(41, .iconst 0, 1), (42, .ireturn, 1), (43, .aload_n 0, 1), (44, .getfield 28, 3), (47, .iload_n 1, 1), (48, .iload_n 2, 1), (49, .iconst 0, 1), (50, .invokevirtual 85, 3), (53, .iconst 1, 1), (54, .ireturn, 1)] : List (Nat × Instr × Nat)).all (fun q => decide (decode cX8_readLet q.1 = .ok (q.2.1, q.2.2))) = true := by decide +kernel
theorem dX8_readLet_41 : decode cX8_readLet 41 = .ok (.iconst 0, 1) := all_at dvX8_readLet_41 0 rfl
theorem dX8_readLet_42 : decode cX8_readLet 42 = .ok (.ireturn, 1) := all_at dvX8_readLet_41 1 rfl
theorem dX8_readLet_43 : decode cX8_readLet 43 = .ok (.aload_n 0, 1) := all_at dvX8_readLet_41 2 rfl
theorem dX8_readLet_44 : decode cX8_readLet 44 = .ok (.getfield 28, 3) := all_at dvX8_readLet_41 3 rfl
theorem dX8_readLet_47 : decode cX8_readLet 47 = .ok (.iload_n 1, 1) := all_at dvX8_readLet_41 4 rfl
theorem dX8_readLet_48 : decode cX8_readLet 48 = .ok (.iload_n 2, 1) := all_at dvX8_readLet_41 5 rfl
theorem dX8_readLet_49 : decode cX8_readLet 49 = .ok (.iconst 0, 1) := all_at dvX8_readLet_41 6 rfl
theorem dX8_readLet_50 : decode cX8_readLet 50 = .ok (.invokevirtual 85, 3) := all_at dvX8_readLet_41 7 rfl
theorem dX8_readLet_53 : decode cX8_readLet 53 = .ok (.iconst 1, 1) := all_at dvX8_readLet_41 8 rfl
theorem dX8_readLet_54 : decode cX8_readLet 54 = .ok (.ireturn, 1) := all_at dvX8_readLet_41 9 rfl
set_option maxRecDepth 100000 in
theorem dvX8_readName_0 : ([(0, .aload_n 0, 1), (1, .invokevirtual 91, 3), (4, .ifCond .ne 5, 3), (7, .iconst 0, 1), (8, .ireturn, 1), (9, .aload_n 0, 1), (10, .iconst 0, 1), (11, .sipush 9999, 3), (14, .invokevirtual 78, 3), (17, .istore_n 1, 1), (18, .iload_n 1, 1), (19, .iconst (-1), 1), (20, .if_icmp .eq 13, 3), (23, .aload_n 0, 1), (24, .ldc 94, 2), (26, .invokevirtual 46, 3), (29, .iconst (-1), 1), (30, .if_icmp .ne 5, 3), (33, .iconst 0, 1), (34, .ireturn, 1), (35, .aload_n 0, 1), (36, .iload_n 1, 1), (37, .iconst 1, 1), (38, .iadd, 1)] : List (Nat × Instr × Nat)).all (fun q => decide (decode cX8_readName q.1 = .ok (q.2.1, q.2.2))) = true := by decide +kernel
theorem dX8_readName_0 : decode cX8_readName 0 = .ok (.aload_n 0, 1) := all_at dvX8_readName_0 0 rfl
theorem dX8_readName_1 : decode cX8_readName 1 = .ok (.invokevirtual 91, 3) := all_at dvX8_readName_0 1 rfl
theorem dX8_readName_4 : decode cX8_readName 4 = .ok (.ifCond .ne 5, 3) := all_at dvX8_readName_0 2 rfl
theorem dX8_readName_7 : decode cX8_readName 7 = .ok (.iconst 0, 1) := all_at dvX8_readName_0 3 rfl
theorem dX8_readName_8 : decode cX8_readName 8 = .ok (.ireturn, 1) := all_at dvX8_readName_0 4 rfl
theorem dX8_readName_9 : decode cX8_readName 9 = .ok (.aload_n 0, 1) := all_at dvX8_readName_0 5 rfl
theorem dX8_readName_10 : decode cX8_readName 10 = .ok (.iconst 0, 1) := all_at dvX8_readName_0 6 rfl
theorem dX8_readName_11 : decode cX8_readName 11 = .ok (.sipush 9999, 3) := all_at dvX8_readName_0 7 rfl
theorem dX8_readName_14 : decode cX8_readName 14 = .ok (.invokevirtual 78, 3) := all_at dvX8_readName_0 8 rfl
theorem dX8_readName_17 : decode cX8_readName 17 = .ok (.istore_n 1, 1) := all_at dvX8_readName_0 9 rfl
theorem dX8_readName_18 : decode cX8_readName 18 = .ok (.iload_n 1, 1) := all_at dvX8_readName_0 10 rfl
theorem dX8_readName_19 : decode cX8_readName 19 = .ok (.iconst (-1), 1) := all_at dvX8_readName_0 11 rfl
theorem dX8_readName_20 : decode cX8_readName 20 = .ok (.if_icmp .eq 13, 3) := all_at dvX8_readName_0 12 rfl
theorem dX8_readName_23 : decode cX8_readName 23 = .ok (.aload_n 0, 1) := all_at dvX8_readName_0 13 rfl
theorem dX8_readName_24 : decode cX8_readName 24 = .ok (.ldc 94, 2) := all_at dvX8_readName_0 14 rfl
theorem dX8_readName_26 : decode cX8_readName 26 = .ok (.invokevirtual 46, 3) := all_at dvX8_readName_0 15 rfl
theorem dX8_readName_29 : decode cX8_readName 29 = .ok (.iconst (-1), 1) := all_at dvX8_readName_0 16 rfl
theorem dX8_readName_30 : decode cX8_readName 30 = .ok (.if_icmp .ne 5, 3) := all_at dvX8_readName_0 17 rfl
theorem dX8_readName_33 : decode cX8_readName 33 = .ok (.iconst 0, 1) := all_at dvX8_readName_0 18 rfl
theorem dX8_readName_34 : decode cX8_readName 34 = .ok (.ireturn, 1) := all_at dvX8_readName_0 19 rfl
theorem dX8_readName_35 : decode cX8_readName 35 = .ok (.aload_n 0, 1) := all_at dvX8_readName_0 20 rfl
theorem dX8_readName_36 : decode cX8_readName 36 = .ok (.iload_n 1, 1) := all_at dvX8_readName_0 21 rfl
theorem dX8_readName_37 : decode cX8_readName 37 = .ok (.iconst 1, 1) := all_at dvX8_readName_0 22 rfl
theorem dX8_readName_38 : decode cX8_readName 38 = .ok (.iadd, 1) := all_at dvX8_readName_0 23 rfl
set_option maxRecDepth 100000 in
theorem dvX8_readName_39 : ([(39, .sipush 9999, 3), (42, .invokevirtual 78, 3), (45, .istore_n 2, 1), (46, .iload_n 2, 1), (47, .iconst (-1), 1), (48, .if_icmp .eq 10, 3), (51, .aload_n 0, 1), (52, .invokevirtual 82, 3), (55, .ifCond .ne 5, 3), (58, .iconst 0, 1), (59, .ireturn, 1), (60, .aload_n 0, 1), (61, .getfield 28, 3), (64, .bipush 6, 2), (66, .iload_n 1, 1), (67, .iload_n 2, 1), (68, .invokevirtual 85, 3), (71, .iconst 1, 1), (72, .ireturn, 1)] : List (Nat × Instr × Nat)).all (fun q => decide (decode cX8_readName q.1 = .ok (q.2.1, q.2.2))) = true := by decide +kernel
theorem dX8_readName_39 : decode cX8_readName 39 = .ok (.sipush 9999, 3) := all_at dvX8_readName_39 0 rfl
theorem dX8_readName_42 : decode cX8_readName 42 = .ok (.invokevirtual 78, 3) := all_at dvX8_readName_39 1 rfl
theorem dX8_readName_45 : decode cX8_readName 45 = .ok (.istore_n 2, 1) := all_at dvX8_readName_39 2 rfl
theorem dX8_readName_46 : decode cX8_readName 46 = .ok (.iload_n 2, 1) := all_at dvX8_readName_39 3 rfl
theorem dX8_readName_47 : decode cX8_readName 47 = .ok (.iconst (-1), 1) := all_at dvX8_readName_39 4 rfl
theorem dX8_readName_48 : decode cX8_readName 48 = .ok (.if_icmp .eq 10, 3) := all_at dvX8_readName_39 5 rfl
theorem dX8_readName_51 : decode cX8_readName 51 = .ok (.aload_n 0, 1) := all_at dvX8_readName_39 6 rfl
theorem dX8_readName_52 : decode cX8_readName 52 = .ok (.invokevirtual 82, 3) := all_at dvX8_readName_39 7 rfl
theorem dX8_readName_55 : decode cX8_readName 55 = .ok (.ifCond .ne 5, 3) := all_at dvX8_readName_39 8 rfl
theorem dX8_readName_58 : decode cX8_readName 58 = .ok (.iconst 0, 1) := all_at dvX8_readName_39 9 rfl
theorem dX8_readName_59 : decode cX8_readName 59 = .ok (.ireturn, 1) := all_at dvX8_readName_39 10 rfl
theorem dX8_readName_60 : decode cX8_readName 60 = .ok (.aload_n 0, 1) := all_at dvX8_readName_39 11 rfl
theorem dX8_readName_61 : decode cX8_readName 61 = .ok (.getfield 28, 3) := all_at dvX8_readName_39 12 rfl
theorem dX8_readName_64 : decode cX8_readName 64 = .ok (.bipush 6, 2) := all_at dvX8_readName_39 13 rfl
theorem dX8_readName_66 : decode cX8_readName 66 = .ok (.iload_n 1, 1) := all_at dvX8_readName_39 14 rfl
theorem dX8_readName_67 : decode cX8_readName 67 = .ok (.iload_n 2, 1) := all_at dvX8_readName_39 15 rfl
theorem dX8_readName_68 : decode cX8_readName 68 = .ok (.invokevirtual 85, 3) := all_at dvX8_readName_39 16 rfl
theorem dX8_readName_71 : decode cX8_readName 71 = .ok (.iconst 1, 1) := all_at dvX8_readName_39 17 rfl
theorem dX8_readName_72 : decode cX8_readName 72 = .ok (.ireturn, 1) := all_at dvX8_readName_39 18 rfl
set_option maxRecDepth 100000 in
theorem dvX8_readNumber_0 : ([(0, .aload_n 0, 1), (1, .invokevirtual 37, 3), (4, .pop, 1), (5, .aload_n 0, 1), (6, .getfield 25, 3), (9, .istore_n 3, 1), (10, .aload_n 0, 1), (11, .bipush 48, 2), (13, .bipush 57, 2), (15, .invokevirtual 99, 3), (18, .istore 4, 2), (20, .iload 4, 2), (22, .iload_n 3, 1), (23, .if_icmp .ne 12, 3), (26, .aload_n 0, 1), (27, .iconst 1, 1), (28, .iload_n 3, 1), (29, .invokevirtual 53, 3), (32, .pop, 1), (33, .iconst (-1), 1), (34, .ireturn, 1), (35, .iconst 0, 1), (36, .istore 5, 2), (38, .iload_n 3, 1)] : List (Nat × Instr × Nat)).all (fun q => decide (decode cX8_readNumber q.1 = .ok (q.2.1, q.2.2))) = true := by decide +kernel
theorem dX8_readNumber_0 : decode cX8_readNumber 0 = .ok (.aload_n 0, 1) := all_at dvX8_readNumber_0 0 rfl
theorem dX8_readNumber_1 : decode cX8_readNumber 1 = .ok (.invokevirtual 37, 3) := all_at dvX8_readNumber_0 1 rfl
theorem dX8_readNumber_4 : decode cX8_readNumber 4 = .ok (.pop, 1) := all_at dvX8_readNumber_0 2 rfl
theorem dX8_readNumber_5 : decode cX8_readNumber 5 = .ok (.aload_n 0, 1) := all_at dvX8_readNumber_0 3 rfl
theorem dX8_readNumber_6 : decode cX8_readNumber 6 = .ok (.getfield 25, 3) := all_at dvX8_readNumber_0 4 rfl
theorem dX8_readNumber_9 : decode cX8_readNumber 9 = .ok (.istore_n 3, 1) := all_at dvX8_readNumber_0 5 rfl
theorem dX8_readNumber_10 : decode cX8_readNumber 10 = .ok (.aload_n 0, 1) := all_at dvX8_readNumber_0 6 rfl
theorem dX8_readNumber_11 : decode cX8_readNumber 11 = .ok (.bipush 48, 2) := all_at dvX8_readNumber_0 7 rfl
theorem dX8_readNumber_13 : decode cX8_readNumber 13 = .ok (.bipush 57, 2) := all_at dvX8_readNumber_0 8 rfl
theorem dX8_readNumber_15 : decode cX8_readNumber 15 = .ok (.invokevirtual 99, 3) := all_at dvX8_readNumber_0 9 rfl
theorem dX8_readNumber_18 : decode cX8_readNumber 18 = .ok (.istore 4, 2) := all_at dvX8_readNumber_0 10 rfl
theorem dX8_readNumber_20 : decode cX8_readNumber 20 = .ok (.iload 4, 2) := all_at dvX8_readNumber_0 11 rfl
theorem dX8_readNumber_22 : decode cX8_readNumber 22 = .ok (.iload_n 3, 1) := all_at dvX8_readNumber_0 12 rfl
theorem dX8_readNumber_23 : decode cX8_readNumber 23 = .ok (.if_icmp .ne 12, 3) := all_at dvX8_readNumber_0 13 rfl
theorem dX8_readNumber_26 : decode cX8_readNumber 26 = .ok (.aload_n 0, 1) := all_at dvX8_readNumber_0 14 rfl
theorem dX8_readNumber_27 : decode cX8_readNumber 27 = .ok (.iconst 1, 1) := all_at dvX8_readNumber_0 15 rfl
theorem dX8_readNumber_28 : decode cX8_readNumber 28 = .ok (.iload_n 3, 1) := all_at dvX8_readNumber_0 16 rfl
theorem dX8_readNumber_29 : decode cX8_readNumber 29 = .ok (.invokevirtual 53, 3) := all_at dvX8_readNumber_0 17 rfl
theorem dX8_readNumber_32 : decode cX8_readNumber 32 = .ok (.pop, 1) := all_at dvX8_readNumber_0 18 rfl
theorem dX8_readNumber_33 : decode cX8_readNumber 33 = .ok (.iconst (-1), 1) := all_at dvX8_readNumber_0 19 rfl
theorem dX8_readNumber_34 : decode cX8_readNumber 34 = .ok (.ireturn, 1) := all_at dvX8_readNumber_0 20 rfl
theorem dX8_readNumber_35 : decode cX8_readNumber 35 = .ok (.iconst 0, 1) := all_at dvX8_readNumber_0 21 rfl
theorem dX8_readNumber_36 : decode cX8_readNumber 36 = .ok (.istore 5, 2) := all_at dvX8_readNumber_0 22 rfl
theorem dX8_readNumber_38 : decode cX8_readNumber 38 = .ok (.iload_n 3, 1) := all_at dvX8_readNumber_0 23 rfl
set_option maxRecDepth 100000 in
theorem dvX8_readNumber_39 : ([(39, .istore 6, 2), (41, .iload 6, 2), (43, .iload 4, 2), (45, .if_icmp .ge 35, 3), (48, .iload 6, 2), (50, .iload_n 3, 1), (51, .iconst 4, 1), (52, .iadd, 1), (53, .if_icmp .ge 27, 3), (56, .bipush 10, 2), (58, .iload 5, 2), (60, .imul, 1), (61, .aload_n 0, 1), (62, .getfield 11, 3), (65, .iload 6, 2), (67, .baload, 1), (68, .bipush 48, 2), (70, .isub, 1), (71, .iadd, 1), (72, .istore 5, 2), (74, .iinc 6 1, 3), (77, .goto (-36), 3), (80, .iload 4, 2), (82, .iload_n 3, 1)] : List (Nat × Instr × Nat)).all (fun q => decide (decode cX8_readNumber q.1 = .ok (q.2.1, q.2.2))) = true := by decide +kernel
theorem dX8_readNumber_39 : decode cX8_readNumber 39 = .ok (.istore 6, 2) := all_at dvX8_readNumber_39 0 rfl
theorem dX8_readNumber_41 : decode cX8_readNumber 41 = .ok (.iload 6, 2) := all_at dvX8_readNumber_39 1 rfl
theorem dX8_readNumber_43 : decode cX8_readNumber 43 = .ok (.iload 4, 2) := all_at dvX8_readNumber_39 2 rfl
theorem dX8_readNumber_45 : decode cX8_readNumber 45 = .ok (.if_icmp .ge 35, 3) := all_at dvX8_readNumber_39 3 rfl
theorem dX8_readNumber_48 : decode cX8_readNumber 48 = .ok (.iload 6, 2) := all_at dvX8_readNumber_39 4 rfl
theorem dX8_readNumber_50 : decode cX8_readNumber 50 = .ok (.iload_n 3, 1) := all_at dvX8_readNumber_39 5 rfl
theorem dX8_readNumber_51 : decode cX8_readNumber 51 = .ok (.iconst 4, 1) := all_at dvX8_readNumber_39 6 rfl
theorem dX8_readNumber_52 : decode cX8_readNumber 52 = .ok (.iadd, 1) := all_at dvX8_readNumber_39 7 rfl
theorem dX8_readNumber_53 : decode cX8_readNumber 53 = .ok (.if_icmp .ge 27, 3) := all_at dvX8_readNumber_39 8 rfl
theorem dX8_readNumber_56 : decode cX8_readNumber 56 = .ok (.bipush 10, 2) := all_at dvX8_readNumber_39 9 rfl
theorem dX8_readNumber_58 : decode cX8_readNumber 58 = .ok (.iload 5, 2) := all_at dvX8_readNumber_39 10 rfl
theorem dX8_readNumber_60 : decode cX8_readNumber 60 = .ok (.imul, 1) := all_at dvX8_readNumber_39 11 rfl
theorem dX8_readNumber_61 : decode cX8_readNumber 61 = .ok (.aload_n 0, 1) := all_at dvX8_readNumber_39 12 rfl
theorem dX8_readNumber_62 : decode cX8_readNumber 62 = .ok (.getfield 11, 3) := all_at dvX8_readNumber_39 13 rfl
theorem dX8_readNumber_65 : decode cX8_readNumber 65 = .ok (.iload 6, 2) := all_at dvX8_readNumber_39 14 rfl
theorem dX8_readNumber_67 : decode cX8_readNumber 67 = .ok (.baload, 1) := all_at dvX8_readNumber_39 15 rfl
theorem dX8_readNumber_68 : decode cX8_readNumber 68 = .ok (.bipush 48, 2) := all_at dvX8_readNumber_39 16 rfl
theorem dX8_readNumber_70 : decode cX8_readNumber 70 = .ok (.isub, 1) := all_at dvX8_readNumber_39 17 rfl
theorem dX8_readNumber_71 : decode cX8_readNumber 71 = .ok (.iadd, 1) := all_at dvX8_readNumber_39 18 rfl
theorem dX8_readNumber_72 : decode cX8_readNumber 72 = .ok (.istore 5, 2) := all_at dvX8_readNumber_39 19 rfl
theorem dX8_readNumber_74 : decode cX8_readNumber 74 = .ok (.iinc 6 1, 3) := all_at dvX8_readNumber_39 20 rfl
theorem dX8_readNumber_77 : decode cX8_readNumber 77 = .ok (.goto (-36), 3) := all_at dvX8_readNumber_39 21 rfl
theorem dX8_readNumber_80 : decode cX8_readNumber 80 = .ok (.iload 4, 2) := all_at dvX8_readNumber_39 22 rfl
theorem dX8_readNumber_82 : decode cX8_readNumber 82 = .ok (.iload_n 3, 1) := all_at dvX8_readNumber_39 23 rfl
set_option maxRecDepth 100000 in
theorem dvX8_readNumber_83 : ([(83, .isub, 1), (84, .iconst 4, 1), (85, .if_icmp .gt 13, 3), (88, .iload 5, 2), (90, .iload_n 1, 1), (91, .iload_n 2, 1), (92, .invokestatic 120, 3), (95, .ifCond .ne 12, 3), (98, .aload_n 0, 1), (99, .iconst 2, 1), (100, .iload_n 3, 1), (101, .invokevirtual 53, 3), (104, .pop, 1), (105, .iconst (-1), 1), (106, .ireturn, 1), (107, .aload_n 0, 1), (108, .iload 4, 2), (110, .putfield 25, 3), (113, .iload 5, 2), (115, .ireturn, 1)] : List (Nat × Instr × Nat)).all (fun q => decide (decode cX8_readNumber q.1 = .ok (q.2.1, q.2.2))) = true := by decide +kernel
theorem dX8_readNumber_83 : decode cX8_readNumber 83 = .ok (.isub, 1) := all_at dvX8_readNumber_83 0 rfl
theorem dX8_readNumber_84 : decode cX8_readNumber 84 = .ok (.iconst 4, 1) := all_at dvX8_readNumber_83 1 rfl
theorem dX8_readNumber_85 : decode cX8_readNumber 85 = .ok (.if_icmp .gt 13, 3) := all_at dvX8_readNumber_83 2 rfl
theorem dX8_readNumber_88 : decode cX8_readNumber 88 = .ok (.iload 5, 2) := all_at dvX8_readNumber_83 3 rfl
theorem dX8_readNumber_90 : decode cX8_readNumber 90 = .ok (.iload_n 1, 1) := all_at dvX8_readNumber_83 4 rfl
theorem dX8_readNumber_91 : decode cX8_readNumber 91 = .ok (.iload_n 2, 1) := all_at dvX8_readNumber_83 5 rfl
theorem dX8_readNumber_92 : decode cX8_readNumber 92 = .ok (.invokestatic 120, 3) := all_at dvX8_readNumber_83 6 rfl
theorem dX8_readNumber_95 : decode cX8_readNumber 95 = .ok (.ifCond .ne 12, 3) := all_at dvX8_readNumber_83 7 rfl
theorem dX8_readNumber_98 : decode cX8_readNumber 98 = .ok (.aload_n 0, 1) := all_at dvX8_readNumber_83 8 rfl
theorem dX8_readNumber_99 : decode cX8_readNumber 99 = .ok (.iconst 2, 1) := all_at dvX8_readNumber_83 9 rfl
theorem dX8_readNumber_100 : decode cX8_readNumber 100 = .ok (.iload_n 3, 1) := all_at dvX8_readNumber_83 10 rfl
theorem dX8_readNumber_101 : decode cX8_readNumber 101 = .ok (.invokevirtual 53, 3) := all_at dvX8_readNumber_83 11 rfl
theorem dX8_readNumber_104 : decode cX8_readNumber 104 = .ok (.pop, 1) := all_at dvX8_readNumber_83 12 rfl
theorem dX8_readNumber_105 : decode cX8_readNumber 105 = .ok (.iconst (-1), 1) := all_at dvX8_readNumber_83 13 rfl
theorem dX8_readNumber_106 : decode cX8_readNumber 106 = .ok (.ireturn, 1) := all_at dvX8_readNumber_83 14 rfl
theorem dX8_readNumber_107 : decode cX8_readNumber 107 = .ok (.aload_n 0, 1) := all_at dvX8_readNumber_83 15 rfl
theorem dX8_readNumber_108 : decode cX8_readNumber 108 = .ok (.iload 4, 2) := all_at dvX8_readNumber_83 16 rfl
theorem dX8_readNumber_110 : decode cX8_readNumber 110 = .ok (.putfield 25, 3) := all_at dvX8_readNumber_83 17 rfl
theorem dX8_readNumber_113 : decode cX8_readNumber 113 = .ok (.iload 5, 2) := all_at dvX8_readNumber_83 18 rfl
theorem dX8_readNumber_115 : decode cX8_readNumber 115 = .ok (.ireturn, 1) := all_at dvX8_readNumber_83 19 rfl
set_option maxRecDepth 100000 in
theorem dvX8_readStop_0 : ([(0, .aload_n 0, 1), (1, .invokevirtual 37, 3), (4, .ifCond .eq 17, 3), (7, .aload_n 0, 1), (8, .getfield 11, 3), (11, .aload_n 0, 1), (12, .getfield 25, 3), (15, .baload, 1), (16, .bipush 59, 2), (18, .if_icmp .eq 13, 3), (21, .aload_n 0, 1), (22, .iconst 1, 1), (23, .aload_n 0, 1), (24, .getfield 25, 3), (27, .invokevirtual 53, 3), (30, .ireturn, 1), (31, .aload_n 0, 1), (32, .dup, 1), (33, .getfield 25, 3), (36, .iconst 1, 1), (37, .iadd, 1), (38, .putfield 25, 3), (41, .iconst 1, 1), (42, .ireturn, 1)] : List (Nat × Instr × Nat)).all (fun q => decide (decode cX8_readStop q.1 = .ok (q.2.1, q.2.2))) = true := by decide +kernel
theorem dX8_readStop_0 : decode cX8_readStop 0 = .ok (.aload_n 0, 1) := all_at dvX8_readStop_0 0 rfl
theorem dX8_readStop_1 : decode cX8_readStop 1 = .ok (.invokevirtual 37, 3) := all_at dvX8_readStop_0 1 rfl
theorem dX8_readStop_4 : decode cX8_readStop 4 = .ok (.ifCond .eq 17, 3) := all_at dvX8_readStop_0 2 rfl
theorem dX8_readStop_7 : decode cX8_readStop 7 = .ok (.aload_n 0, 1) := all_at dvX8_readStop_0 3 rfl
theorem dX8_readStop_8 : decode cX8_readStop 8 = .ok (.getfield 11, 3) := all_at dvX8_readStop_0 4 rfl
theorem dX8_readStop_11 : decode cX8_readStop 11 = .ok (.aload_n 0, 1) := all_at dvX8_readStop_0 5 rfl
theorem dX8_readStop_12 : decode cX8_readStop 12 = .ok (.getfield 25, 3) := all_at dvX8_readStop_0 6 rfl
theorem dX8_readStop_15 : decode cX8_readStop 15 = .ok (.baload, 1) := all_at dvX8_readStop_0 7 rfl
theorem dX8_readStop_16 : decode cX8_readStop 16 = .ok (.bipush 59, 2) := all_at dvX8_readStop_0 8 rfl
theorem dX8_readStop_18 : decode cX8_readStop 18 = .ok (.if_icmp .eq 13, 3) := all_at dvX8_readStop_0 9 rfl
theorem dX8_readStop_21 : decode cX8_readStop 21 = .ok (.aload_n 0, 1) := all_at dvX8_readStop_0 10 rfl
theorem dX8_readStop_22 : decode cX8_readStop 22 = .ok (.iconst 1, 1) := all_at dvX8_readStop_0 11 rfl
theorem dX8_readStop_23 : decode cX8_readStop 23 = .ok (.aload_n 0, 1) := all_at dvX8_readStop_0 12 rfl
theorem dX8_readStop_24 : decode cX8_readStop 24 = .ok (.getfield 25, 3) := all_at dvX8_readStop_0 13 rfl
theorem dX8_readStop_27 : decode cX8_readStop 27 = .ok (.invokevirtual 53, 3) := all_at dvX8_readStop_0 14 rfl
theorem dX8_readStop_30 : decode cX8_readStop 30 = .ok (.ireturn, 1) := all_at dvX8_readStop_0 15 rfl
theorem dX8_readStop_31 : decode cX8_readStop 31 = .ok (.aload_n 0, 1) := all_at dvX8_readStop_0 16 rfl
theorem dX8_readStop_32 : decode cX8_readStop 32 = .ok (.dup, 1) := all_at dvX8_readStop_0 17 rfl
theorem dX8_readStop_33 : decode cX8_readStop 33 = .ok (.getfield 25, 3) := all_at dvX8_readStop_0 18 rfl
theorem dX8_readStop_36 : decode cX8_readStop 36 = .ok (.iconst 1, 1) := all_at dvX8_readStop_0 19 rfl
theorem dX8_readStop_37 : decode cX8_readStop 37 = .ok (.iadd, 1) := all_at dvX8_readStop_0 20 rfl
theorem dX8_readStop_38 : decode cX8_readStop 38 = .ok (.putfield 25, 3) := all_at dvX8_readStop_0 21 rfl
theorem dX8_readStop_41 : decode cX8_readStop 41 = .ok (.iconst 1, 1) := all_at dvX8_readStop_0 22 rfl
theorem dX8_readStop_42 : decode cX8_readStop 42 = .ok (.ireturn, 1) := all_at dvX8_readStop_0 23 rfl
set_option maxRecDepth 100000 in
theorem dvX8_readStrike_0 : ([(0, .aload_n 0, 1), (1, .invokevirtual 37, 3), (4, .pop, 1), (5, .aload_n 0, 1), (6, .getfield 25, 3), (9, .istore_n 1, 1), (10, .aload_n 0, 1), (11, .iconst 0, 1), (12, .sipush 9999, 3), (15, .invokevirtual 78, 3), (18, .istore_n 2, 1), (19, .iload_n 2, 1), (20, .iconst (-1), 1), (21, .if_icmp .ne 5, 3), (24, .iconst 0, 1), (25, .ireturn, 1), (26, .iload_n 2, 1), (27, .aload_n 0, 1), (28, .getfield 28, 3), (31, .getfield 96, 3), (34, .if_icmp .lt 10, 3), (37, .aload_n 0, 1), (38, .iconst 3, 1), (39, .iload_n 1, 1)] : List (Nat × Instr × Nat)).all (fun q => decide (decode cX8_readStrike q.1 = .ok (q.2.1, q.2.2))) = true := by decide +kernel
theorem dX8_readStrike_0 : decode cX8_readStrike 0 = .ok (.aload_n 0, 1) := all_at dvX8_readStrike_0 0 rfl
theorem dX8_readStrike_1 : decode cX8_readStrike 1 = .ok (.invokevirtual 37, 3) := all_at dvX8_readStrike_0 1 rfl
theorem dX8_readStrike_4 : decode cX8_readStrike 4 = .ok (.pop, 1) := all_at dvX8_readStrike_0 2 rfl
theorem dX8_readStrike_5 : decode cX8_readStrike 5 = .ok (.aload_n 0, 1) := all_at dvX8_readStrike_0 3 rfl
theorem dX8_readStrike_6 : decode cX8_readStrike 6 = .ok (.getfield 25, 3) := all_at dvX8_readStrike_0 4 rfl
theorem dX8_readStrike_9 : decode cX8_readStrike 9 = .ok (.istore_n 1, 1) := all_at dvX8_readStrike_0 5 rfl
theorem dX8_readStrike_10 : decode cX8_readStrike 10 = .ok (.aload_n 0, 1) := all_at dvX8_readStrike_0 6 rfl
theorem dX8_readStrike_11 : decode cX8_readStrike 11 = .ok (.iconst 0, 1) := all_at dvX8_readStrike_0 7 rfl
theorem dX8_readStrike_12 : decode cX8_readStrike 12 = .ok (.sipush 9999, 3) := all_at dvX8_readStrike_0 8 rfl
theorem dX8_readStrike_15 : decode cX8_readStrike 15 = .ok (.invokevirtual 78, 3) := all_at dvX8_readStrike_0 9 rfl
theorem dX8_readStrike_18 : decode cX8_readStrike 18 = .ok (.istore_n 2, 1) := all_at dvX8_readStrike_0 10 rfl
theorem dX8_readStrike_19 : decode cX8_readStrike 19 = .ok (.iload_n 2, 1) := all_at dvX8_readStrike_0 11 rfl
theorem dX8_readStrike_20 : decode cX8_readStrike 20 = .ok (.iconst (-1), 1) := all_at dvX8_readStrike_0 12 rfl
theorem dX8_readStrike_21 : decode cX8_readStrike 21 = .ok (.if_icmp .ne 5, 3) := all_at dvX8_readStrike_0 13 rfl
theorem dX8_readStrike_24 : decode cX8_readStrike 24 = .ok (.iconst 0, 1) := all_at dvX8_readStrike_0 14 rfl
theorem dX8_readStrike_25 : decode cX8_readStrike 25 = .ok (.ireturn, 1) := all_at dvX8_readStrike_0 15 rfl
theorem dX8_readStrike_26 : decode cX8_readStrike 26 = .ok (.iload_n 2, 1) := all_at dvX8_readStrike_0 16 rfl
theorem dX8_readStrike_27 : decode cX8_readStrike 27 = .ok (.aload_n 0, 1) := all_at dvX8_readStrike_0 17 rfl
theorem dX8_readStrike_28 : decode cX8_readStrike 28 = .ok (.getfield 28, 3) := all_at dvX8_readStrike_0 18 rfl
theorem dX8_readStrike_31 : decode cX8_readStrike 31 = .ok (.getfield 96, 3) := all_at dvX8_readStrike_0 19 rfl
theorem dX8_readStrike_34 : decode cX8_readStrike 34 = .ok (.if_icmp .lt 10, 3) := all_at dvX8_readStrike_0 20 rfl
theorem dX8_readStrike_37 : decode cX8_readStrike 37 = .ok (.aload_n 0, 1) := all_at dvX8_readStrike_0 21 rfl
theorem dX8_readStrike_38 : decode cX8_readStrike 38 = .ok (.iconst 3, 1) := all_at dvX8_readStrike_0 22 rfl
theorem dX8_readStrike_39 : decode cX8_readStrike 39 = .ok (.iload_n 1, 1) := all_at dvX8_readStrike_0 23 rfl
set_option maxRecDepth 100000 in
theorem dvX8_readStrike_40 : ([(40, .invokevirtual 53, 3), (43, .ireturn, 1), (44, .aload_n 0, 1), (45, .invokevirtual 82, 3), (48, .ifCond .ne 5, 3), (51, .iconst 0, 1), (52, .ireturn, 1), (53, .aload_n 0, 1), (54, .getfield 28, 3), (57, .bipush 7, 2), (59, .iload_n 2, 1), (60, .iconst 0, 1), (61, .invokevirtual 85, 3), (64, .iconst 1, 1), (65, .ireturn, 1)] : List (Nat × Instr × Nat)).all (fun q => decide (decode cX8_readStrike q.1 = .ok (q.2.1, q.2.2))) = true := by decide +kernel
theorem dX8_readStrike_40 : decode cX8_readStrike 40 = .ok (.invokevirtual 53, 3) := all_at dvX8_readStrike_40 0 rfl
theorem dX8_readStrike_43 : decode cX8_readStrike 43 = .ok (.ireturn, 1) := all_at dvX8_readStrike_40 1 rfl
theorem dX8_readStrike_44 : decode cX8_readStrike 44 = .ok (.aload_n 0, 1) := all_at dvX8_readStrike_40 2 rfl
theorem dX8_readStrike_45 : decode cX8_readStrike 45 = .ok (.invokevirtual 82, 3) := all_at dvX8_readStrike_40 3 rfl
theorem dX8_readStrike_48 : decode cX8_readStrike 48 = .ok (.ifCond .ne 5, 3) := all_at dvX8_readStrike_40 4 rfl
theorem dX8_readStrike_51 : decode cX8_readStrike 51 = .ok (.iconst 0, 1) := all_at dvX8_readStrike_40 5 rfl
theorem dX8_readStrike_52 : decode cX8_readStrike 52 = .ok (.ireturn, 1) := all_at dvX8_readStrike_40 6 rfl
theorem dX8_readStrike_53 : decode cX8_readStrike 53 = .ok (.aload_n 0, 1) := all_at dvX8_readStrike_40 7 rfl
theorem dX8_readStrike_54 : decode cX8_readStrike 54 = .ok (.getfield 28, 3) := all_at dvX8_readStrike_40 8 rfl
theorem dX8_readStrike_57 : decode cX8_readStrike 57 = .ok (.bipush 7, 2) := all_at dvX8_readStrike_40 9 rfl
theorem dX8_readStrike_59 : decode cX8_readStrike 59 = .ok (.iload_n 2, 1) := all_at dvX8_readStrike_40 10 rfl
theorem dX8_readStrike_60 : decode cX8_readStrike 60 = .ok (.iconst 0, 1) := all_at dvX8_readStrike_40 11 rfl
theorem dX8_readStrike_61 : decode cX8_readStrike 61 = .ok (.invokevirtual 85, 3) := all_at dvX8_readStrike_40 12 rfl
theorem dX8_readStrike_64 : decode cX8_readStrike 64 = .ok (.iconst 1, 1) := all_at dvX8_readStrike_40 13 rfl
theorem dX8_readStrike_65 : decode cX8_readStrike 65 = .ok (.ireturn, 1) := all_at dvX8_readStrike_40 14 rfl
set_option maxRecDepth 100000 in
theorem dvX8_readTake_0 : ([(0, .aload_n 0, 1), (1, .ldc 89, 2), (3, .invokevirtual 46, 3), (6, .istore_n 1, 1), (7, .iload_n 1, 1), (8, .iconst (-1), 1), (9, .if_icmp .eq 10, 3), (12, .aload_n 0, 1), (13, .invokevirtual 82, 3), (16, .ifCond .ne 5, 3), (19, .iconst 0, 1), (20, .ireturn, 1), (21, .aload_n 0, 1), (22, .getfield 28, 3), (25, .iconst 5, 1), (26, .iload_n 1, 1), (27, .iconst 0, 1), (28, .invokevirtual 85, 3), (31, .iconst 1, 1), (32, .ireturn, 1)] : List (Nat × Instr × Nat)).all (fun q => decide (decode cX8_readTake q.1 = .ok (q.2.1, q.2.2))) = true := by decide +kernel
theorem dX8_readTake_0 : decode cX8_readTake 0 = .ok (.aload_n 0, 1) := all_at dvX8_readTake_0 0 rfl
theorem dX8_readTake_1 : decode cX8_readTake 1 = .ok (.ldc 89, 2) := all_at dvX8_readTake_0 1 rfl
theorem dX8_readTake_3 : decode cX8_readTake 3 = .ok (.invokevirtual 46, 3) := all_at dvX8_readTake_0 2 rfl
theorem dX8_readTake_6 : decode cX8_readTake 6 = .ok (.istore_n 1, 1) := all_at dvX8_readTake_0 3 rfl
theorem dX8_readTake_7 : decode cX8_readTake 7 = .ok (.iload_n 1, 1) := all_at dvX8_readTake_0 4 rfl
theorem dX8_readTake_8 : decode cX8_readTake 8 = .ok (.iconst (-1), 1) := all_at dvX8_readTake_0 5 rfl
theorem dX8_readTake_9 : decode cX8_readTake 9 = .ok (.if_icmp .eq 10, 3) := all_at dvX8_readTake_0 6 rfl
theorem dX8_readTake_12 : decode cX8_readTake 12 = .ok (.aload_n 0, 1) := all_at dvX8_readTake_0 7 rfl
theorem dX8_readTake_13 : decode cX8_readTake 13 = .ok (.invokevirtual 82, 3) := all_at dvX8_readTake_0 8 rfl
theorem dX8_readTake_16 : decode cX8_readTake 16 = .ok (.ifCond .ne 5, 3) := all_at dvX8_readTake_0 9 rfl
theorem dX8_readTake_19 : decode cX8_readTake 19 = .ok (.iconst 0, 1) := all_at dvX8_readTake_0 10 rfl
theorem dX8_readTake_20 : decode cX8_readTake 20 = .ok (.ireturn, 1) := all_at dvX8_readTake_0 11 rfl
theorem dX8_readTake_21 : decode cX8_readTake 21 = .ok (.aload_n 0, 1) := all_at dvX8_readTake_0 12 rfl
theorem dX8_readTake_22 : decode cX8_readTake 22 = .ok (.getfield 28, 3) := all_at dvX8_readTake_0 13 rfl
theorem dX8_readTake_25 : decode cX8_readTake 25 = .ok (.iconst 5, 1) := all_at dvX8_readTake_0 14 rfl
theorem dX8_readTake_26 : decode cX8_readTake 26 = .ok (.iload_n 1, 1) := all_at dvX8_readTake_0 15 rfl
theorem dX8_readTake_27 : decode cX8_readTake 27 = .ok (.iconst 0, 1) := all_at dvX8_readTake_0 16 rfl
theorem dX8_readTake_28 : decode cX8_readTake 28 = .ok (.invokevirtual 85, 3) := all_at dvX8_readTake_0 17 rfl
theorem dX8_readTake_31 : decode cX8_readTake 31 = .ok (.iconst 1, 1) := all_at dvX8_readTake_0 18 rfl
theorem dX8_readTake_32 : decode cX8_readTake 32 = .ok (.ireturn, 1) := all_at dvX8_readTake_0 19 rfl
set_option maxRecDepth 100000 in
theorem dvX8_readWord_0 : ([(0, .aload_n 0, 1), (1, .invokevirtual 37, 3), (4, .pop, 1), (5, .aload_n 0, 1), (6, .bipush 97, 2), (8, .bipush 122, 2), (10, .invokevirtual 99, 3), (13, .istore_n 1, 1), (14, .iload_n 1, 1), (15, .aload_n 0, 1), (16, .getfield 25, 3), (19, .if_icmp .ne 13, 3), (22, .aload_n 0, 1), (23, .iconst 1, 1), (24, .aload_n 0, 1), (25, .getfield 25, 3), (28, .invokevirtual 53, 3), (31, .ireturn, 1), (32, .iload_n 1, 1), (33, .aload_n 0, 1), (34, .getfield 25, 3), (37, .isub, 1), (38, .bipush 8, 2), (40, .if_icmp .le 13, 3)] : List (Nat × Instr × Nat)).all (fun q => decide (decode cX8_readWord q.1 = .ok (q.2.1, q.2.2))) = true := by decide +kernel
theorem dX8_readWord_0 : decode cX8_readWord 0 = .ok (.aload_n 0, 1) := all_at dvX8_readWord_0 0 rfl
theorem dX8_readWord_1 : decode cX8_readWord 1 = .ok (.invokevirtual 37, 3) := all_at dvX8_readWord_0 1 rfl
theorem dX8_readWord_4 : decode cX8_readWord 4 = .ok (.pop, 1) := all_at dvX8_readWord_0 2 rfl
theorem dX8_readWord_5 : decode cX8_readWord 5 = .ok (.aload_n 0, 1) := all_at dvX8_readWord_0 3 rfl
theorem dX8_readWord_6 : decode cX8_readWord 6 = .ok (.bipush 97, 2) := all_at dvX8_readWord_0 4 rfl
theorem dX8_readWord_8 : decode cX8_readWord 8 = .ok (.bipush 122, 2) := all_at dvX8_readWord_0 5 rfl
theorem dX8_readWord_10 : decode cX8_readWord 10 = .ok (.invokevirtual 99, 3) := all_at dvX8_readWord_0 6 rfl
theorem dX8_readWord_13 : decode cX8_readWord 13 = .ok (.istore_n 1, 1) := all_at dvX8_readWord_0 7 rfl
theorem dX8_readWord_14 : decode cX8_readWord 14 = .ok (.iload_n 1, 1) := all_at dvX8_readWord_0 8 rfl
theorem dX8_readWord_15 : decode cX8_readWord 15 = .ok (.aload_n 0, 1) := all_at dvX8_readWord_0 9 rfl
theorem dX8_readWord_16 : decode cX8_readWord 16 = .ok (.getfield 25, 3) := all_at dvX8_readWord_0 10 rfl
theorem dX8_readWord_19 : decode cX8_readWord 19 = .ok (.if_icmp .ne 13, 3) := all_at dvX8_readWord_0 11 rfl
theorem dX8_readWord_22 : decode cX8_readWord 22 = .ok (.aload_n 0, 1) := all_at dvX8_readWord_0 12 rfl
theorem dX8_readWord_23 : decode cX8_readWord 23 = .ok (.iconst 1, 1) := all_at dvX8_readWord_0 13 rfl
theorem dX8_readWord_24 : decode cX8_readWord 24 = .ok (.aload_n 0, 1) := all_at dvX8_readWord_0 14 rfl
theorem dX8_readWord_25 : decode cX8_readWord 25 = .ok (.getfield 25, 3) := all_at dvX8_readWord_0 15 rfl
theorem dX8_readWord_28 : decode cX8_readWord 28 = .ok (.invokevirtual 53, 3) := all_at dvX8_readWord_0 16 rfl
theorem dX8_readWord_31 : decode cX8_readWord 31 = .ok (.ireturn, 1) := all_at dvX8_readWord_0 17 rfl
theorem dX8_readWord_32 : decode cX8_readWord 32 = .ok (.iload_n 1, 1) := all_at dvX8_readWord_0 18 rfl
theorem dX8_readWord_33 : decode cX8_readWord 33 = .ok (.aload_n 0, 1) := all_at dvX8_readWord_0 19 rfl
theorem dX8_readWord_34 : decode cX8_readWord 34 = .ok (.getfield 25, 3) := all_at dvX8_readWord_0 20 rfl
theorem dX8_readWord_37 : decode cX8_readWord 37 = .ok (.isub, 1) := all_at dvX8_readWord_0 21 rfl
theorem dX8_readWord_38 : decode cX8_readWord 38 = .ok (.bipush 8, 2) := all_at dvX8_readWord_0 22 rfl
theorem dX8_readWord_40 : decode cX8_readWord 40 = .ok (.if_icmp .le 13, 3) := all_at dvX8_readWord_0 23 rfl
set_option maxRecDepth 100000 in
theorem dvX8_readWord_43 : ([(43, .aload_n 0, 1), (44, .iconst 4, 1), (45, .aload_n 0, 1), (46, .getfield 25, 3), (49, .invokevirtual 53, 3), (52, .ireturn, 1), (53, .aload_n 0, 1), (54, .getfield 28, 3), (57, .aload_n 0, 1), (58, .getfield 11, 3), (61, .aload_n 0, 1), (62, .getfield 25, 3), (65, .iload_n 1, 1), (66, .invokevirtual 103, 3), (69, .aload_n 0, 1), (70, .iload_n 1, 1), (71, .putfield 25, 3), (74, .iconst 1, 1), (75, .ireturn, 1)] : List (Nat × Instr × Nat)).all (fun q => decide (decode cX8_readWord q.1 = .ok (q.2.1, q.2.2))) = true := by decide +kernel
theorem dX8_readWord_43 : decode cX8_readWord 43 = .ok (.aload_n 0, 1) := all_at dvX8_readWord_43 0 rfl
theorem dX8_readWord_44 : decode cX8_readWord 44 = .ok (.iconst 4, 1) := all_at dvX8_readWord_43 1 rfl
theorem dX8_readWord_45 : decode cX8_readWord 45 = .ok (.aload_n 0, 1) := all_at dvX8_readWord_43 2 rfl
theorem dX8_readWord_46 : decode cX8_readWord 46 = .ok (.getfield 25, 3) := all_at dvX8_readWord_43 3 rfl
theorem dX8_readWord_49 : decode cX8_readWord 49 = .ok (.invokevirtual 53, 3) := all_at dvX8_readWord_43 4 rfl
theorem dX8_readWord_52 : decode cX8_readWord 52 = .ok (.ireturn, 1) := all_at dvX8_readWord_43 5 rfl
theorem dX8_readWord_53 : decode cX8_readWord 53 = .ok (.aload_n 0, 1) := all_at dvX8_readWord_43 6 rfl
theorem dX8_readWord_54 : decode cX8_readWord 54 = .ok (.getfield 28, 3) := all_at dvX8_readWord_43 7 rfl
theorem dX8_readWord_57 : decode cX8_readWord 57 = .ok (.aload_n 0, 1) := all_at dvX8_readWord_43 8 rfl
theorem dX8_readWord_58 : decode cX8_readWord 58 = .ok (.getfield 11, 3) := all_at dvX8_readWord_43 9 rfl
theorem dX8_readWord_61 : decode cX8_readWord 61 = .ok (.aload_n 0, 1) := all_at dvX8_readWord_43 10 rfl
theorem dX8_readWord_62 : decode cX8_readWord 62 = .ok (.getfield 25, 3) := all_at dvX8_readWord_43 11 rfl
theorem dX8_readWord_65 : decode cX8_readWord 65 = .ok (.iload_n 1, 1) := all_at dvX8_readWord_43 12 rfl
theorem dX8_readWord_66 : decode cX8_readWord 66 = .ok (.invokevirtual 103, 3) := all_at dvX8_readWord_43 13 rfl
theorem dX8_readWord_69 : decode cX8_readWord 69 = .ok (.aload_n 0, 1) := all_at dvX8_readWord_43 14 rfl
theorem dX8_readWord_70 : decode cX8_readWord 70 = .ok (.iload_n 1, 1) := all_at dvX8_readWord_43 15 rfl
theorem dX8_readWord_71 : decode cX8_readWord 71 = .ok (.putfield 25, 3) := all_at dvX8_readWord_43 16 rfl
theorem dX8_readWord_74 : decode cX8_readWord 74 = .ok (.iconst 1, 1) := all_at dvX8_readWord_43 17 rfl
theorem dX8_readWord_75 : decode cX8_readWord 75 = .ok (.ireturn, 1) := all_at dvX8_readWord_43 18 rfl
theorem sw_0_2 (x : Int32) : (x.toInt < 0 ∨ 2 < x.toInt) ∨ x = 0 ∨ x = 1 ∨ x = 2 := by
  by_cases h : x.toInt < 0 ∨ 2 < x.toInt
  · exact Or.inl h
  · right
    have h2 : x.toInt = 0 ∨ x.toInt = 1 ∨ x.toInt = 2 := by omega
    rcases h2 with h2 | h2 | h2
    · exact Or.inl (z_of (by decide) h2)
    · exact Or.inr (Or.inl (z_of (by decide) h2))
    · exact Or.inr (Or.inr (z_of (by decide) h2))
theorem nar01 {x : Int32} (h : 0 ≤ x.toInt ∧ x.toInt ≤ 1) : narrow .boolean (.int x) = .int x := by
  rcases (by omega : x.toInt = 0 ∨ x.toInt = 1) with h | h
  · rw [show x = 0 from z_of (by decide) h]; rfl
  · rw [show x = 1 from z_of (by decide) h]; rfl
