/-! ===== reader2 ===== -/
set_option maxRecDepth 100000 in
theorem m_17 : Cond.selects RX8 yX8_readClause yX8_readClause ∈ tb := tb_in 17 (by decide +kernel) rfl
set_option maxRecDepth 100000 in
theorem m_18 : Cond.selects RX8 yX8_readOneOf yX8_readOneOf ∈ tb := tb_in 18 (by decide +kernel) rfl
set_option maxRecDepth 100000 in
theorem m_22 : Cond.selects RX8 yX8_readLet yX8_readLet ∈ tb := tb_in 22 (by decide +kernel) rfl
set_option maxRecDepth 100000 in
theorem m_23 : Cond.selects RX8 yX8_readNumber yX8_readNumber ∈ tb := tb_in 23 (by decide +kernel) rfl
set_option maxRecDepth 100000 in
theorem m_24 : Cond.selects RX8 yX8_readStop yX8_readStop ∈ tb := tb_in 24 (by decide +kernel) rfl
set_option maxRecDepth 100000 in
theorem m_25 : Cond.selects RX8 yX8_readTake yX8_readTake ∈ tb := tb_in 25 (by decide +kernel) rfl
set_option maxRecDepth 100000 in
theorem m_26 : Cond.selects RX8 yX8_readName yX8_readName ∈ tb := tb_in 26 (by decide +kernel) rfl
set_option maxRecDepth 100000 in
theorem m_27 : Cond.selects RX8 yX8_readWord yX8_readWord ∈ tb := tb_in 27 (by decide +kernel) rfl
set_option maxRecDepth 100000 in
theorem m_28 : Cond.selects RX8 yX8_readStrike yX8_readStrike ∈ tb := tb_in 28 (by decide +kernel) rfl
theorem m_197 : Cond.fieldLink RX8 96 "SilkHouse$Book" "number" "I" ∈ tb := mb_1_3 _ (List.mem_of_getElem? (i := 10) rfl)
theorem m_200 : Cond.fieldLink RX8 50 "SilkHouse$Book" "drafted" "I" ∈ tb := mb_1_3 _ (List.mem_of_getElem? (i := 13) rfl)
theorem m_228 : Cond.fieldLink RX8 28 "SilkHouse$Reader" "book" "LSilkHouse$Book;" ∈ tb := mb_1_3 _ (List.mem_of_getElem? (i := 22) rfl)
theorem m_684 : Cond.methodLink RX8 32 yX1_startDraft ∈ tb := mb_3_4 _ (List.mem_of_getElem? (i := 19) rfl)
theorem m_685 : Cond.instanceMethod yX1_startDraft ∈ tb := mb_3_4 _ (List.mem_of_getElem? (i := 20) rfl)
theorem m_686 : Cond.selects RX1 yX1_startDraft yX1_startDraft ∈ tb := mb_3_4 _ (List.mem_of_getElem? (i := 21) rfl)
theorem m_687 : Cond.code yX1_startDraft cX1_startDraft 1 none ∈ tb := mb_3_4 _ (List.mem_of_getElem? (i := 22) rfl)
theorem m_692 : Cond.methodLink RX8 41 yX8_readClause ∈ tb := mb_3_5 _ (List.mem_of_getElem? (i := 2) rfl)
theorem m_694 : Cond.instanceMethod yX8_readClause ∈ tb := mb_3_5 _ (List.mem_of_getElem? (i := 3) rfl)
theorem m_695 : Cond.code yX8_readClause cX8_readClause 3 (some .boolean) ∈ tb := mb_3_5 _ (List.mem_of_getElem? (i := 4) rfl)
theorem m_697 : Cond.methodLink RX8 46 yX8_readOneOf ∈ tb := mb_3_5 _ (List.mem_of_getElem? (i := 5) rfl)
theorem m_699 : Cond.instanceMethod yX8_readOneOf ∈ tb := mb_3_5 _ (List.mem_of_getElem? (i := 6) rfl)
theorem m_700 : Cond.code yX8_readOneOf cX8_readOneOf 6 (some .int) ∈ tb := mb_3_5 _ (List.mem_of_getElem? (i := 7) rfl)
theorem m_761 : Cond.methodLink RX8 57 yX8_readLet ∈ tb := mb_3_5 _ (List.mem_of_getElem? (i := 19) rfl)
theorem m_763 : Cond.instanceMethod yX8_readLet ∈ tb := mb_3_5 _ (List.mem_of_getElem? (i := 20) rfl)
theorem m_764 : Cond.code yX8_readLet cX8_readLet 3 (some .boolean) ∈ tb := mb_3_5 _ (List.mem_of_getElem? (i := 21) rfl)
theorem m_766 : Cond.fieldLink RX8 71 "SilkHouse$Reader" "LEAST_OF_NAME" "[I" ∈ tb := mb_3_5 _ (List.mem_of_getElem? (i := 22) rfl)
theorem m_768 : Cond.fieldLink RX8 75 "SilkHouse$Reader" "MOST_OF_NAME" "[I" ∈ tb := mb_3_5 _ (List.mem_of_getElem? (i := 23) rfl)
theorem m_770 : Cond.methodLink RX8 78 yX8_readNumber ∈ tb := mb_3_6 _ (List.mem_of_getElem? (i := 0) rfl)
theorem m_772 : Cond.instanceMethod yX8_readNumber ∈ tb := mb_3_6 _ (List.mem_of_getElem? (i := 1) rfl)
theorem m_773 : Cond.code yX8_readNumber cX8_readNumber 7 (some .int) ∈ tb := mb_3_6 _ (List.mem_of_getElem? (i := 2) rfl)
theorem m_775 : Cond.methodLink RX8 82 yX8_readStop ∈ tb := mb_3_6 _ (List.mem_of_getElem? (i := 3) rfl)
theorem m_777 : Cond.instanceMethod yX8_readStop ∈ tb := mb_3_6 _ (List.mem_of_getElem? (i := 4) rfl)
theorem m_778 : Cond.code yX8_readStop cX8_readStop 1 (some .boolean) ∈ tb := mb_3_6 _ (List.mem_of_getElem? (i := 5) rfl)
theorem m_779 : Cond.methodLink RX8 85 yX1_draft ∈ tb := mb_3_6 _ (List.mem_of_getElem? (i := 6) rfl)
theorem m_780 : Cond.instanceMethod yX1_draft ∈ tb := mb_3_6 _ (List.mem_of_getElem? (i := 7) rfl)
theorem m_781 : Cond.selects RX1 yX1_draft yX1_draft ∈ tb := mb_3_6 _ (List.mem_of_getElem? (i := 8) rfl)
theorem m_782 : Cond.code yX1_draft cX1_draft 5 none ∈ tb := mb_3_6 _ (List.mem_of_getElem? (i := 9) rfl)
theorem m_783 : Cond.methodLink RX8 60 yX8_readTake ∈ tb := mb_3_6 _ (List.mem_of_getElem? (i := 10) rfl)
theorem m_785 : Cond.instanceMethod yX8_readTake ∈ tb := mb_3_6 _ (List.mem_of_getElem? (i := 11) rfl)
theorem m_786 : Cond.code yX8_readTake cX8_readTake 2 (some .boolean) ∈ tb := mb_3_6 _ (List.mem_of_getElem? (i := 12) rfl)
theorem m_788 : Cond.methodLink RX8 63 yX8_readName ∈ tb := mb_3_6 _ (List.mem_of_getElem? (i := 13) rfl)
theorem m_790 : Cond.instanceMethod yX8_readName ∈ tb := mb_3_6 _ (List.mem_of_getElem? (i := 14) rfl)
theorem m_791 : Cond.code yX8_readName cX8_readName 3 (some .boolean) ∈ tb := mb_3_6 _ (List.mem_of_getElem? (i := 15) rfl)
theorem m_792 : Cond.methodLink RX8 91 yX8_readWord ∈ tb := mb_3_6 _ (List.mem_of_getElem? (i := 16) rfl)
theorem m_794 : Cond.instanceMethod yX8_readWord ∈ tb := mb_3_6 _ (List.mem_of_getElem? (i := 17) rfl)
theorem m_795 : Cond.code yX8_readWord cX8_readWord 2 (some .boolean) ∈ tb := mb_3_6 _ (List.mem_of_getElem? (i := 18) rfl)
theorem m_796 : Cond.methodLink RX8 103 yX1_draftWord ∈ tb := mb_4_0 _ (List.mem_of_getElem? (i := 0) rfl)
theorem m_797 : Cond.instanceMethod yX1_draftWord ∈ tb := mb_4_0 _ (List.mem_of_getElem? (i := 1) rfl)
theorem m_798 : Cond.selects RX1 yX1_draftWord yX1_draftWord ∈ tb := mb_4_0 _ (List.mem_of_getElem? (i := 2) rfl)
theorem m_799 : Cond.code yX1_draftWord cX1_draftWord 6 none ∈ tb := mb_4_0 _ (List.mem_of_getElem? (i := 3) rfl)
theorem m_801 : Cond.methodLink RX8 66 yX8_readStrike ∈ tb := mb_4_0 _ (List.mem_of_getElem? (i := 4) rfl)
theorem m_803 : Cond.instanceMethod yX8_readStrike ∈ tb := mb_4_0 _ (List.mem_of_getElem? (i := 5) rfl)
theorem m_804 : Cond.code yX8_readStrike cX8_readStrike 3 (some .boolean) ∈ tb := mb_4_0 _ (List.mem_of_getElem? (i := 6) rfl)
theorem hd_X11_within_i : yX11_within.cls ≠ "java/lang/invoke/MethodHandle" ∧ yX11_within.cls ≠ "java/lang/invoke/VarHandle" ∧ (parseMethodDescriptor yX11_within.desc).map (fun d => d.parameters.length) = some 3 := by decide +kernel
theorem hd_X1_draftWord_v : yX1_draftWord.cls = RX1 ∧ yX1_draftWord.cls ≠ "java/lang/invoke/MethodHandle" ∧ yX1_draftWord.cls ≠ "java/lang/invoke/VarHandle" ∧ (parseMethodDescriptor yX1_draftWord.desc).map (fun d => d.parameters.length) = some 3 := by decide +kernel
theorem hd_X1_draft_v : yX1_draft.cls = RX1 ∧ yX1_draft.cls ≠ "java/lang/invoke/MethodHandle" ∧ yX1_draft.cls ≠ "java/lang/invoke/VarHandle" ∧ (parseMethodDescriptor yX1_draft.desc).map (fun d => d.parameters.length) = some 3 := by decide +kernel
theorem hd_X1_startDraft_v : yX1_startDraft.cls = RX1 ∧ yX1_startDraft.cls ≠ "java/lang/invoke/MethodHandle" ∧ yX1_startDraft.cls ≠ "java/lang/invoke/VarHandle" ∧ (parseMethodDescriptor yX1_startDraft.desc).map (fun d => d.parameters.length) = some 0 := by decide +kernel
theorem hd_X8_readClause_v : yX8_readClause.cls = RX8 ∧ yX8_readClause.cls ≠ "java/lang/invoke/MethodHandle" ∧ yX8_readClause.cls ≠ "java/lang/invoke/VarHandle" ∧ (parseMethodDescriptor yX8_readClause.desc).map (fun d => d.parameters.length) = some 0 := by decide +kernel
theorem hd_X8_readLet_v : yX8_readLet.cls = RX8 ∧ yX8_readLet.cls ≠ "java/lang/invoke/MethodHandle" ∧ yX8_readLet.cls ≠ "java/lang/invoke/VarHandle" ∧ (parseMethodDescriptor yX8_readLet.desc).map (fun d => d.parameters.length) = some 0 := by decide +kernel
theorem hd_X8_readName_v : yX8_readName.cls = RX8 ∧ yX8_readName.cls ≠ "java/lang/invoke/MethodHandle" ∧ yX8_readName.cls ≠ "java/lang/invoke/VarHandle" ∧ (parseMethodDescriptor yX8_readName.desc).map (fun d => d.parameters.length) = some 0 := by decide +kernel
theorem hd_X8_readNumber_v : yX8_readNumber.cls = RX8 ∧ yX8_readNumber.cls ≠ "java/lang/invoke/MethodHandle" ∧ yX8_readNumber.cls ≠ "java/lang/invoke/VarHandle" ∧ (parseMethodDescriptor yX8_readNumber.desc).map (fun d => d.parameters.length) = some 2 := by decide +kernel
theorem hd_X8_readOneOf_v : yX8_readOneOf.cls = RX8 ∧ yX8_readOneOf.cls ≠ "java/lang/invoke/MethodHandle" ∧ yX8_readOneOf.cls ≠ "java/lang/invoke/VarHandle" ∧ (parseMethodDescriptor yX8_readOneOf.desc).map (fun d => d.parameters.length) = some 1 := by decide +kernel
theorem hd_X8_readStop_v : yX8_readStop.cls = RX8 ∧ yX8_readStop.cls ≠ "java/lang/invoke/MethodHandle" ∧ yX8_readStop.cls ≠ "java/lang/invoke/VarHandle" ∧ (parseMethodDescriptor yX8_readStop.desc).map (fun d => d.parameters.length) = some 0 := by decide +kernel
theorem hd_X8_readStrike_v : yX8_readStrike.cls = RX8 ∧ yX8_readStrike.cls ≠ "java/lang/invoke/MethodHandle" ∧ yX8_readStrike.cls ≠ "java/lang/invoke/VarHandle" ∧ (parseMethodDescriptor yX8_readStrike.desc).map (fun d => d.parameters.length) = some 0 := by decide +kernel
theorem hd_X8_readTake_v : yX8_readTake.cls = RX8 ∧ yX8_readTake.cls ≠ "java/lang/invoke/MethodHandle" ∧ yX8_readTake.cls ≠ "java/lang/invoke/VarHandle" ∧ (parseMethodDescriptor yX8_readTake.desc).map (fun d => d.parameters.length) = some 0 := by decide +kernel
theorem hd_X8_readWord_v : yX8_readWord.cls = RX8 ∧ yX8_readWord.cls ≠ "java/lang/invoke/MethodHandle" ∧ yX8_readWord.cls ≠ "java/lang/invoke/VarHandle" ∧ (parseMethodDescriptor yX8_readWord.desc).map (fun d => d.parameters.length) = some 0 := by decide +kernel
set_option maxRecDepth 100000 in
theorem dvX8_read_0 : ([(0, .aload_n 0, 1), (1, .iconst 0, 1), (2, .putfield 25, 3), (5, .aload_n 0, 1), (6, .iconst 0, 1), (7, .putfield 22, 3), (10, .aload_n 0, 1), (11, .iconst (-1), 1), (12, .putfield 19, 3), (15, .aload_n 0, 1), (16, .getfield 28, 3), (19, .invokevirtual 32, 3), (22, .aload_n 0, 1), (23, .invokevirtual 37, 3), (26, .istore_n 1, 1), (27, .iconst 0, 1), (28, .istore_n 2, 1), (29, .iload_n 1, 1), (30, .ifCond .eq 35, 3), (33, .iload_n 2, 1), (34, .bipush 12, 2), (36, .if_icmp .gt 29, 3), (39, .aload_n 0, 1), (40, .invokevirtual 41, 3)] : List (Nat × Instr × Nat)).all (fun q => decide (decode cX8_read q.1 = .ok (q.2.1, q.2.2))) = true := by decide +kernel
theorem dX8_read_0 : decode cX8_read 0 = .ok (.aload_n 0, 1) := all_at dvX8_read_0 0 rfl
theorem dX8_read_1 : decode cX8_read 1 = .ok (.iconst 0, 1) := all_at dvX8_read_0 1 rfl
theorem dX8_read_2 : decode cX8_read 2 = .ok (.putfield 25, 3) := all_at dvX8_read_0 2 rfl
theorem dX8_read_5 : decode cX8_read 5 = .ok (.aload_n 0, 1) := all_at dvX8_read_0 3 rfl
theorem dX8_read_6 : decode cX8_read 6 = .ok (.iconst 0, 1) := all_at dvX8_read_0 4 rfl
theorem dX8_read_7 : decode cX8_read 7 = .ok (.putfield 22, 3) := all_at dvX8_read_0 5 rfl
theorem dX8_read_10 : decode cX8_read 10 = .ok (.aload_n 0, 1) := all_at dvX8_read_0 6 rfl
theorem dX8_read_11 : decode cX8_read 11 = .ok (.iconst (-1), 1) := all_at dvX8_read_0 7 rfl
theorem dX8_read_12 : decode cX8_read 12 = .ok (.putfield 19, 3) := all_at dvX8_read_0 8 rfl
theorem dX8_read_15 : decode cX8_read 15 = .ok (.aload_n 0, 1) := all_at dvX8_read_0 9 rfl
theorem dX8_read_16 : decode cX8_read 16 = .ok (.getfield 28, 3) := all_at dvX8_read_0 10 rfl
theorem dX8_read_19 : decode cX8_read 19 = .ok (.invokevirtual 32, 3) := all_at dvX8_read_0 11 rfl
theorem dX8_read_22 : decode cX8_read 22 = .ok (.aload_n 0, 1) := all_at dvX8_read_0 12 rfl
theorem dX8_read_23 : decode cX8_read 23 = .ok (.invokevirtual 37, 3) := all_at dvX8_read_0 13 rfl
theorem dX8_read_26 : decode cX8_read 26 = .ok (.istore_n 1, 1) := all_at dvX8_read_0 14 rfl
theorem dX8_read_27 : decode cX8_read 27 = .ok (.iconst 0, 1) := all_at dvX8_read_0 15 rfl
theorem dX8_read_28 : decode cX8_read 28 = .ok (.istore_n 2, 1) := all_at dvX8_read_0 16 rfl
theorem dX8_read_29 : decode cX8_read 29 = .ok (.iload_n 1, 1) := all_at dvX8_read_0 17 rfl
theorem dX8_read_30 : decode cX8_read 30 = .ok (.ifCond .eq 35, 3) := all_at dvX8_read_0 18 rfl
theorem dX8_read_33 : decode cX8_read 33 = .ok (.iload_n 2, 1) := all_at dvX8_read_0 19 rfl
theorem dX8_read_34 : decode cX8_read 34 = .ok (.bipush 12, 2) := all_at dvX8_read_0 20 rfl
theorem dX8_read_36 : decode cX8_read 36 = .ok (.if_icmp .gt 29, 3) := all_at dvX8_read_0 21 rfl
theorem dX8_read_39 : decode cX8_read 39 = .ok (.aload_n 0, 1) := all_at dvX8_read_0 22 rfl
theorem dX8_read_40 : decode cX8_read 40 = .ok (.invokevirtual 41, 3) := all_at dvX8_read_0 23 rfl
set_option maxRecDepth 100000 in
theorem dvX8_read_43 : ([(43, .ifCond .eq 14, 3), (46, .aload_n 0, 1), (47, .invokevirtual 37, 3), (50, .ifCond .eq 7, 3), (53, .iconst 1, 1), (54, .goto 4, 3), (57, .iconst 0, 1), (58, .istore_n 1, 1), (59, .iinc 2 1, 3), (62, .goto (-33), 3), (65, .aload_n 0, 1), (66, .iconst 0, 1), (67, .putfield 15, 3), (70, .aload_n 0, 1), (71, .getfield 22, 3), (74, .ireturn, 1)] : List (Nat × Instr × Nat)).all (fun q => decide (decode cX8_read q.1 = .ok (q.2.1, q.2.2))) = true := by decide +kernel
theorem dX8_read_43 : decode cX8_read 43 = .ok (.ifCond .eq 14, 3) := all_at dvX8_read_43 0 rfl
theorem dX8_read_46 : decode cX8_read 46 = .ok (.aload_n 0, 1) := all_at dvX8_read_43 1 rfl
theorem dX8_read_47 : decode cX8_read 47 = .ok (.invokevirtual 37, 3) := all_at dvX8_read_43 2 rfl
theorem dX8_read_50 : decode cX8_read 50 = .ok (.ifCond .eq 7, 3) := all_at dvX8_read_43 3 rfl
theorem dX8_read_53 : decode cX8_read 53 = .ok (.iconst 1, 1) := all_at dvX8_read_43 4 rfl
theorem dX8_read_54 : decode cX8_read 54 = .ok (.goto 4, 3) := all_at dvX8_read_43 5 rfl
theorem dX8_read_57 : decode cX8_read 57 = .ok (.iconst 0, 1) := all_at dvX8_read_43 6 rfl
theorem dX8_read_58 : decode cX8_read 58 = .ok (.istore_n 1, 1) := all_at dvX8_read_43 7 rfl
theorem dX8_read_59 : decode cX8_read 59 = .ok (.iinc 2 1, 3) := all_at dvX8_read_43 8 rfl
theorem dX8_read_62 : decode cX8_read 62 = .ok (.goto (-33), 3) := all_at dvX8_read_43 9 rfl
theorem dX8_read_65 : decode cX8_read 65 = .ok (.aload_n 0, 1) := all_at dvX8_read_43 10 rfl
theorem dX8_read_66 : decode cX8_read 66 = .ok (.iconst 0, 1) := all_at dvX8_read_43 11 rfl
theorem dX8_read_67 : decode cX8_read 67 = .ok (.putfield 15, 3) := all_at dvX8_read_43 12 rfl
theorem dX8_read_70 : decode cX8_read 70 = .ok (.aload_n 0, 1) := all_at dvX8_read_43 13 rfl
theorem dX8_read_71 : decode cX8_read 71 = .ok (.getfield 22, 3) := all_at dvX8_read_43 14 rfl
theorem dX8_read_74 : decode cX8_read 74 = .ok (.ireturn, 1) := all_at dvX8_read_43 15 rfl
set_option maxRecDepth 100000 in
theorem dvX8_readClause_0 : ([(0, .aload_n 0, 1), (1, .getfield 25, 3), (4, .istore_n 1, 1), (5, .aload_n 0, 1), (6, .ldc 44, 2), (8, .invokevirtual 46, 3), (11, .istore_n 2, 1), (12, .iload_n 2, 1), (13, .iconst (-1), 1), (14, .if_icmp .ne 5, 3), (17, .iconst 0, 1), (18, .ireturn, 1), (19, .aload_n 0, 1), (20, .getfield 28, 3), (23, .getfield 50, 3), (26, .bipush 12, 2), (28, .if_icmp .lt 10, 3), (31, .aload_n 0, 1), (32, .iconst 5, 1), (33, .iload_n 1, 1), (34, .invokevirtual 53, 3), (37, .ireturn, 1), (38, .iload_n 2, 1), (39, .tableswitch 40 0 2 #[25, 30, 35], 25)] : List (Nat × Instr × Nat)).all (fun q => decide (decode cX8_readClause q.1 = .ok (q.2.1, q.2.2))) = true := by decide +kernel
theorem dX8_readClause_0 : decode cX8_readClause 0 = .ok (.aload_n 0, 1) := all_at dvX8_readClause_0 0 rfl
theorem dX8_readClause_1 : decode cX8_readClause 1 = .ok (.getfield 25, 3) := all_at dvX8_readClause_0 1 rfl
theorem dX8_readClause_4 : decode cX8_readClause 4 = .ok (.istore_n 1, 1) := all_at dvX8_readClause_0 2 rfl
theorem dX8_readClause_5 : decode cX8_readClause 5 = .ok (.aload_n 0, 1) := all_at dvX8_readClause_0 3 rfl
theorem dX8_readClause_6 : decode cX8_readClause 6 = .ok (.ldc 44, 2) := all_at dvX8_readClause_0 4 rfl
theorem dX8_readClause_8 : decode cX8_readClause 8 = .ok (.invokevirtual 46, 3) := all_at dvX8_readClause_0 5 rfl
theorem dX8_readClause_11 : decode cX8_readClause 11 = .ok (.istore_n 2, 1) := all_at dvX8_readClause_0 6 rfl
theorem dX8_readClause_12 : decode cX8_readClause 12 = .ok (.iload_n 2, 1) := all_at dvX8_readClause_0 7 rfl
theorem dX8_readClause_13 : decode cX8_readClause 13 = .ok (.iconst (-1), 1) := all_at dvX8_readClause_0 8 rfl
theorem dX8_readClause_14 : decode cX8_readClause 14 = .ok (.if_icmp .ne 5, 3) := all_at dvX8_readClause_0 9 rfl
theorem dX8_readClause_17 : decode cX8_readClause 17 = .ok (.iconst 0, 1) := all_at dvX8_readClause_0 10 rfl
theorem dX8_readClause_18 : decode cX8_readClause 18 = .ok (.ireturn, 1) := all_at dvX8_readClause_0 11 rfl
theorem dX8_readClause_19 : decode cX8_readClause 19 = .ok (.aload_n 0, 1) := all_at dvX8_readClause_0 12 rfl
theorem dX8_readClause_20 : decode cX8_readClause 20 = .ok (.getfield 28, 3) := all_at dvX8_readClause_0 13 rfl
theorem dX8_readClause_23 : decode cX8_readClause 23 = .ok (.getfield 50, 3) := all_at dvX8_readClause_0 14 rfl
theorem dX8_readClause_26 : decode cX8_readClause 26 = .ok (.bipush 12, 2) := all_at dvX8_readClause_0 15 rfl
theorem dX8_readClause_28 : decode cX8_readClause 28 = .ok (.if_icmp .lt 10, 3) := all_at dvX8_readClause_0 16 rfl
theorem dX8_readClause_31 : decode cX8_readClause 31 = .ok (.aload_n 0, 1) := all_at dvX8_readClause_0 17 rfl
theorem dX8_readClause_32 : decode cX8_readClause 32 = .ok (.iconst 5, 1) := all_at dvX8_readClause_0 18 rfl
theorem dX8_readClause_33 : decode cX8_readClause 33 = .ok (.iload_n 1, 1) := all_at dvX8_readClause_0 19 rfl
theorem dX8_readClause_34 : decode cX8_readClause 34 = .ok (.invokevirtual 53, 3) := all_at dvX8_readClause_0 20 rfl
theorem dX8_readClause_37 : decode cX8_readClause 37 = .ok (.ireturn, 1) := all_at dvX8_readClause_0 21 rfl
theorem dX8_readClause_38 : decode cX8_readClause 38 = .ok (.iload_n 2, 1) := all_at dvX8_readClause_0 22 rfl
theorem dX8_readClause_39 : decode cX8_readClause 39 = .ok (.tableswitch 40 0 2 #[25, 30, 35], 25) := all_at dvX8_readClause_0 23 rfl
set_option maxRecDepth 100000 in
theorem dvX8_readClause_64 : ([(64, .aload_n 0, 1), (65, .invokevirtual 57, 3), (68, .ireturn, 1), (69, .aload_n 0, 1), (70, .invokevirtual 60, 3), (73, .ireturn, 1), (74, .aload_n 0, 1), (75, .invokevirtual 63, 3), (78, .ireturn, 1), (79, .aload_n 0, 1), (80, .invokevirtual 66, 3), (83, .ireturn, 1)] : List (Nat × Instr × Nat)).all (fun q => decide (decode cX8_readClause q.1 = .ok (q.2.1, q.2.2))) = true := by decide +kernel
theorem dX8_readClause_64 : decode cX8_readClause 64 = .ok (.aload_n 0, 1) := all_at dvX8_readClause_64 0 rfl
theorem dX8_readClause_65 : decode cX8_readClause 65 = .ok (.invokevirtual 57, 3) := all_at dvX8_readClause_64 1 rfl
theorem dX8_readClause_68 : decode cX8_readClause 68 = .ok (.ireturn, 1) := all_at dvX8_readClause_64 2 rfl
theorem dX8_readClause_69 : decode cX8_readClause 69 = .ok (.aload_n 0, 1) := all_at dvX8_readClause_64 3 rfl
theorem dX8_readClause_70 : decode cX8_readClause 70 = .ok (.invokevirtual 60, 3) := all_at dvX8_readClause_64 4 rfl
theorem dX8_readClause_73 : decode cX8_readClause 73 = .ok (.ireturn, 1) := all_at dvX8_readClause_64 5 rfl
theorem dX8_readClause_74 : decode cX8_readClause 74 = .ok (.aload_n 0, 1) := all_at dvX8_readClause_64 6 rfl
theorem dX8_readClause_75 : decode cX8_readClause 75 = .ok (.invokevirtual 63, 3) := all_at dvX8_readClause_64 7 rfl
theorem dX8_readClause_78 : decode cX8_readClause 78 = .ok (.ireturn, 1) := all_at dvX8_readClause_64 8 rfl
theorem dX8_readClause_79 : decode cX8_readClause 79 = .ok (.aload_n 0, 1) := all_at dvX8_readClause_64 9 rfl
theorem dX8_readClause_80 : decode cX8_readClause 80 = .ok (.invokevirtual 66, 3) := all_at dvX8_readClause_64 10 rfl
theorem dX8_readClause_83 : decode cX8_readClause 83 = .ok (.ireturn, 1) := all_at dvX8_readClause_64 11 rfl
set_option maxRecDepth 100000 in
theorem dvX8_readLet_0 : ([(0, .aload_n 0, 1), (1, .ldc 69, 2), (3, .invokevirtual 46, 3), (6, .istore_n 1, 1), (7, .iload_n 1, 1), (8, .iconst (-1), 1), (9, .if_icmp .ne 5, 3), (12, .iconst 0, 1), (13, .ireturn, 1), (14, .aload_n 0, 1), (15, .getstatic 71, 3), (18, .iload_n 1, 1), (19, .iaload, 1), (20, .getstatic 75, 3), (23, .iload_n 1, 1), (24, .iaload, 1), (25, .invokevirtual 78, 3), (28, .istore_n 2, 1), (29, .iload_n 2, 1), (30, .iconst (-1), 1), (31, .if_icmp .eq 10, 3), (34, .aload_n 0, 1), (35, .invokevirtual 82, 3), (38, .ifCond .ne 5, 3)] : List (Nat × Instr × Nat)).all (fun q => decide (decode cX8_readLet q.1 = .ok (q.2.1, q.2.2))) = true := by decide +kernel
theorem dX8_readLet_0 : decode cX8_readLet 0 = .ok (.aload_n 0, 1) := all_at dvX8_readLet_0 0 rfl
theorem dX8_readLet_1 : decode cX8_readLet 1 = .ok (.ldc 69, 2) := all_at dvX8_readLet_0 1 rfl
theorem dX8_readLet_3 : decode cX8_readLet 3 = .ok (.invokevirtual 46, 3) := all_at dvX8_readLet_0 2 rfl
theorem dX8_readLet_6 : decode cX8_readLet 6 = .ok (.istore_n 1, 1) := all_at dvX8_readLet_0 3 rfl
theorem dX8_readLet_7 : decode cX8_readLet 7 = .ok (.iload_n 1, 1) := all_at dvX8_readLet_0 4 rfl
theorem dX8_readLet_8 : decode cX8_readLet 8 = .ok (.iconst (-1), 1) := all_at dvX8_readLet_0 5 rfl
theorem dX8_readLet_9 : decode cX8_readLet 9 = .ok (.if_icmp .ne 5, 3) := all_at dvX8_readLet_0 6 rfl
theorem dX8_readLet_12 : decode cX8_readLet 12 = .ok (.iconst 0, 1) := all_at dvX8_readLet_0 7 rfl
theorem dX8_readLet_13 : decode cX8_readLet 13 = .ok (.ireturn, 1) := all_at dvX8_readLet_0 8 rfl
theorem dX8_readLet_14 : decode cX8_readLet 14 = .ok (.aload_n 0, 1) := all_at dvX8_readLet_0 9 rfl
theorem dX8_readLet_15 : decode cX8_readLet 15 = .ok (.getstatic 71, 3) := all_at dvX8_readLet_0 10 rfl
theorem dX8_readLet_18 : decode cX8_readLet 18 = .ok (.iload_n 1, 1) := all_at dvX8_readLet_0 11 rfl
theorem dX8_readLet_19 : decode cX8_readLet 19 = .ok (.iaload, 1) := all_at dvX8_readLet_0 12 rfl
theorem dX8_readLet_20 : decode cX8_readLet 20 = .ok (.getstatic 75, 3) := all_at dvX8_readLet_0 13 rfl
theorem dX8_readLet_23 : decode cX8_readLet 23 = .ok (.iload_n 1, 1) := all_at dvX8_readLet_0 14 rfl
theorem dX8_readLet_24 : decode cX8_readLet 24 = .ok (.iaload, 1) := all_at dvX8_readLet_0 15 rfl
theorem dX8_readLet_25 : decode cX8_readLet 25 = .ok (.invokevirtual 78, 3) := all_at dvX8_readLet_0 16 rfl
theorem dX8_readLet_28 : decode cX8_readLet 28 = .ok (.istore_n 2, 1) := all_at dvX8_readLet_0 17 rfl
theorem dX8_readLet_29 : decode cX8_readLet 29 = .ok (.iload_n 2, 1) := all_at dvX8_readLet_0 18 rfl
theorem dX8_readLet_30 : decode cX8_readLet 30 = .ok (.iconst (-1), 1) := all_at dvX8_readLet_0 19 rfl
theorem dX8_readLet_31 : decode cX8_readLet 31 = .ok (.if_icmp .eq 10, 3) := all_at dvX8_readLet_0 20 rfl
theorem dX8_readLet_34 : decode cX8_readLet 34 = .ok (.aload_n 0, 1) := all_at dvX8_readLet_0 21 rfl
theorem dX8_readLet_35 : decode cX8_readLet 35 = .ok (.invokevirtual 82, 3) := all_at dvX8_readLet_0 22 rfl
theorem dX8_readLet_38 : decode cX8_readLet 38 = .ok (.ifCond .ne 5, 3) := all_at dvX8_readLet_0 23 rfl
set_option maxRecDepth 100000 in
theorem dvX8_readLet_41 : ([(41, .iconst 0, 1), (42, .ireturn, 1), (43, .aload_n 0, 1), (44, .getfield 28, 3), (47, .iload_n 1, 1), (48, .iload_n 2, 1), (49, .iconst 0, 1), (50, .invokevirtual 85, 3), (53, .iconst 1, 1), (54, .ireturn, 1)] : List (Nat × Instr × Nat)).all (fun q => decide (decode cX8_readLet q.1 = .ok (q.2.1, q.2.2))) = true := by decide +kernel
theorem dX8_readLet_41 : decode cX8_readLet 41 = .ok (.iconst 0, 1) := all_at dvX8_readLet_41 0 rfl
theorem dX8_readLet_42 : decode cX8_readLet 42 = .ok (.ireturn, 1) := all_at dvX8_readLet_41 1 rfl
theorem dX8_readLet_43 : decode cX8_readLet 43 = .ok (.aload_n 0, 1) := all_at dvX8_readLet_41 2 rfl
theorem dX8_readLet_44 : decode cX8_readLet 44 = .ok (.getfield 28, 3) := all_at dvX8_readLet_41 3 rfl
theorem dX8_readLet_47 : decode cX8_readLet 47 = .ok (.iload_n 1, 1) := all_at dvX8_readLet_41 4 rfl
theorem dX8_readLet_48 : decode cX8_readLet 48 = .ok (.iload_n 2, 1) := all_at dvX8_readLet_41 5 rfl
theorem dX8_readLet_49 : decode cX8_readLet 49 = .ok (.iconst 0, 1) := all_at dvX8_readLet_41 6 rfl
theorem dX8_readLet_50 : decode cX8_readLet 50 = .ok (.invokevirtual 85, 3) := all_at dvX8_readLet_41 7 rfl
theorem dX8_readLet_53 : decode cX8_readLet 53 = .ok (.iconst 1, 1) := all_at dvX8_readLet_41 8 rfl
theorem dX8_readLet_54 : decode cX8_readLet 54 = .ok (.ireturn, 1) := all_at dvX8_readLet_41 9 rfl
set_option maxRecDepth 100000 in
theorem dvX8_readName_0 : ([(0, .aload_n 0, 1), (1, .invokevirtual 91, 3), (4, .ifCond .ne 5, 3), (7, .iconst 0, 1), (8, .ireturn, 1), (9, .aload_n 0, 1), (10, .iconst 0, 1), (11, .sipush 9999, 3), (14, .invokevirtual 78, 3), (17, .istore_n 1, 1), (18, .iload_n 1, 1), (19, .iconst (-1), 1), (20, .if_icmp .eq 13, 3), (23, .aload_n 0, 1), (24, .ldc 94, 2), (26, .invokevirtual 46, 3), (29, .iconst (-1), 1), (30, .if_icmp .ne 5, 3), (33, .iconst 0, 1), (34, .ireturn, 1), (35, .aload_n 0, 1), (36, .iload_n 1, 1), (37, .iconst 1, 1), (38, .iadd, 1)] : List (Nat × Instr × Nat)).all (fun q => decide (decode cX8_readName q.1 = .ok (q.2.1, q.2.2))) = true := by decide +kernel
theorem dX8_readName_0 : decode cX8_readName 0 = .ok (.aload_n 0, 1) := all_at dvX8_readName_0 0 rfl
theorem dX8_readName_1 : decode cX8_readName 1 = .ok (.invokevirtual 91, 3) := all_at dvX8_readName_0 1 rfl
theorem dX8_readName_4 : decode cX8_readName 4 = .ok (.ifCond .ne 5, 3) := all_at dvX8_readName_0 2 rfl
theorem dX8_readName_7 : decode cX8_readName 7 = .ok (.iconst 0, 1) := all_at dvX8_readName_0 3 rfl
theorem dX8_readName_8 : decode cX8_readName 8 = .ok (.ireturn, 1) := all_at dvX8_readName_0 4 rfl
theorem dX8_readName_9 : decode cX8_readName 9 = .ok (.aload_n 0, 1) := all_at dvX8_readName_0 5 rfl
theorem dX8_readName_10 : decode cX8_readName 10 = .ok (.iconst 0, 1) := all_at dvX8_readName_0 6 rfl
theorem dX8_readName_11 : decode cX8_readName 11 = .ok (.sipush 9999, 3) := all_at dvX8_readName_0 7 rfl
theorem dX8_readName_14 : decode cX8_readName 14 = .ok (.invokevirtual 78, 3) := all_at dvX8_readName_0 8 rfl
theorem dX8_readName_17 : decode cX8_readName 17 = .ok (.istore_n 1, 1) := all_at dvX8_readName_0 9 rfl
theorem dX8_readName_18 : decode cX8_readName 18 = .ok (.iload_n 1, 1) := all_at dvX8_readName_0 10 rfl
theorem dX8_readName_19 : decode cX8_readName 19 = .ok (.iconst (-1), 1) := all_at dvX8_readName_0 11 rfl
theorem dX8_readName_20 : decode cX8_readName 20 = .ok (.if_icmp .eq 13, 3) := all_at dvX8_readName_0 12 rfl
theorem dX8_readName_23 : decode cX8_readName 23 = .ok (.aload_n 0, 1) := all_at dvX8_readName_0 13 rfl
theorem dX8_readName_24 : decode cX8_readName 24 = .ok (.ldc 94, 2) := all_at dvX8_readName_0 14 rfl
theorem dX8_readName_26 : decode cX8_readName 26 = .ok (.invokevirtual 46, 3) := all_at dvX8_readName_0 15 rfl
theorem dX8_readName_29 : decode cX8_readName 29 = .ok (.iconst (-1), 1) := all_at dvX8_readName_0 16 rfl
theorem dX8_readName_30 : decode cX8_readName 30 = .ok (.if_icmp .ne 5, 3) := all_at dvX8_readName_0 17 rfl
theorem dX8_readName_33 : decode cX8_readName 33 = .ok (.iconst 0, 1) := all_at dvX8_readName_0 18 rfl
theorem dX8_readName_34 : decode cX8_readName 34 = .ok (.ireturn, 1) := all_at dvX8_readName_0 19 rfl
theorem dX8_readName_35 : decode cX8_readName 35 = .ok (.aload_n 0, 1) := all_at dvX8_readName_0 20 rfl
theorem dX8_readName_36 : decode cX8_readName 36 = .ok (.iload_n 1, 1) := all_at dvX8_readName_0 21 rfl
theorem dX8_readName_37 : decode cX8_readName 37 = .ok (.iconst 1, 1) := all_at dvX8_readName_0 22 rfl
theorem dX8_readName_38 : decode cX8_readName 38 = .ok (.iadd, 1) := all_at dvX8_readName_0 23 rfl
set_option maxRecDepth 100000 in
theorem dvX8_readName_39 : ([(39, .sipush 9999, 3), (42, .invokevirtual 78, 3), (45, .istore_n 2, 1), (46, .iload_n 2, 1), (47, .iconst (-1), 1), (48, .if_icmp .eq 10, 3), (51, .aload_n 0, 1), (52, .invokevirtual 82, 3), (55, .ifCond .ne 5, 3), (58, .iconst 0, 1), (59, .ireturn, 1), (60, .aload_n 0, 1), (61, .getfield 28, 3), (64, .bipush 6, 2), (66, .iload_n 1, 1), (67, .iload_n 2, 1), (68, .invokevirtual 85, 3), (71, .iconst 1, 1), (72, .ireturn, 1)] : List (Nat × Instr × Nat)).all (fun q => decide (decode cX8_readName q.1 = .ok (q.2.1, q.2.2))) = true := by decide +kernel
theorem dX8_readName_39 : decode cX8_readName 39 = .ok (.sipush 9999, 3) := all_at dvX8_readName_39 0 rfl
theorem dX8_readName_42 : decode cX8_readName 42 = .ok (.invokevirtual 78, 3) := all_at dvX8_readName_39 1 rfl
theorem dX8_readName_45 : decode cX8_readName 45 = .ok (.istore_n 2, 1) := all_at dvX8_readName_39 2 rfl
theorem dX8_readName_46 : decode cX8_readName 46 = .ok (.iload_n 2, 1) := all_at dvX8_readName_39 3 rfl
theorem dX8_readName_47 : decode cX8_readName 47 = .ok (.iconst (-1), 1) := all_at dvX8_readName_39 4 rfl
theorem dX8_readName_48 : decode cX8_readName 48 = .ok (.if_icmp .eq 10, 3) := all_at dvX8_readName_39 5 rfl
theorem dX8_readName_51 : decode cX8_readName 51 = .ok (.aload_n 0, 1) := all_at dvX8_readName_39 6 rfl
theorem dX8_readName_52 : decode cX8_readName 52 = .ok (.invokevirtual 82, 3) := all_at dvX8_readName_39 7 rfl
theorem dX8_readName_55 : decode cX8_readName 55 = .ok (.ifCond .ne 5, 3) := all_at dvX8_readName_39 8 rfl
theorem dX8_readName_58 : decode cX8_readName 58 = .ok (.iconst 0, 1) := all_at dvX8_readName_39 9 rfl
theorem dX8_readName_59 : decode cX8_readName 59 = .ok (.ireturn, 1) := all_at dvX8_readName_39 10 rfl
theorem dX8_readName_60 : decode cX8_readName 60 = .ok (.aload_n 0, 1) := all_at dvX8_readName_39 11 rfl
theorem dX8_readName_61 : decode cX8_readName 61 = .ok (.getfield 28, 3) := all_at dvX8_readName_39 12 rfl
theorem dX8_readName_64 : decode cX8_readName 64 = .ok (.bipush 6, 2) := all_at dvX8_readName_39 13 rfl
theorem dX8_readName_66 : decode cX8_readName 66 = .ok (.iload_n 1, 1) := all_at dvX8_readName_39 14 rfl
theorem dX8_readName_67 : decode cX8_readName 67 = .ok (.iload_n 2, 1) := all_at dvX8_readName_39 15 rfl
theorem dX8_readName_68 : decode cX8_readName 68 = .ok (.invokevirtual 85, 3) := all_at dvX8_readName_39 16 rfl
theorem dX8_readName_71 : decode cX8_readName 71 = .ok (.iconst 1, 1) := all_at dvX8_readName_39 17 rfl
theorem dX8_readName_72 : decode cX8_readName 72 = .ok (.ireturn, 1) := all_at dvX8_readName_39 18 rfl
set_option maxRecDepth 100000 in
theorem dvX8_readNumber_0 : ([(0, .aload_n 0, 1), (1, .invokevirtual 37, 3), (4, .pop, 1), (5, .aload_n 0, 1), (6, .getfield 25, 3), (9, .istore_n 3, 1), (10, .aload_n 0, 1), (11, .bipush 48, 2), (13, .bipush 57, 2), (15, .invokevirtual 99, 3), (18, .istore 4, 2), (20, .iload 4, 2), (22, .iload_n 3, 1), (23, .if_icmp .ne 12, 3), (26, .aload_n 0, 1), (27, .iconst 1, 1), (28, .iload_n 3, 1), (29, .invokevirtual 53, 3), (32, .pop, 1), (33, .iconst (-1), 1), (34, .ireturn, 1), (35, .iconst 0, 1), (36, .istore 5, 2), (38, .iload_n 3, 1)] : List (Nat × Instr × Nat)).all (fun q => decide (decode cX8_readNumber q.1 = .ok (q.2.1, q.2.2))) = true := by decide +kernel
theorem dX8_readNumber_0 : decode cX8_readNumber 0 = .ok (.aload_n 0, 1) := all_at dvX8_readNumber_0 0 rfl
theorem dX8_readNumber_1 : decode cX8_readNumber 1 = .ok (.invokevirtual 37, 3) := all_at dvX8_readNumber_0 1 rfl
theorem dX8_readNumber_4 : decode cX8_readNumber 4 = .ok (.pop, 1) := all_at dvX8_readNumber_0 2 rfl
theorem dX8_readNumber_5 : decode cX8_readNumber 5 = .ok (.aload_n 0, 1) := all_at dvX8_readNumber_0 3 rfl
theorem dX8_readNumber_6 : decode cX8_readNumber 6 = .ok (.getfield 25, 3) := all_at dvX8_readNumber_0 4 rfl
theorem dX8_readNumber_9 : decode cX8_readNumber 9 = .ok (.istore_n 3, 1) := all_at dvX8_readNumber_0 5 rfl
theorem dX8_readNumber_10 : decode cX8_readNumber 10 = .ok (.aload_n 0, 1) := all_at dvX8_readNumber_0 6 rfl
theorem dX8_readNumber_11 : decode cX8_readNumber 11 = .ok (.bipush 48, 2) := all_at dvX8_readNumber_0 7 rfl
theorem dX8_readNumber_13 : decode cX8_readNumber 13 = .ok (.bipush 57, 2) := all_at dvX8_readNumber_0 8 rfl
theorem dX8_readNumber_15 : decode cX8_readNumber 15 = .ok (.invokevirtual 99, 3) := all_at dvX8_readNumber_0 9 rfl
theorem dX8_readNumber_18 : decode cX8_readNumber 18 = .ok (.istore 4, 2) := all_at dvX8_readNumber_0 10 rfl
theorem dX8_readNumber_20 : decode cX8_readNumber 20 = .ok (.iload 4, 2) := all_at dvX8_readNumber_0 11 rfl
theorem dX8_readNumber_22 : decode cX8_readNumber 22 = .ok (.iload_n 3, 1) := all_at dvX8_readNumber_0 12 rfl
theorem dX8_readNumber_23 : decode cX8_readNumber 23 = .ok (.if_icmp .ne 12, 3) := all_at dvX8_readNumber_0 13 rfl
theorem dX8_readNumber_26 : decode cX8_readNumber 26 = .ok (.aload_n 0, 1) := all_at dvX8_readNumber_0 14 rfl
theorem dX8_readNumber_27 : decode cX8_readNumber 27 = .ok (.iconst 1, 1) := all_at dvX8_readNumber_0 15 rfl
theorem dX8_readNumber_28 : decode cX8_readNumber 28 = .ok (.iload_n 3, 1) := all_at dvX8_readNumber_0 16 rfl
theorem dX8_readNumber_29 : decode cX8_readNumber 29 = .ok (.invokevirtual 53, 3) := all_at dvX8_readNumber_0 17 rfl
theorem dX8_readNumber_32 : decode cX8_readNumber 32 = .ok (.pop, 1) := all_at dvX8_readNumber_0 18 rfl
theorem dX8_readNumber_33 : decode cX8_readNumber 33 = .ok (.iconst (-1), 1) := all_at dvX8_readNumber_0 19 rfl
theorem dX8_readNumber_34 : decode cX8_readNumber 34 = .ok (.ireturn, 1) := all_at dvX8_readNumber_0 20 rfl
theorem dX8_readNumber_35 : decode cX8_readNumber 35 = .ok (.iconst 0, 1) := all_at dvX8_readNumber_0 21 rfl
theorem dX8_readNumber_36 : decode cX8_readNumber 36 = .ok (.istore 5, 2) := all_at dvX8_readNumber_0 22 rfl
theorem dX8_readNumber_38 : decode cX8_readNumber 38 = .ok (.iload_n 3, 1) := all_at dvX8_readNumber_0 23 rfl
set_option maxRecDepth 100000 in
theorem dvX8_readNumber_39 : ([(39, .istore 6, 2), (41, .iload 6, 2), (43, .iload 4, 2), (45, .if_icmp .ge 35, 3), (48, .iload 6, 2), (50, .iload_n 3, 1), (51, .iconst 4, 1), (52, .iadd, 1), (53, .if_icmp .ge 27, 3), (56, .bipush 10, 2), (58, .iload 5, 2), (60, .imul, 1), (61, .aload_n 0, 1), (62, .getfield 11, 3), (65, .iload 6, 2), (67, .baload, 1), (68, .bipush 48, 2), (70, .isub, 1), (71, .iadd, 1), (72, .istore 5, 2), (74, .iinc 6 1, 3), (77, .goto (-36), 3), (80, .iload 4, 2), (82, .iload_n 3, 1)] : List (Nat × Instr × Nat)).all (fun q => decide (decode cX8_readNumber q.1 = .ok (q.2.1, q.2.2))) = true := by decide +kernel
theorem dX8_readNumber_39 : decode cX8_readNumber 39 = .ok (.istore 6, 2) := all_at dvX8_readNumber_39 0 rfl
theorem dX8_readNumber_41 : decode cX8_readNumber 41 = .ok (.iload 6, 2) := all_at dvX8_readNumber_39 1 rfl
theorem dX8_readNumber_43 : decode cX8_readNumber 43 = .ok (.iload 4, 2) := all_at dvX8_readNumber_39 2 rfl
theorem dX8_readNumber_45 : decode cX8_readNumber 45 = .ok (.if_icmp .ge 35, 3) := all_at dvX8_readNumber_39 3 rfl
theorem dX8_readNumber_48 : decode cX8_readNumber 48 = .ok (.iload 6, 2) := all_at dvX8_readNumber_39 4 rfl
theorem dX8_readNumber_50 : decode cX8_readNumber 50 = .ok (.iload_n 3, 1) := all_at dvX8_readNumber_39 5 rfl
theorem dX8_readNumber_51 : decode cX8_readNumber 51 = .ok (.iconst 4, 1) := all_at dvX8_readNumber_39 6 rfl
theorem dX8_readNumber_52 : decode cX8_readNumber 52 = .ok (.iadd, 1) := all_at dvX8_readNumber_39 7 rfl
theorem dX8_readNumber_53 : decode cX8_readNumber 53 = .ok (.if_icmp .ge 27, 3) := all_at dvX8_readNumber_39 8 rfl
theorem dX8_readNumber_56 : decode cX8_readNumber 56 = .ok (.bipush 10, 2) := all_at dvX8_readNumber_39 9 rfl
theorem dX8_readNumber_58 : decode cX8_readNumber 58 = .ok (.iload 5, 2) := all_at dvX8_readNumber_39 10 rfl
theorem dX8_readNumber_60 : decode cX8_readNumber 60 = .ok (.imul, 1) := all_at dvX8_readNumber_39 11 rfl
theorem dX8_readNumber_61 : decode cX8_readNumber 61 = .ok (.aload_n 0, 1) := all_at dvX8_readNumber_39 12 rfl
theorem dX8_readNumber_62 : decode cX8_readNumber 62 = .ok (.getfield 11, 3) := all_at dvX8_readNumber_39 13 rfl
theorem dX8_readNumber_65 : decode cX8_readNumber 65 = .ok (.iload 6, 2) := all_at dvX8_readNumber_39 14 rfl
theorem dX8_readNumber_67 : decode cX8_readNumber 67 = .ok (.baload, 1) := all_at dvX8_readNumber_39 15 rfl
theorem dX8_readNumber_68 : decode cX8_readNumber 68 = .ok (.bipush 48, 2) := all_at dvX8_readNumber_39 16 rfl
theorem dX8_readNumber_70 : decode cX8_readNumber 70 = .ok (.isub, 1) := all_at dvX8_readNumber_39 17 rfl
theorem dX8_readNumber_71 : decode cX8_readNumber 71 = .ok (.iadd, 1) := all_at dvX8_readNumber_39 18 rfl
theorem dX8_readNumber_72 : decode cX8_readNumber 72 = .ok (.istore 5, 2) := all_at dvX8_readNumber_39 19 rfl
theorem dX8_readNumber_74 : decode cX8_readNumber 74 = .ok (.iinc 6 1, 3) := all_at dvX8_readNumber_39 20 rfl
theorem dX8_readNumber_77 : decode cX8_readNumber 77 = .ok (.goto (-36), 3) := all_at dvX8_readNumber_39 21 rfl
theorem dX8_readNumber_80 : decode cX8_readNumber 80 = .ok (.iload 4, 2) := all_at dvX8_readNumber_39 22 rfl
theorem dX8_readNumber_82 : decode cX8_readNumber 82 = .ok (.iload_n 3, 1) := all_at dvX8_readNumber_39 23 rfl
set_option maxRecDepth 100000 in
theorem dvX8_readNumber_83 : ([(83, .isub, 1), (84, .iconst 4, 1), (85, .if_icmp .gt 13, 3), (88, .iload 5, 2), (90, .iload_n 1, 1), (91, .iload_n 2, 1), (92, .invokestatic 120, 3), (95, .ifCond .ne 12, 3), (98, .aload_n 0, 1), (99, .iconst 2, 1), (100, .iload_n 3, 1), (101, .invokevirtual 53, 3), (104, .pop, 1), (105, .iconst (-1), 1), (106, .ireturn, 1), (107, .aload_n 0, 1), (108, .iload 4, 2), (110, .putfield 25, 3), (113, .iload 5, 2), (115, .ireturn, 1)] : List (Nat × Instr × Nat)).all (fun q => decide (decode cX8_readNumber q.1 = .ok (q.2.1, q.2.2))) = true := by decide +kernel
theorem dX8_readNumber_83 : decode cX8_readNumber 83 = .ok (.isub, 1) := all_at dvX8_readNumber_83 0 rfl
theorem dX8_readNumber_84 : decode cX8_readNumber 84 = .ok (.iconst 4, 1) := all_at dvX8_readNumber_83 1 rfl
theorem dX8_readNumber_85 : decode cX8_readNumber 85 = .ok (.if_icmp .gt 13, 3) := all_at dvX8_readNumber_83 2 rfl
theorem dX8_readNumber_88 : decode cX8_readNumber 88 = .ok (.iload 5, 2) := all_at dvX8_readNumber_83 3 rfl
theorem dX8_readNumber_90 : decode cX8_readNumber 90 = .ok (.iload_n 1, 1) := all_at dvX8_readNumber_83 4 rfl
theorem dX8_readNumber_91 : decode cX8_readNumber 91 = .ok (.iload_n 2, 1) := all_at dvX8_readNumber_83 5 rfl
theorem dX8_readNumber_92 : decode cX8_readNumber 92 = .ok (.invokestatic 120, 3) := all_at dvX8_readNumber_83 6 rfl
theorem dX8_readNumber_95 : decode cX8_readNumber 95 = .ok (.ifCond .ne 12, 3) := all_at dvX8_readNumber_83 7 rfl
theorem dX8_readNumber_98 : decode cX8_readNumber 98 = .ok (.aload_n 0, 1) := all_at dvX8_readNumber_83 8 rfl
theorem dX8_readNumber_99 : decode cX8_readNumber 99 = .ok (.iconst 2, 1) := all_at dvX8_readNumber_83 9 rfl
theorem dX8_readNumber_100 : decode cX8_readNumber 100 = .ok (.iload_n 3, 1) := all_at dvX8_readNumber_83 10 rfl
theorem dX8_readNumber_101 : decode cX8_readNumber 101 = .ok (.invokevirtual 53, 3) := all_at dvX8_readNumber_83 11 rfl
theorem dX8_readNumber_104 : decode cX8_readNumber 104 = .ok (.pop, 1) := all_at dvX8_readNumber_83 12 rfl
theorem dX8_readNumber_105 : decode cX8_readNumber 105 = .ok (.iconst (-1), 1) := all_at dvX8_readNumber_83 13 rfl
theorem dX8_readNumber_106 : decode cX8_readNumber 106 = .ok (.ireturn, 1) := all_at dvX8_readNumber_83 14 rfl
theorem dX8_readNumber_107 : decode cX8_readNumber 107 = .ok (.aload_n 0, 1) := all_at dvX8_readNumber_83 15 rfl
theorem dX8_readNumber_108 : decode cX8_readNumber 108 = .ok (.iload 4, 2) := all_at dvX8_readNumber_83 16 rfl
theorem dX8_readNumber_110 : decode cX8_readNumber 110 = .ok (.putfield 25, 3) := all_at dvX8_readNumber_83 17 rfl
theorem dX8_readNumber_113 : decode cX8_readNumber 113 = .ok (.iload 5, 2) := all_at dvX8_readNumber_83 18 rfl
theorem dX8_readNumber_115 : decode cX8_readNumber 115 = .ok (.ireturn, 1) := all_at dvX8_readNumber_83 19 rfl
set_option maxRecDepth 100000 in
theorem dvX8_readStop_0 : ([(0, .aload_n 0, 1), (1, .invokevirtual 37, 3), (4, .ifCond .eq 17, 3), (7, .aload_n 0, 1), (8, .getfield 11, 3), (11, .aload_n 0, 1), (12, .getfield 25, 3), (15, .baload, 1), (16, .bipush 59, 2), (18, .if_icmp .eq 13, 3), (21, .aload_n 0, 1), (22, .iconst 1, 1), (23, .aload_n 0, 1), (24, .getfield 25, 3), (27, .invokevirtual 53, 3), (30, .ireturn, 1), (31, .aload_n 0, 1), (32, .dup, 1), (33, .getfield 25, 3), (36, .iconst 1, 1), (37, .iadd, 1), (38, .putfield 25, 3), (41, .iconst 1, 1), (42, .ireturn, 1)] : List (Nat × Instr × Nat)).all (fun q => decide (decode cX8_readStop q.1 = .ok (q.2.1, q.2.2))) = true := by decide +kernel
theorem dX8_readStop_0 : decode cX8_readStop 0 = .ok (.aload_n 0, 1) := all_at dvX8_readStop_0 0 rfl
theorem dX8_readStop_1 : decode cX8_readStop 1 = .ok (.invokevirtual 37, 3) := all_at dvX8_readStop_0 1 rfl
theorem dX8_readStop_4 : decode cX8_readStop 4 = .ok (.ifCond .eq 17, 3) := all_at dvX8_readStop_0 2 rfl
theorem dX8_readStop_7 : decode cX8_readStop 7 = .ok (.aload_n 0, 1) := all_at dvX8_readStop_0 3 rfl
theorem dX8_readStop_8 : decode cX8_readStop 8 = .ok (.getfield 11, 3) := all_at dvX8_readStop_0 4 rfl
theorem dX8_readStop_11 : decode cX8_readStop 11 = .ok (.aload_n 0, 1) := all_at dvX8_readStop_0 5 rfl
theorem dX8_readStop_12 : decode cX8_readStop 12 = .ok (.getfield 25, 3) := all_at dvX8_readStop_0 6 rfl
theorem dX8_readStop_15 : decode cX8_readStop 15 = .ok (.baload, 1) := all_at dvX8_readStop_0 7 rfl
theorem dX8_readStop_16 : decode cX8_readStop 16 = .ok (.bipush 59, 2) := all_at dvX8_readStop_0 8 rfl
theorem dX8_readStop_18 : decode cX8_readStop 18 = .ok (.if_icmp .eq 13, 3) := all_at dvX8_readStop_0 9 rfl
theorem dX8_readStop_21 : decode cX8_readStop 21 = .ok (.aload_n 0, 1) := all_at dvX8_readStop_0 10 rfl
theorem dX8_readStop_22 : decode cX8_readStop 22 = .ok (.iconst 1, 1) := all_at dvX8_readStop_0 11 rfl
theorem dX8_readStop_23 : decode cX8_readStop 23 = .ok (.aload_n 0, 1) := all_at dvX8_readStop_0 12 rfl
theorem dX8_readStop_24 : decode cX8_readStop 24 = .ok (.getfield 25, 3) := all_at dvX8_readStop_0 13 rfl
theorem dX8_readStop_27 : decode cX8_readStop 27 = .ok (.invokevirtual 53, 3) := all_at dvX8_readStop_0 14 rfl
theorem dX8_readStop_30 : decode cX8_readStop 30 = .ok (.ireturn, 1) := all_at dvX8_readStop_0 15 rfl
theorem dX8_readStop_31 : decode cX8_readStop 31 = .ok (.aload_n 0, 1) := all_at dvX8_readStop_0 16 rfl
theorem dX8_readStop_32 : decode cX8_readStop 32 = .ok (.dup, 1) := all_at dvX8_readStop_0 17 rfl
theorem dX8_readStop_33 : decode cX8_readStop 33 = .ok (.getfield 25, 3) := all_at dvX8_readStop_0 18 rfl
theorem dX8_readStop_36 : decode cX8_readStop 36 = .ok (.iconst 1, 1) := all_at dvX8_readStop_0 19 rfl
theorem dX8_readStop_37 : decode cX8_readStop 37 = .ok (.iadd, 1) := all_at dvX8_readStop_0 20 rfl
theorem dX8_readStop_38 : decode cX8_readStop 38 = .ok (.putfield 25, 3) := all_at dvX8_readStop_0 21 rfl
theorem dX8_readStop_41 : decode cX8_readStop 41 = .ok (.iconst 1, 1) := all_at dvX8_readStop_0 22 rfl
theorem dX8_readStop_42 : decode cX8_readStop 42 = .ok (.ireturn, 1) := all_at dvX8_readStop_0 23 rfl
set_option maxRecDepth 100000 in
theorem dvX8_readStrike_0 : ([(0, .aload_n 0, 1), (1, .invokevirtual 37, 3), (4, .pop, 1), (5, .aload_n 0, 1), (6, .getfield 25, 3), (9, .istore_n 1, 1), (10, .aload_n 0, 1), (11, .iconst 0, 1), (12, .sipush 9999, 3), (15, .invokevirtual 78, 3), (18, .istore_n 2, 1), (19, .iload_n 2, 1), (20, .iconst (-1), 1), (21, .if_icmp .ne 5, 3), (24, .iconst 0, 1), (25, .ireturn, 1), (26, .iload_n 2, 1), (27, .aload_n 0, 1), (28, .getfield 28, 3), (31, .getfield 96, 3), (34, .if_icmp .lt 10, 3), (37, .aload_n 0, 1), (38, .iconst 3, 1), (39, .iload_n 1, 1)] : List (Nat × Instr × Nat)).all (fun q => decide (decode cX8_readStrike q.1 = .ok (q.2.1, q.2.2))) = true := by decide +kernel
theorem dX8_readStrike_0 : decode cX8_readStrike 0 = .ok (.aload_n 0, 1) := all_at dvX8_readStrike_0 0 rfl
theorem dX8_readStrike_1 : decode cX8_readStrike 1 = .ok (.invokevirtual 37, 3) := all_at dvX8_readStrike_0 1 rfl
theorem dX8_readStrike_4 : decode cX8_readStrike 4 = .ok (.pop, 1) := all_at dvX8_readStrike_0 2 rfl
theorem dX8_readStrike_5 : decode cX8_readStrike 5 = .ok (.aload_n 0, 1) := all_at dvX8_readStrike_0 3 rfl
theorem dX8_readStrike_6 : decode cX8_readStrike 6 = .ok (.getfield 25, 3) := all_at dvX8_readStrike_0 4 rfl
theorem dX8_readStrike_9 : decode cX8_readStrike 9 = .ok (.istore_n 1, 1) := all_at dvX8_readStrike_0 5 rfl
theorem dX8_readStrike_10 : decode cX8_readStrike 10 = .ok (.aload_n 0, 1) := all_at dvX8_readStrike_0 6 rfl
theorem dX8_readStrike_11 : decode cX8_readStrike 11 = .ok (.iconst 0, 1) := all_at dvX8_readStrike_0 7 rfl
theorem dX8_readStrike_12 : decode cX8_readStrike 12 = .ok (.sipush 9999, 3) := all_at dvX8_readStrike_0 8 rfl
theorem dX8_readStrike_15 : decode cX8_readStrike 15 = .ok (.invokevirtual 78, 3) := all_at dvX8_readStrike_0 9 rfl
theorem dX8_readStrike_18 : decode cX8_readStrike 18 = .ok (.istore_n 2, 1) := all_at dvX8_readStrike_0 10 rfl
theorem dX8_readStrike_19 : decode cX8_readStrike 19 = .ok (.iload_n 2, 1) := all_at dvX8_readStrike_0 11 rfl
theorem dX8_readStrike_20 : decode cX8_readStrike 20 = .ok (.iconst (-1), 1) := all_at dvX8_readStrike_0 12 rfl
theorem dX8_readStrike_21 : decode cX8_readStrike 21 = .ok (.if_icmp .ne 5, 3) := all_at dvX8_readStrike_0 13 rfl
theorem dX8_readStrike_24 : decode cX8_readStrike 24 = .ok (.iconst 0, 1) := all_at dvX8_readStrike_0 14 rfl
theorem dX8_readStrike_25 : decode cX8_readStrike 25 = .ok (.ireturn, 1) := all_at dvX8_readStrike_0 15 rfl
theorem dX8_readStrike_26 : decode cX8_readStrike 26 = .ok (.iload_n 2, 1) := all_at dvX8_readStrike_0 16 rfl
theorem dX8_readStrike_27 : decode cX8_readStrike 27 = .ok (.aload_n 0, 1) := all_at dvX8_readStrike_0 17 rfl
theorem dX8_readStrike_28 : decode cX8_readStrike 28 = .ok (.getfield 28, 3) := all_at dvX8_readStrike_0 18 rfl
theorem dX8_readStrike_31 : decode cX8_readStrike 31 = .ok (.getfield 96, 3) := all_at dvX8_readStrike_0 19 rfl
theorem dX8_readStrike_34 : decode cX8_readStrike 34 = .ok (.if_icmp .lt 10, 3) := all_at dvX8_readStrike_0 20 rfl
theorem dX8_readStrike_37 : decode cX8_readStrike 37 = .ok (.aload_n 0, 1) := all_at dvX8_readStrike_0 21 rfl
theorem dX8_readStrike_38 : decode cX8_readStrike 38 = .ok (.iconst 3, 1) := all_at dvX8_readStrike_0 22 rfl
theorem dX8_readStrike_39 : decode cX8_readStrike 39 = .ok (.iload_n 1, 1) := all_at dvX8_readStrike_0 23 rfl
set_option maxRecDepth 100000 in
theorem dvX8_readStrike_40 : ([(40, .invokevirtual 53, 3), (43, .ireturn, 1), (44, .aload_n 0, 1), (45, .invokevirtual 82, 3), (48, .ifCond .ne 5, 3), (51, .iconst 0, 1), (52, .ireturn, 1), (53, .aload_n 0, 1), (54, .getfield 28, 3), (57, .bipush 7, 2), (59, .iload_n 2, 1), (60, .iconst 0, 1), (61, .invokevirtual 85, 3), (64, .iconst 1, 1), (65, .ireturn, 1)] : List (Nat × Instr × Nat)).all (fun q => decide (decode cX8_readStrike q.1 = .ok (q.2.1, q.2.2))) = true := by decide +kernel
theorem dX8_readStrike_40 : decode cX8_readStrike 40 = .ok (.invokevirtual 53, 3) := all_at dvX8_readStrike_40 0 rfl
theorem dX8_readStrike_43 : decode cX8_readStrike 43 = .ok (.ireturn, 1) := all_at dvX8_readStrike_40 1 rfl
theorem dX8_readStrike_44 : decode cX8_readStrike 44 = .ok (.aload_n 0, 1) := all_at dvX8_readStrike_40 2 rfl
theorem dX8_readStrike_45 : decode cX8_readStrike 45 = .ok (.invokevirtual 82, 3) := all_at dvX8_readStrike_40 3 rfl
theorem dX8_readStrike_48 : decode cX8_readStrike 48 = .ok (.ifCond .ne 5, 3) := all_at dvX8_readStrike_40 4 rfl
theorem dX8_readStrike_51 : decode cX8_readStrike 51 = .ok (.iconst 0, 1) := all_at dvX8_readStrike_40 5 rfl
theorem dX8_readStrike_52 : decode cX8_readStrike 52 = .ok (.ireturn, 1) := all_at dvX8_readStrike_40 6 rfl
theorem dX8_readStrike_53 : decode cX8_readStrike 53 = .ok (.aload_n 0, 1) := all_at dvX8_readStrike_40 7 rfl
theorem dX8_readStrike_54 : decode cX8_readStrike 54 = .ok (.getfield 28, 3) := all_at dvX8_readStrike_40 8 rfl
theorem dX8_readStrike_57 : decode cX8_readStrike 57 = .ok (.bipush 7, 2) := all_at dvX8_readStrike_40 9 rfl
theorem dX8_readStrike_59 : decode cX8_readStrike 59 = .ok (.iload_n 2, 1) := all_at dvX8_readStrike_40 10 rfl
theorem dX8_readStrike_60 : decode cX8_readStrike 60 = .ok (.iconst 0, 1) := all_at dvX8_readStrike_40 11 rfl
theorem dX8_readStrike_61 : decode cX8_readStrike 61 = .ok (.invokevirtual 85, 3) := all_at dvX8_readStrike_40 12 rfl
theorem dX8_readStrike_64 : decode cX8_readStrike 64 = .ok (.iconst 1, 1) := all_at dvX8_readStrike_40 13 rfl
theorem dX8_readStrike_65 : decode cX8_readStrike 65 = .ok (.ireturn, 1) := all_at dvX8_readStrike_40 14 rfl
set_option maxRecDepth 100000 in
theorem dvX8_readTake_0 : ([(0, .aload_n 0, 1), (1, .ldc 89, 2), (3, .invokevirtual 46, 3), (6, .istore_n 1, 1), (7, .iload_n 1, 1), (8, .iconst (-1), 1), (9, .if_icmp .eq 10, 3), (12, .aload_n 0, 1), (13, .invokevirtual 82, 3), (16, .ifCond .ne 5, 3), (19, .iconst 0, 1), (20, .ireturn, 1), (21, .aload_n 0, 1), (22, .getfield 28, 3), (25, .iconst 5, 1), (26, .iload_n 1, 1), (27, .iconst 0, 1), (28, .invokevirtual 85, 3), (31, .iconst 1, 1), (32, .ireturn, 1)] : List (Nat × Instr × Nat)).all (fun q => decide (decode cX8_readTake q.1 = .ok (q.2.1, q.2.2))) = true := by decide +kernel
theorem dX8_readTake_0 : decode cX8_readTake 0 = .ok (.aload_n 0, 1) := all_at dvX8_readTake_0 0 rfl
theorem dX8_readTake_1 : decode cX8_readTake 1 = .ok (.ldc 89, 2) := all_at dvX8_readTake_0 1 rfl
theorem dX8_readTake_3 : decode cX8_readTake 3 = .ok (.invokevirtual 46, 3) := all_at dvX8_readTake_0 2 rfl
theorem dX8_readTake_6 : decode cX8_readTake 6 = .ok (.istore_n 1, 1) := all_at dvX8_readTake_0 3 rfl
theorem dX8_readTake_7 : decode cX8_readTake 7 = .ok (.iload_n 1, 1) := all_at dvX8_readTake_0 4 rfl
theorem dX8_readTake_8 : decode cX8_readTake 8 = .ok (.iconst (-1), 1) := all_at dvX8_readTake_0 5 rfl
theorem dX8_readTake_9 : decode cX8_readTake 9 = .ok (.if_icmp .eq 10, 3) := all_at dvX8_readTake_0 6 rfl
theorem dX8_readTake_12 : decode cX8_readTake 12 = .ok (.aload_n 0, 1) := all_at dvX8_readTake_0 7 rfl
theorem dX8_readTake_13 : decode cX8_readTake 13 = .ok (.invokevirtual 82, 3) := all_at dvX8_readTake_0 8 rfl
theorem dX8_readTake_16 : decode cX8_readTake 16 = .ok (.ifCond .ne 5, 3) := all_at dvX8_readTake_0 9 rfl
theorem dX8_readTake_19 : decode cX8_readTake 19 = .ok (.iconst 0, 1) := all_at dvX8_readTake_0 10 rfl
theorem dX8_readTake_20 : decode cX8_readTake 20 = .ok (.ireturn, 1) := all_at dvX8_readTake_0 11 rfl
theorem dX8_readTake_21 : decode cX8_readTake 21 = .ok (.aload_n 0, 1) := all_at dvX8_readTake_0 12 rfl
theorem dX8_readTake_22 : decode cX8_readTake 22 = .ok (.getfield 28, 3) := all_at dvX8_readTake_0 13 rfl
theorem dX8_readTake_25 : decode cX8_readTake 25 = .ok (.iconst 5, 1) := all_at dvX8_readTake_0 14 rfl
theorem dX8_readTake_26 : decode cX8_readTake 26 = .ok (.iload_n 1, 1) := all_at dvX8_readTake_0 15 rfl
theorem dX8_readTake_27 : decode cX8_readTake 27 = .ok (.iconst 0, 1) := all_at dvX8_readTake_0 16 rfl
theorem dX8_readTake_28 : decode cX8_readTake 28 = .ok (.invokevirtual 85, 3) := all_at dvX8_readTake_0 17 rfl
theorem dX8_readTake_31 : decode cX8_readTake 31 = .ok (.iconst 1, 1) := all_at dvX8_readTake_0 18 rfl
theorem dX8_readTake_32 : decode cX8_readTake 32 = .ok (.ireturn, 1) := all_at dvX8_readTake_0 19 rfl
set_option maxRecDepth 100000 in
theorem dvX8_readWord_0 : ([(0, .aload_n 0, 1), (1, .invokevirtual 37, 3), (4, .pop, 1), (5, .aload_n 0, 1), (6, .bipush 97, 2), (8, .bipush 122, 2), (10, .invokevirtual 99, 3), (13, .istore_n 1, 1), (14, .iload_n 1, 1), (15, .aload_n 0, 1), (16, .getfield 25, 3), (19, .if_icmp .ne 13, 3), (22, .aload_n 0, 1), (23, .iconst 1, 1), (24, .aload_n 0, 1), (25, .getfield 25, 3), (28, .invokevirtual 53, 3), (31, .ireturn, 1), (32, .iload_n 1, 1), (33, .aload_n 0, 1), (34, .getfield 25, 3), (37, .isub, 1), (38, .bipush 8, 2), (40, .if_icmp .le 13, 3)] : List (Nat × Instr × Nat)).all (fun q => decide (decode cX8_readWord q.1 = .ok (q.2.1, q.2.2))) = true := by decide +kernel
theorem dX8_readWord_0 : decode cX8_readWord 0 = .ok (.aload_n 0, 1) := all_at dvX8_readWord_0 0 rfl
theorem dX8_readWord_1 : decode cX8_readWord 1 = .ok (.invokevirtual 37, 3) := all_at dvX8_readWord_0 1 rfl
theorem dX8_readWord_4 : decode cX8_readWord 4 = .ok (.pop, 1) := all_at dvX8_readWord_0 2 rfl
theorem dX8_readWord_5 : decode cX8_readWord 5 = .ok (.aload_n 0, 1) := all_at dvX8_readWord_0 3 rfl
theorem dX8_readWord_6 : decode cX8_readWord 6 = .ok (.bipush 97, 2) := all_at dvX8_readWord_0 4 rfl
theorem dX8_readWord_8 : decode cX8_readWord 8 = .ok (.bipush 122, 2) := all_at dvX8_readWord_0 5 rfl
theorem dX8_readWord_10 : decode cX8_readWord 10 = .ok (.invokevirtual 99, 3) := all_at dvX8_readWord_0 6 rfl
theorem dX8_readWord_13 : decode cX8_readWord 13 = .ok (.istore_n 1, 1) := all_at dvX8_readWord_0 7 rfl
theorem dX8_readWord_14 : decode cX8_readWord 14 = .ok (.iload_n 1, 1) := all_at dvX8_readWord_0 8 rfl
theorem dX8_readWord_15 : decode cX8_readWord 15 = .ok (.aload_n 0, 1) := all_at dvX8_readWord_0 9 rfl
theorem dX8_readWord_16 : decode cX8_readWord 16 = .ok (.getfield 25, 3) := all_at dvX8_readWord_0 10 rfl
theorem dX8_readWord_19 : decode cX8_readWord 19 = .ok (.if_icmp .ne 13, 3) := all_at dvX8_readWord_0 11 rfl
theorem dX8_readWord_22 : decode cX8_readWord 22 = .ok (.aload_n 0, 1) := all_at dvX8_readWord_0 12 rfl
theorem dX8_readWord_23 : decode cX8_readWord 23 = .ok (.iconst 1, 1) := all_at dvX8_readWord_0 13 rfl
theorem dX8_readWord_24 : decode cX8_readWord 24 = .ok (.aload_n 0, 1) := all_at dvX8_readWord_0 14 rfl
theorem dX8_readWord_25 : decode cX8_readWord 25 = .ok (.getfield 25, 3) := all_at dvX8_readWord_0 15 rfl
theorem dX8_readWord_28 : decode cX8_readWord 28 = .ok (.invokevirtual 53, 3) := all_at dvX8_readWord_0 16 rfl
theorem dX8_readWord_31 : decode cX8_readWord 31 = .ok (.ireturn, 1) := all_at dvX8_readWord_0 17 rfl
theorem dX8_readWord_32 : decode cX8_readWord 32 = .ok (.iload_n 1, 1) := all_at dvX8_readWord_0 18 rfl
theorem dX8_readWord_33 : decode cX8_readWord 33 = .ok (.aload_n 0, 1) := all_at dvX8_readWord_0 19 rfl
theorem dX8_readWord_34 : decode cX8_readWord 34 = .ok (.getfield 25, 3) := all_at dvX8_readWord_0 20 rfl
theorem dX8_readWord_37 : decode cX8_readWord 37 = .ok (.isub, 1) := all_at dvX8_readWord_0 21 rfl
theorem dX8_readWord_38 : decode cX8_readWord 38 = .ok (.bipush 8, 2) := all_at dvX8_readWord_0 22 rfl
theorem dX8_readWord_40 : decode cX8_readWord 40 = .ok (.if_icmp .le 13, 3) := all_at dvX8_readWord_0 23 rfl
set_option maxRecDepth 100000 in
theorem dvX8_readWord_43 : ([(43, .aload_n 0, 1), (44, .iconst 4, 1), (45, .aload_n 0, 1), (46, .getfield 25, 3), (49, .invokevirtual 53, 3), (52, .ireturn, 1), (53, .aload_n 0, 1), (54, .getfield 28, 3), (57, .aload_n 0, 1), (58, .getfield 11, 3), (61, .aload_n 0, 1), (62, .getfield 25, 3), (65, .iload_n 1, 1), (66, .invokevirtual 103, 3), (69, .aload_n 0, 1), (70, .iload_n 1, 1), (71, .putfield 25, 3), (74, .iconst 1, 1), (75, .ireturn, 1)] : List (Nat × Instr × Nat)).all (fun q => decide (decode cX8_readWord q.1 = .ok (q.2.1, q.2.2))) = true := by decide +kernel
theorem dX8_readWord_43 : decode cX8_readWord 43 = .ok (.aload_n 0, 1) := all_at dvX8_readWord_43 0 rfl
theorem dX8_readWord_44 : decode cX8_readWord 44 = .ok (.iconst 4, 1) := all_at dvX8_readWord_43 1 rfl
theorem dX8_readWord_45 : decode cX8_readWord 45 = .ok (.aload_n 0, 1) := all_at dvX8_readWord_43 2 rfl
theorem dX8_readWord_46 : decode cX8_readWord 46 = .ok (.getfield 25, 3) := all_at dvX8_readWord_43 3 rfl
theorem dX8_readWord_49 : decode cX8_readWord 49 = .ok (.invokevirtual 53, 3) := all_at dvX8_readWord_43 4 rfl
theorem dX8_readWord_52 : decode cX8_readWord 52 = .ok (.ireturn, 1) := all_at dvX8_readWord_43 5 rfl
theorem dX8_readWord_53 : decode cX8_readWord 53 = .ok (.aload_n 0, 1) := all_at dvX8_readWord_43 6 rfl
theorem dX8_readWord_54 : decode cX8_readWord 54 = .ok (.getfield 28, 3) := all_at dvX8_readWord_43 7 rfl
theorem dX8_readWord_57 : decode cX8_readWord 57 = .ok (.aload_n 0, 1) := all_at dvX8_readWord_43 8 rfl
theorem dX8_readWord_58 : decode cX8_readWord 58 = .ok (.getfield 11, 3) := all_at dvX8_readWord_43 9 rfl
theorem dX8_readWord_61 : decode cX8_readWord 61 = .ok (.aload_n 0, 1) := all_at dvX8_readWord_43 10 rfl
theorem dX8_readWord_62 : decode cX8_readWord 62 = .ok (.getfield 25, 3) := all_at dvX8_readWord_43 11 rfl
theorem dX8_readWord_65 : decode cX8_readWord 65 = .ok (.iload_n 1, 1) := all_at dvX8_readWord_43 12 rfl
theorem dX8_readWord_66 : decode cX8_readWord 66 = .ok (.invokevirtual 103, 3) := all_at dvX8_readWord_43 13 rfl
theorem dX8_readWord_69 : decode cX8_readWord 69 = .ok (.aload_n 0, 1) := all_at dvX8_readWord_43 14 rfl
theorem dX8_readWord_70 : decode cX8_readWord 70 = .ok (.iload_n 1, 1) := all_at dvX8_readWord_43 15 rfl
theorem dX8_readWord_71 : decode cX8_readWord 71 = .ok (.putfield 25, 3) := all_at dvX8_readWord_43 16 rfl
theorem dX8_readWord_74 : decode cX8_readWord 74 = .ok (.iconst 1, 1) := all_at dvX8_readWord_43 17 rfl
theorem dX8_readWord_75 : decode cX8_readWord 75 = .ok (.ireturn, 1) := all_at dvX8_readWord_43 18 rfl
theorem sw_0_2 (x : Int32) : (x.toInt < 0 ∨ 2 < x.toInt) ∨ x = 0 ∨ x = 1 ∨ x = 2 := by
  by_cases h : x.toInt < 0 ∨ 2 < x.toInt
  · exact Or.inl h
  · right
    have h2 : x.toInt = 0 ∨ x.toInt = 1 ∨ x.toInt = 2 := by omega
    rcases h2 with h2 | h2 | h2
    · exact Or.inl (z_of (by decide) h2)
    · exact Or.inr (Or.inl (z_of (by decide) h2))
    · exact Or.inr (Or.inr (z_of (by decide) h2))
theorem nar01 {x : Int32} (h : 0 ≤ x.toInt ∧ x.toInt ≤ 1) : narrow .boolean (.int x) = .int x := by
  rcases (by omega : x.toInt = 0 ∨ x.toInt = 1) with h | h
  · rw [show x = 0 from z_of (by decide) h]; rfl
  · rw [show x = 1 from z_of (by decide) h]; rfl
set_option maxHeartbeats 4000000 in
set_option maxRecDepth 100000 in
/-- X8_skipBlanks -/
theorem c_X8_skipBlanks_x (l : Launch) (dC : Nat → ClassId) (dI : Nat → Nat → Nat) (sz : Nat) (h : Nat) (g : Nat → Nat → Nat) (ca : Nat → Nat → ClassId) (iv : Nat → Nat → Int32) (lv : Nat → Nat → Int64) (fa : Nat → Nat → Nat → Int32) (la : Nat → Nat → Nat → Int64) (hI : IX iv fa) : Met l yX8_skipBlanks (wc yX8_skipBlanks cX8_skipBlanks 1 (some .boolean)) ({ frames := 0, cells := 0, slots := 0, locals := 0 } : Room) (pW (dC, dI) classes (WX h g ca iv lv fa la) (TX ca) sz [.ref (g 11 4)]) (va_Qi (fun r (u : SS) => ∃ (ni_8_5 : Int32), inb (bI 8 5) ni_8_5 ∧ ((r.toInt = 0 ∨ (ni_8_5).toInt + 1 ≤ (iv 8 2).toInt)) ∧ (0 ≤ r.toInt ∧ r.toInt ≤ 1) ∧ u = ((u2 iv 8 5 ni_8_5), lv, fa, la)) (bX (dC, dI) h g ca (va_A (WX h g ca iv lv fa la) sz)) (va_A (WX h g ca iv lv fa la) sz)) 0 0 (va_A (WX h g ca iv lv fa la) sz) := by
  refine Met.ofW (cc := cX8_skipBlanks) (maxL := 1) (ret := (some .boolean)) (by decide) rfl ?_
  intro p e s m args below meth c s₁ B hml hv
  obtain ⟨rfl, hsz, hP, hK, hD0⟩ := hv
  have hx := B.exec
  have hb := B.bytes
  have hr := B.returns
  have ht := tb_tl (atoms_spec (ws := wc yX8_skipBlanks cX8_skipBlanks 1 (some .boolean)) B.pre)
  have hown : s.vm.findClass RX8 = some m.cls := findClass_of_methodNamed B.named
  have hlocks := B.notSynchronized
  subst hsz
  have hD := hD0.self (sz := s.heap.size)
  generalize hAe : va_A (WX h g ca iv lv fa la) s.heap.size = A at hD ⊢
  have hA : ∀ q : Nat, s.heap.size ≤ q → A q := fun q h => by rw [← hAe]; exact Or.inr h
  have hS : va_S A s.heap s.heap [] := va_S.rf
  have hl := lv_entry [.ref (g 11 4)] (n := 1) (Nat.le_of_ble_eq_true rfl)
  rw [lg_entry_eq]
  generalize (lg_sl [.ref (g 11 4)] ++ List.replicate (1 - (lg_sl [.ref (g 11 4)]).length) Slot.unset).toArray = ls at hl ⊢
  have hl : lv_has ls 1 [(0, .ref (g 11 4))] := hl
  have lp16 : ∀ (nn16 : Nat) (w15_i_8_5 : Int32), 0 ≤ w15_i_8_5.toInt ∧ w15_i_8_5.toInt ≤ 200 → 200 - w15_i_8_5.toInt < (nn16 : Int) → ∀ (H : Heap) (locs : List Loc), ∀ (ls : Array Slot), va_P (dC, dI) classes (WX h g ca (u2 iv 8 5 w15_i_8_5) lv fa la) H → va_D A (WX h g ca (u2 iv 8 5 w15_i_8_5) lv fa la) → va_S A s.heap H locs → lv_has ls 1 [(0, .ref (g 11 4))] → W p l e ({ frames := 0, cells := 0, slots := 0, locals := 0 } : Room) s m ([.ref (g 11 4)] : List Value).toArray below meth c H locs 0 0 (MQ below (va_Qi (fun r (u : SS) => ∃ (ni_8_5 : Int32), inb (bI 8 5) ni_8_5 ∧ ((r.toInt = 0 ∨ (ni_8_5).toInt + 1 ≤ (iv 8 2).toInt)) ∧ (0 ≤ r.toInt ∧ r.toInt ≤ 1) ∧ u = ((u2 iv 8 5 ni_8_5), lv, fa, la)) (bX (dC, dI) h g ca A) A) ([.ref (g 11 4)] : List Value).toArray s 0 0 A) (F0 m 0 ls []) := by
    intro nn16
    induction nn16 with
    | zero => intro w15_i_8_5 hw15_i_8_5 hm16; exfalso; omega
    | succ nn16 ih16 =>
      intro w15_i_8_5 hw15_i_8_5 hm16 H locs ls hP hD hS hl
      refine lv_aload_n hx hb dX8_skipBlanks_0 rfl (lv_at hl 0 rfl) ?_
      refine gX_8_5 hx hb ht hown hK hP m_235 (v := w15_i_8_5) rfl dX8_skipBlanks_1 ?_
      refine lv_aload_n hx hb dX8_skipBlanks_4 rfl (lv_at hl 0 rfl) ?_
      have i_8_2 : 0 ≤ (iv 8 2).toInt ∧ (iv 8 2).toInt ≤ 200 := hI.1 8 2
      refine gX_8_2 hx hb ht hown hK hP m_230 (v := (iv 8 2)) rfl dX8_skipBlanks_5 ?_
      refine lv_icmp_ge (tgt := 38) hx hb dX8_skipBlanks_8 (by decide) (fun c17 => ?_) (fun c17 => ?_)
      · have fc17 := z_le (rfl : ((iv 8 2)).toInt = _) (rfl : (w15_i_8_5).toInt = _) c17
        refine lv_aload_n hx hb dX8_skipBlanks_38 rfl (lv_at hl 0 rfl) ?_
        refine gX_8_5 hx hb ht hown hK hP m_235 (v := w15_i_8_5) rfl dX8_skipBlanks_39 ?_
        refine lv_aload_n hx hb dX8_skipBlanks_42 rfl (lv_at hl 0 rfl) ?_
        refine gX_8_2 hx hb ht hown hK hP m_230 (v := (iv 8 2)) rfl dX8_skipBlanks_43 ?_
        refine lv_icmp_ge (tgt := 53) hx hb dX8_skipBlanks_46 (by decide) (fun c18 => ?_) (fun c18 => ?_)
        · have fc18 := z_le (rfl : ((iv 8 2)).toInt = _) (rfl : (w15_i_8_5).toInt = _) c18
          refine lv_iconst (v := 0) hx hb dX8_skipBlanks_53 (by decide) ?_
          have : (0 : Int32).toInt = 0 := (by decide)
          have hP9 : va_P (dC, dI) classes (WX h g ca (u2 iv 8 5 w15_i_8_5) lv fa la) H := hP
          have hD9 : va_D A (WX h g ca (u2 iv 8 5 w15_i_8_5) lv fa la) := hD
          exact W.zret (v := 0) hx hb hr rfl (fun t ht9 hW => ⟨⟨0, ((u2 iv 8 5 w15_i_8_5), lv, fa, la), rfl, ⟨w15_i_8_5, (show inb (0, 200) w15_i_8_5 from ⟨by omega, by omega⟩), (show ((0 : Int32).toInt = 0 ∨ (w15_i_8_5 : Int32).toInt + 1 ≤ ((iv 8 2) : Int32).toInt) from by omega), ⟨by decide, by decide⟩, rfl⟩, by rw [ht9]; exact hP9, hD9⟩, hS.F ht9⟩) hS.2.2 dX8_skipBlanks_54
        · have fc18 := z_nle (rfl : ((iv 8 2)).toInt = _) (rfl : (w15_i_8_5).toInt = _) c18
          refine lv_iconst (v := 1) hx hb dX8_skipBlanks_49 (by decide) ?_
          refine lv_goto (tgt := 54) hx hb dX8_skipBlanks_50 (by decide) ?_
          have : (1 : Int32).toInt = 1 := (by decide)
          have hP9 : va_P (dC, dI) classes (WX h g ca (u2 iv 8 5 w15_i_8_5) lv fa la) H := hP
          have hD9 : va_D A (WX h g ca (u2 iv 8 5 w15_i_8_5) lv fa la) := hD
          exact W.zret (v := 1) hx hb hr rfl (fun t ht9 hW => ⟨⟨1, ((u2 iv 8 5 w15_i_8_5), lv, fa, la), rfl, ⟨w15_i_8_5, (show inb (0, 200) w15_i_8_5 from ⟨by omega, by omega⟩), (show ((1 : Int32).toInt = 0 ∨ (w15_i_8_5 : Int32).toInt + 1 ≤ ((iv 8 2) : Int32).toInt) from by omega), ⟨by decide, by decide⟩, rfl⟩, by rw [ht9]; exact hP9, hD9⟩, hS.F ht9⟩) hS.2.2 dX8_skipBlanks_54
      · have fc17 := z_nle (rfl : ((iv 8 2)).toInt = _) (rfl : (w15_i_8_5).toInt = _) c17
        refine lv_aload_n hx hb dX8_skipBlanks_11 rfl (lv_at hl 0 rfl) ?_
        refine gX_8_1 hx hb ht hown hK hP m_229 dX8_skipBlanks_12 ?_
        refine lv_aload_n hx hb dX8_skipBlanks_15 rfl (lv_at hl 0 rfl) ?_
        refine gX_8_5 hx hb ht hown hK hP m_235 (v := w15_i_8_5) rfl dX8_skipBlanks_16 ?_
        refine lX_8_1 hx hb hK hP (f := (fa 8 1)) rfl (vp_in_iff.mpr ⟨by omega, by omega⟩) dX8_skipBlanks_19 ?_
        refine lv_topi (fun v19 ev19 => ?_)
        refine lv_bipush (v := 32) hx hb dX8_skipBlanks_20 (by decide) ?_
        refine lv_icmp_ne (tgt := 38) hx hb dX8_skipBlanks_22 (by decide) (fun c20 => ?_) (fun c20 => ?_)
        · have fc20 := z_ne (rfl : (v19).toInt = _) (by decide : (32 : Int32).toInt = 32) c20
          refine lv_aload_n hx hb dX8_skipBlanks_38 rfl (lv_at hl 0 rfl) ?_
          refine gX_8_5 hx hb ht hown hK hP m_235 (v := w15_i_8_5) rfl dX8_skipBlanks_39 ?_
          refine lv_aload_n hx hb dX8_skipBlanks_42 rfl (lv_at hl 0 rfl) ?_
          refine gX_8_2 hx hb ht hown hK hP m_230 (v := (iv 8 2)) rfl dX8_skipBlanks_43 ?_
          refine lv_icmp_ge (tgt := 53) hx hb dX8_skipBlanks_46 (by decide) (fun c21 => ?_) (fun c21 => ?_)
          · have fc21 := z_le (rfl : ((iv 8 2)).toInt = _) (rfl : (w15_i_8_5).toInt = _) c21
            refine lv_iconst (v := 0) hx hb dX8_skipBlanks_53 (by decide) ?_
            have : (0 : Int32).toInt = 0 := (by decide)
            have hP9 : va_P (dC, dI) classes (WX h g ca (u2 iv 8 5 w15_i_8_5) lv fa la) H := hP
            have hD9 : va_D A (WX h g ca (u2 iv 8 5 w15_i_8_5) lv fa la) := hD
            exact W.zret (v := 0) hx hb hr rfl (fun t ht9 hW => ⟨⟨0, ((u2 iv 8 5 w15_i_8_5), lv, fa, la), rfl, ⟨w15_i_8_5, (show inb (0, 200) w15_i_8_5 from ⟨by omega, by omega⟩), (show ((0 : Int32).toInt = 0 ∨ (w15_i_8_5 : Int32).toInt + 1 ≤ ((iv 8 2) : Int32).toInt) from by omega), ⟨by decide, by decide⟩, rfl⟩, by rw [ht9]; exact hP9, hD9⟩, hS.F ht9⟩) hS.2.2 dX8_skipBlanks_54
          · have fc21 := z_nle (rfl : ((iv 8 2)).toInt = _) (rfl : (w15_i_8_5).toInt = _) c21
            refine lv_iconst (v := 1) hx hb dX8_skipBlanks_49 (by decide) ?_
            refine lv_goto (tgt := 54) hx hb dX8_skipBlanks_50 (by decide) ?_
            have : (1 : Int32).toInt = 1 := (by decide)
            have hP9 : va_P (dC, dI) classes (WX h g ca (u2 iv 8 5 w15_i_8_5) lv fa la) H := hP
            have hD9 : va_D A (WX h g ca (u2 iv 8 5 w15_i_8_5) lv fa la) := hD
            exact W.zret (v := 1) hx hb hr rfl (fun t ht9 hW => ⟨⟨1, ((u2 iv 8 5 w15_i_8_5), lv, fa, la), rfl, ⟨w15_i_8_5, (show inb (0, 200) w15_i_8_5 from ⟨by omega, by omega⟩), (show ((1 : Int32).toInt = 0 ∨ (w15_i_8_5 : Int32).toInt + 1 ≤ ((iv 8 2) : Int32).toInt) from by omega), ⟨by decide, by decide⟩, rfl⟩, by rw [ht9]; exact hP9, hD9⟩, hS.F ht9⟩) hS.2.2 dX8_skipBlanks_54
        · have fc20 := z_eq (rfl : (v19).toInt = _) (by decide : (32 : Int32).toInt = 32) c20
          refine lv_aload_n hx hb dX8_skipBlanks_25 rfl (lv_at hl 0 rfl) ?_
          refine lv_dup hx hb dX8_skipBlanks_26 rfl ?_
          refine gX_8_5 hx hb ht hown hK hP m_235 (v := w15_i_8_5) rfl dX8_skipBlanks_27 ?_
          refine lv_iconst (v := 1) hx hb dX8_skipBlanks_30 (by decide) ?_
          refine lv_iadd hx hb dX8_skipBlanks_31 ?_
          refine lv_topi (fun v22 ev22 => ?_)
          have tv22 := z_add ev22 (rfl : (w15_i_8_5).toInt = _) (by decide : (1 : Int32).toInt = 1) (by omega) (by omega)
          refine pX_8_5 (v := v22) hx hb ht hown hK hP hD hS m_235 dX8_skipBlanks_32 (fun H locs hP hD hS => ?_)
          have hP : va_P (dC, dI) classes (WX h g ca (u2 iv 8 5 v22) lv fa la) H := hP
          have hD : va_D A (WX h g ca (u2 iv 8 5 v22) lv fa la) := hD
          refine lv_goto (tgt := 0) hx hb dX8_skipBlanks_35 (by decide) ?_
          exact ih16 v22 ⟨by omega, by omega⟩ (by omega) _ _ ls hP hD hS (lv_sub hl [0] rfl)
  have i_8_5 : 0 ≤ (iv 8 5).toInt ∧ (iv 8 5).toInt ≤ 200 := hI.1 8 5
  exact lp16 201 (iv 8 5) ⟨by omega, by omega⟩ (by first | decide | omega) _ _ ls hP hD hS (lv_sub hl [0] rfl)
set_option maxHeartbeats 4000000 in
set_option maxRecDepth 100000 in
/-- X8_readNumber -/
theorem c_X8_readNumber (l : Launch) (dC : Nat → ClassId) (dI : Nat → Nat → Nat) (sz : Nat) (ak av : Nat → Nat) (h : Nat) (g : Nat → Nat → Nat) (ca : Nat → Nat → ClassId) (iv : Nat → Nat → Int32) (lv : Nat → Nat → Int64) (fa : Nat → Nat → Nat → Int32) (la : Nat → Nat → Nat → Int64) (hI : IX iv fa) (a : Int32) (b : Int32) : Met l yX8_readNumber (wc yX8_readNumber cX8_readNumber 7 (some .int)) ({ frames := 1, cells := 0, slots := 0, locals := 23 } : Room) (pWZ ak av (dC, dI) classes (WX h g ca iv lv fa la) (TX ca) sz [.ref (g 11 4), .int a, .int b]) (va_Qi (fun r (u : SS) => ∃ (ni_8_3 : Int32) (ni_8_4 : Int32) (ni_8_5 : Int32), inb (bI 8 3) ni_8_3 ∧ inb (bI 8 4) ni_8_4 ∧ inb (bI 8 5) ni_8_5 ∧ (True) ∧ u = ((u2 (u2 (u2 iv 8 3 ni_8_3) 8 4 ni_8_4) 8 5 ni_8_5), lv, fa, la)) (bX (dC, dI) h g ca (va_A (WX h g ca iv lv fa la) sz)) (va_A (WX h g ca iv lv fa la) sz)) 0 0 (va_A (WX h g ca iv lv fa la) sz) := by
  refine Met.ofW (cc := cX8_readNumber) (maxL := 7) (ret := (some .int)) (by decide) rfl ?_
  intro p e s m args below meth c s₁ B hml hv
  obtain ⟨rfl, hsz, hP, hK, hD0, hZ⟩ := hv
  have hx := B.exec
  have hb := B.bytes
  have hr := B.returns
  have ht := tb_tl (atoms_spec (ws := wc yX8_readNumber cX8_readNumber 7 (some .int)) B.pre)
  have hown : s.vm.findClass RX8 = some m.cls := findClass_of_methodNamed B.named
  have hlocks := B.notSynchronized
  subst hsz
  have hD := hD0.self (sz := s.heap.size)
  generalize hAe : va_A (WX h g ca iv lv fa la) s.heap.size = A at hD hZ ⊢
  have hA : ∀ q : Nat, s.heap.size ≤ q → A q := fun q h => by rw [← hAe]; exact Or.inr h
  have hS : va_S A s.heap s.heap [] := va_S.rf
  have hl := lv_entry [.ref (g 11 4), .int a, .int b] (n := 7) (Nat.le_of_ble_eq_true rfl)
  rw [lg_entry_eq]
  generalize (lg_sl [.ref (g 11 4), .int a, .int b] ++ List.replicate (7 - (lg_sl [.ref (g 11 4), .int a, .int b]).length) Slot.unset).toArray = ls at hl ⊢
  have hl : lv_has ls 7 [(0, .ref (g 11 4)), (1, .int a), (2, .int b)] := hl
  refine lv_aload_n hx hb dX8_readNumber_0 rfl (lv_at hl 0 rfl) ?_
  have hFc := free_all hD hS hA
  refine va_calli (va_runV (As := []) (rest := []) ⟨hx, hb, hml, hown, ht⟩ (c_X8_skipBlanks_x l dC dI s.heap.size h g ca iv lv fa la hI) (kV 0 ht m_688 m_690 m_16 m_82 m_691 rfl rfl hd_X8_skipBlanks_v ⟨Nat.le_of_ble_eq_true rfl, Nat.le_of_ble_eq_true rfl⟩) (vW hP hK hD (rX_8 hK hP)) rfl rfl hl.1 rfl (lv_room (Nat.le_of_ble_eq_true rfl)) dX8_readNumber_1 ⟨Nat.le_of_ble_eq_true rfl, Nat.le_of_ble_eq_true rfl⟩) hS (fun q _ h => hFc q h) hFc (fun r1 u t H1 locs ht9 hvm hr1 hB hz1 hk1 hS => ?_)
  obtain ⟨n2, hn2, xr1_0, hr1, rfl⟩ := hr1
  have hn2 : 0 ≤ n2.toInt ∧ n2.toInt ≤ 200 := hn2
  obtain ⟨hP, hD⟩ := hB
  rw [ht9] at hP
  generalize H1 = H at hP hS ⊢
  have hP : va_P (dC, dI) classes (WX h g ca (u2 iv 8 5 n2) lv fa la) H := hP
  have hD : va_D A (WX h g ca (u2 iv 8 5 n2) lv fa la) := (show va_D _ (WX h g ca (u2 iv 8 5 n2) lv fa la) from hD).weaken (fun _ _ _ h => hFc _ h)
  have i_8_2 : 0 ≤ (iv 8 2).toInt ∧ (iv 8 2).toInt ≤ 200 := hI.1 8 2
  have xr1_0 : ((r1 : Int32).toInt = 0 ∨ (n2 : Int32).toInt + 1 ≤ ((iv 8 2) : Int32).toInt) := xr1_0
  refine lv_pop hx hb dX8_readNumber_4 rfl ?_
  refine lv_aload_n hx hb dX8_readNumber_5 rfl (lv_at hl 0 rfl) ?_
  refine gX_8_5 hx hb ht hown hK hP m_235 (v := n2) rfl dX8_readNumber_6 ?_
  refine lv_istore_n (lv' := [(3, .int n2), (0, .ref (g 11 4)), (1, .int a), (2, .int b)]) hx hb dX8_readNumber_9 rfl hl (by decide) rfl (fun ls hl => ?_)
  refine lv_aload_n hx hb dX8_readNumber_10 rfl (lv_at hl 1 rfl) ?_
  refine lv_bipush (v := 48) hx hb dX8_readNumber_11 (by decide) ?_
  refine lv_bipush (v := 57) hx hb dX8_readNumber_13 (by decide) ?_
  refine vp_callSi (W.runV (As := [.int 48, .int 57]) (rest := []) ⟨hx, hb, hml, hown, ht⟩ (c_X8_endOfRun l dC dI h g ca (u2 iv 8 5 n2) lv fa la (IX_i (c := 8) (k := 5) hI (show inb (0, 200) n2 from ⟨by omega, by omega⟩)) 48 57) (kV 2 ht m_701 m_703 m_19 m_82 m_704 rfl rfl hd_X8_endOfRun_v ⟨Nat.le_of_ble_eq_true rfl, Nat.le_of_ble_eq_true rfl⟩) (vR hP hK (rX_8 hK hP)) rfl rfl hl.1 rfl (lv_room (Nat.le_of_ble_eq_true rfl)) dX8_readNumber_15 ⟨Nat.le_of_ble_eq_true rfl, Nat.le_of_ble_eq_true rfl⟩) (fun r3 hr3 => ?_)
  refine lv_istore (lv' := [(4, .int r3), (3, .int n2), (0, .ref (g 11 4)), (1, .int a), (2, .int b)]) hx hb dX8_readNumber_18 hl (by decide) rfl (fun ls hl => ?_)
  refine lv_iload hx hb dX8_readNumber_20 (lv_at hl 0 rfl) ?_
  refine lv_iload_n hx hb dX8_readNumber_22 rfl (lv_at hl 1 rfl) ?_
  refine lv_icmp_ne (tgt := 35) hx hb dX8_readNumber_23 (by decide) (fun c4 => ?_) (fun c4 => ?_)
  · have fc4 := z_ne (rfl : (r3).toInt = _) (rfl : (n2).toInt = _) c4
    refine lv_iconst (v := 0) hx hb dX8_readNumber_35 (by decide) ?_
    refine lv_istore (lv' := [(5, .int 0), (4, .int r3), (3, .int n2), (0, .ref (g 11 4)), (1, .int a), (2, .int b)]) hx hb dX8_readNumber_36 hl (by decide) rfl (fun ls hl => ?_)
    refine lv_iload_n hx hb dX8_readNumber_38 rfl (lv_at hl 2 rfl) ?_
    refine lv_istore (lv' := [(6, .int n2), (5, .int 0), (4, .int r3), (3, .int n2), (0, .ref (g 11 4)), (1, .int a), (2, .int b)]) hx hb dX8_readNumber_39 hl (by decide) rfl (fun ls hl => ?_)
    have lp68 : ∀ (nn68 : Nat) (x67_6 : Int32) (x67_5 : Int32), 0 ≤ x67_6.toInt ∧ x67_6.toInt ≤ 200 → 200 - x67_6.toInt < (nn68 : Int) → ∀ (H : Heap) (locs : List Loc), ∀ (ls : Array Slot), va_P (dC, dI) classes (WX h g ca (u2 iv 8 5 n2) lv fa la) H → va_D A (WX h g ca (u2 iv 8 5 n2) lv fa la) → va_S A s.heap H locs → lv_has ls 7 [(6, .int x67_6), (5, .int x67_5), (4, .int r3), (3, .int n2), (0, .ref (g 11 4)), (1, .int a), (2, .int b)] → W p l e ({ frames := 1, cells := 0, slots := 0, locals := 23 } : Room) s m ([.ref (g 11 4), .int a, .int b] : List Value).toArray below meth c H locs 0 0 (MQ below (va_Qi (fun r (u : SS) => ∃ (ni_8_3 : Int32) (ni_8_4 : Int32) (ni_8_5 : Int32), inb (bI 8 3) ni_8_3 ∧ inb (bI 8 4) ni_8_4 ∧ inb (bI 8 5) ni_8_5 ∧ (True) ∧ u = ((u2 (u2 (u2 iv 8 3 ni_8_3) 8 4 ni_8_4) 8 5 ni_8_5), lv, fa, la)) (bX (dC, dI) h g ca A) A) ([.ref (g 11 4), .int a, .int b] : List Value).toArray s 0 0 A) (F0 m 41 ls []) := by
      intro nn68
      induction nn68 with
      | zero => intro x67_6 x67_5 hx67_6 hm68; exfalso; omega
      | succ nn68 ih68 =>
        intro x67_6 x67_5 hx67_6 hm68 H locs ls hP hD hS hl
        refine lv_iload hx hb dX8_readNumber_41 (lv_at hl 0 rfl) ?_
        refine lv_iload hx hb dX8_readNumber_43 (lv_at hl 2 rfl) ?_
        refine lv_icmp_ge (tgt := 80) hx hb dX8_readNumber_45 (by decide) (fun c69 => ?_) (fun c69 => ?_)
        · have fc69 := z_le (rfl : (r3).toInt = _) (rfl : (x67_6).toInt = _) c69
          refine lv_iload hx hb dX8_readNumber_80 (lv_at hl 2 rfl) ?_
          refine lv_iload_n hx hb dX8_readNumber_82 rfl (lv_at hl 3 rfl) ?_
          refine lv_isub hx hb dX8_readNumber_83 ?_
          refine lv_topi (fun v70 ev70 => ?_)
          have tv70 := z_sub ev70 (rfl : (r3).toInt = _) (rfl : (n2).toInt = _) (by omega) (by omega)
          refine lv_iconst (v := 4) hx hb dX8_readNumber_84 (by decide) ?_
          refine lv_icmp_gt (tgt := 98) hx hb dX8_readNumber_85 (by decide) (fun c71 => ?_) (fun c71 => ?_)
          · have fc71 := z_lt (by decide : (4 : Int32).toInt = 4) (rfl : (v70).toInt = _) c71
            refine lv_aload_n hx hb dX8_readNumber_98 rfl (lv_at hl 4 rfl) ?_
            refine lv_iconst (v := 2) hx hb dX8_readNumber_99 (by decide) ?_
            refine lv_iload_n hx hb dX8_readNumber_100 rfl (lv_at hl 3 rfl) ?_
            have hFc := free_all hD hS hA
            refine va_calli (va_runV (As := [.int 2, .int n2]) (rest := []) ⟨hx, hb, hml, hown, ht⟩ (c_X8_fail l dC dI H.size h g ca (u2 iv 8 5 n2) lv fa la (IX_i (c := 8) (k := 5) hI (show inb (0, 200) n2 from ⟨by omega, by omega⟩)) 2 n2 ⟨by decide, by decide⟩ ⟨by omega, by omega⟩) (kV 2 ht m_757 m_759 m_21 m_82 m_760 rfl rfl hd_X8_fail_v ⟨Nat.le_of_ble_eq_true rfl, Nat.le_of_ble_eq_true rfl⟩) (vW hP hK hD (rX_8 hK hP)) rfl rfl hl.1 rfl (lv_room (Nat.le_of_ble_eq_true rfl)) dX8_readNumber_101 ⟨Nat.le_of_ble_eq_true rfl, Nat.le_of_ble_eq_true rfl⟩) hS (fun q _ h => hFc q h) hFc (fun r72 u t H1 locs ht9 hvm hr72 hB hz1 hk1 hS => ?_)
            obtain ⟨n73, n74, hn73, hn74, hr72, rfl⟩ := hr72
            have hn73 : (-1) ≤ n73.toInt ∧ n73.toInt ≤ 200 := hn73
            have hn74 : 0 ≤ n74.toInt ∧ n74.toInt ≤ 5 := hn74
            obtain ⟨hP, hD⟩ := hB
            rw [ht9] at hP
            generalize H1 = H at hP hS ⊢
            have hP : va_P (dC, dI) classes (WX h g ca (u2 (u2 (u2 iv 8 5 n2) 8 3 n73) 8 4 n74) lv fa la) H := hP
            have hD : va_D A (WX h g ca (u2 (u2 (u2 iv 8 5 n2) 8 3 n73) 8 4 n74) lv fa la) := (show va_D _ (WX h g ca (u2 (u2 (u2 iv 8 5 n2) 8 3 n73) 8 4 n74) lv fa la) from hD).weaken (fun _ _ _ h => hFc _ h)
            refine lv_pop hx hb dX8_readNumber_104 rfl ?_
            refine lv_iconst (v := (-1)) hx hb dX8_readNumber_105 (by decide) ?_
            have hP9 : va_P (dC, dI) classes (WX h g ca (u2 (u2 (u2 iv 8 3 n73) 8 4 n74) 8 5 n2) lv fa la) H := hP
            have hD9 : va_D A (WX h g ca (u2 (u2 (u2 iv 8 3 n73) 8 4 n74) 8 5 n2) lv fa la) := hD
            exact W.iret (v := (-1)) hx hb hr (fun t ht9 hW => ⟨⟨(-1), ((u2 (u2 (u2 iv 8 3 n73) 8 4 n74) 8 5 n2), lv, fa, la), rfl, ⟨n73, n74, n2, (show inb ((-1), 200) n73 from ⟨by omega, by omega⟩), (show inb (0, 5) n74 from ⟨by omega, by omega⟩), (show inb (0, 200) n2 from ⟨by omega, by omega⟩), trivial, rfl⟩, by rw [ht9]; exact hP9, hD9⟩, hS.F ht9⟩) hS.2.2 dX8_readNumber_106
          · have fc71 := z_nlt (by decide : (4 : Int32).toInt = 4) (rfl : (v70).toInt = _) c71
            refine lv_iload hx hb dX8_readNumber_88 (lv_at hl 1 rfl) ?_
            refine lv_iload_n hx hb dX8_readNumber_90 rfl (lv_at hl 5 rfl) ?_
            refine lv_iload_n hx hb dX8_readNumber_91 rfl (lv_at hl 6 rfl) ?_
            refine vp_callSi (run_of (va_runSN (As := [.int x67_5, .int a, .int b]) (rest := []) ⟨hx, hb, hml, hown, ht⟩ (c_X11_within l dC dI x67_5 a b (x67_5.toInt) (a.toInt) (b.toInt) (rfl : (x67_5).toInt = _) (rfl : (a).toInt = _) (rfl : (b).toInt = _)) ⟨va_cnB 3 ht (tb_wc m_455) rfl rfl rfl hZ.2.2.2.2.2.1 (ht _ m_77) hd_X11_within_i ⟨Nat.le_of_ble_eq_true rfl, Nat.le_of_ble_eq_true rfl⟩, ht _ m_454, trivial⟩ (sR noP (hK.sub (tys' := []) [] rfl)) rfl rfl hl.1 rfl (lv_room (Nat.le_of_ble_eq_true rfl)) dX8_readNumber_92 ⟨Nat.le_of_ble_eq_true rfl, Nat.le_of_ble_eq_true rfl⟩)) (fun r75 hr75 => ?_)
            rcases hr75 with ⟨rfl, fr75⟩ | ⟨rfl, fr75⟩
            · skip
              refine lv_if_ne (tgt := 107) hx hb dX8_readNumber_95 (by decide) (fun c76 => ?_) (fun c76 => ?_)
              · skip
                refine lv_aload_n hx hb dX8_readNumber_107 rfl (lv_at hl 4 rfl) ?_
                refine lv_iload hx hb dX8_readNumber_108 (lv_at hl 2 rfl) ?_
                refine pX_8_5 (v := r3) hx hb ht hown hK hP hD hS m_235 dX8_readNumber_110 (fun H locs hP hD hS => ?_)
                have hP : va_P (dC, dI) classes (WX h g ca (u2 iv 8 5 r3) lv fa la) H := hP
                have hD : va_D A (WX h g ca (u2 iv 8 5 r3) lv fa la) := hD
                refine lv_iload hx hb dX8_readNumber_113 (lv_at hl 1 rfl) ?_
                have hP9 : va_P (dC, dI) classes (WX h g ca (u2 (u2 (u2 iv 8 3 (iv 8 3)) 8 4 (iv 8 4)) 8 5 r3) lv fa la) H := hP
                have hD9 : va_D A (WX h g ca (u2 (u2 (u2 iv 8 3 (iv 8 3)) 8 4 (iv 8 4)) 8 5 r3) lv fa la) := hD
                exact W.iret (v := x67_5) hx hb hr (fun t ht9 hW => ⟨⟨x67_5, ((u2 (u2 (u2 iv 8 3 (iv 8 3)) 8 4 (iv 8 4)) 8 5 r3), lv, fa, la), rfl, ⟨(iv 8 3), (iv 8 4), r3, (hI.1 8 3), (hI.1 8 4), (show inb (0, 200) r3 from ⟨by omega, by omega⟩), trivial, rfl⟩, by rw [ht9]; exact hP9, hD9⟩, hS.F ht9⟩) hS.2.2 dX8_readNumber_115
              · exact absurd c76 (by decide)
            · skip
              refine lv_if_ne (tgt := 107) hx hb dX8_readNumber_95 (by decide) (fun c77 => ?_) (fun c77 => ?_)
              · exact absurd rfl c77
              · skip
                refine lv_aload_n hx hb dX8_readNumber_98 rfl (lv_at hl 4 rfl) ?_
                refine lv_iconst (v := 2) hx hb dX8_readNumber_99 (by decide) ?_
                refine lv_iload_n hx hb dX8_readNumber_100 rfl (lv_at hl 3 rfl) ?_
                have hFc := free_all hD hS hA
                refine va_calli (va_runV (As := [.int 2, .int n2]) (rest := []) ⟨hx, hb, hml, hown, ht⟩ (c_X8_fail l dC dI H.size h g ca (u2 iv 8 5 n2) lv fa la (IX_i (c := 8) (k := 5) hI (show inb (0, 200) n2 from ⟨by omega, by omega⟩)) 2 n2 ⟨by decide, by decide⟩ ⟨by omega, by omega⟩) (kV 2 ht m_757 m_759 m_21 m_82 m_760 rfl rfl hd_X8_fail_v ⟨Nat.le_of_ble_eq_true rfl, Nat.le_of_ble_eq_true rfl⟩) (vW hP hK hD (rX_8 hK hP)) rfl rfl hl.1 rfl (lv_room (Nat.le_of_ble_eq_true rfl)) dX8_readNumber_101 ⟨Nat.le_of_ble_eq_true rfl, Nat.le_of_ble_eq_true rfl⟩) hS (fun q _ h => hFc q h) hFc (fun r78 u t H1 locs ht9 hvm hr78 hB hz1 hk1 hS => ?_)
                obtain ⟨n79, n80, hn79, hn80, hr78, rfl⟩ := hr78
                have hn79 : (-1) ≤ n79.toInt ∧ n79.toInt ≤ 200 := hn79
                have hn80 : 0 ≤ n80.toInt ∧ n80.toInt ≤ 5 := hn80
                obtain ⟨hP, hD⟩ := hB
                rw [ht9] at hP
                generalize H1 = H at hP hS ⊢
                have hP : va_P (dC, dI) classes (WX h g ca (u2 (u2 (u2 iv 8 5 n2) 8 3 n79) 8 4 n80) lv fa la) H := hP
                have hD : va_D A (WX h g ca (u2 (u2 (u2 iv 8 5 n2) 8 3 n79) 8 4 n80) lv fa la) := (show va_D _ (WX h g ca (u2 (u2 (u2 iv 8 5 n2) 8 3 n79) 8 4 n80) lv fa la) from hD).weaken (fun _ _ _ h => hFc _ h)
                refine lv_pop hx hb dX8_readNumber_104 rfl ?_
                refine lv_iconst (v := (-1)) hx hb dX8_readNumber_105 (by decide) ?_
                have hP9 : va_P (dC, dI) classes (WX h g ca (u2 (u2 (u2 iv 8 3 n79) 8 4 n80) 8 5 n2) lv fa la) H := hP
                have hD9 : va_D A (WX h g ca (u2 (u2 (u2 iv 8 3 n79) 8 4 n80) 8 5 n2) lv fa la) := hD
                exact W.iret (v := (-1)) hx hb hr (fun t ht9 hW => ⟨⟨(-1), ((u2 (u2 (u2 iv 8 3 n79) 8 4 n80) 8 5 n2), lv, fa, la), rfl, ⟨n79, n80, n2, (show inb ((-1), 200) n79 from ⟨by omega, by omega⟩), (show inb (0, 5) n80 from ⟨by omega, by omega⟩), (show inb (0, 200) n2 from ⟨by omega, by omega⟩), trivial, rfl⟩, by rw [ht9]; exact hP9, hD9⟩, hS.F ht9⟩) hS.2.2 dX8_readNumber_106
        · have fc69 := z_nle (rfl : (r3).toInt = _) (rfl : (x67_6).toInt = _) c69
          refine lv_iload hx hb dX8_readNumber_48 (lv_at hl 0 rfl) ?_
          refine lv_iload_n hx hb dX8_readNumber_50 rfl (lv_at hl 3 rfl) ?_
          refine lv_iconst (v := 4) hx hb dX8_readNumber_51 (by decide) ?_
          refine lv_iadd hx hb dX8_readNumber_52 ?_
          refine lv_topi (fun v81 ev81 => ?_)
          have tv81 := z_add ev81 (rfl : (n2).toInt = _) (by decide : (4 : Int32).toInt = 4) (by omega) (by omega)
          refine lv_icmp_ge (tgt := 80) hx hb dX8_readNumber_53 (by decide) (fun c82 => ?_) (fun c82 => ?_)
          · have fc82 := z_le (rfl : (v81).toInt = _) (rfl : (x67_6).toInt = _) c82
            refine lv_iload hx hb dX8_readNumber_80 (lv_at hl 2 rfl) ?_
            refine lv_iload_n hx hb dX8_readNumber_82 rfl (lv_at hl 3 rfl) ?_
            refine lv_isub hx hb dX8_readNumber_83 ?_
            refine lv_topi (fun v83 ev83 => ?_)
            have tv83 := z_sub ev83 (rfl : (r3).toInt = _) (rfl : (n2).toInt = _) (by omega) (by omega)
            refine lv_iconst (v := 4) hx hb dX8_readNumber_84 (by decide) ?_
            refine lv_icmp_gt (tgt := 98) hx hb dX8_readNumber_85 (by decide) (fun c84 => ?_) (fun c84 => ?_)
            · have fc84 := z_lt (by decide : (4 : Int32).toInt = 4) (rfl : (v83).toInt = _) c84
              refine lv_aload_n hx hb dX8_readNumber_98 rfl (lv_at hl 4 rfl) ?_
              refine lv_iconst (v := 2) hx hb dX8_readNumber_99 (by decide) ?_
              refine lv_iload_n hx hb dX8_readNumber_100 rfl (lv_at hl 3 rfl) ?_
              have hFc := free_all hD hS hA
              refine va_calli (va_runV (As := [.int 2, .int n2]) (rest := []) ⟨hx, hb, hml, hown, ht⟩ (c_X8_fail l dC dI H.size h g ca (u2 iv 8 5 n2) lv fa la (IX_i (c := 8) (k := 5) hI (show inb (0, 200) n2 from ⟨by omega, by omega⟩)) 2 n2 ⟨by decide, by decide⟩ ⟨by omega, by omega⟩) (kV 2 ht m_757 m_759 m_21 m_82 m_760 rfl rfl hd_X8_fail_v ⟨Nat.le_of_ble_eq_true rfl, Nat.le_of_ble_eq_true rfl⟩) (vW hP hK hD (rX_8 hK hP)) rfl rfl hl.1 rfl (lv_room (Nat.le_of_ble_eq_true rfl)) dX8_readNumber_101 ⟨Nat.le_of_ble_eq_true rfl, Nat.le_of_ble_eq_true rfl⟩) hS (fun q _ h => hFc q h) hFc (fun r85 u t H1 locs ht9 hvm hr85 hB hz1 hk1 hS => ?_)
              obtain ⟨n86, n87, hn86, hn87, hr85, rfl⟩ := hr85
              have hn86 : (-1) ≤ n86.toInt ∧ n86.toInt ≤ 200 := hn86
              have hn87 : 0 ≤ n87.toInt ∧ n87.toInt ≤ 5 := hn87
              obtain ⟨hP, hD⟩ := hB
              rw [ht9] at hP
              generalize H1 = H at hP hS ⊢
              have hP : va_P (dC, dI) classes (WX h g ca (u2 (u2 (u2 iv 8 5 n2) 8 3 n86) 8 4 n87) lv fa la) H := hP
              have hD : va_D A (WX h g ca (u2 (u2 (u2 iv 8 5 n2) 8 3 n86) 8 4 n87) lv fa la) := (show va_D _ (WX h g ca (u2 (u2 (u2 iv 8 5 n2) 8 3 n86) 8 4 n87) lv fa la) from hD).weaken (fun _ _ _ h => hFc _ h)
              refine lv_pop hx hb dX8_readNumber_104 rfl ?_
              refine lv_iconst (v := (-1)) hx hb dX8_readNumber_105 (by decide) ?_
              have hP9 : va_P (dC, dI) classes (WX h g ca (u2 (u2 (u2 iv 8 3 n86) 8 4 n87) 8 5 n2) lv fa la) H := hP
              have hD9 : va_D A (WX h g ca (u2 (u2 (u2 iv 8 3 n86) 8 4 n87) 8 5 n2) lv fa la) := hD
              exact W.iret (v := (-1)) hx hb hr (fun t ht9 hW => ⟨⟨(-1), ((u2 (u2 (u2 iv 8 3 n86) 8 4 n87) 8 5 n2), lv, fa, la), rfl, ⟨n86, n87, n2, (show inb ((-1), 200) n86 from ⟨by omega, by omega⟩), (show inb (0, 5) n87 from ⟨by omega, by omega⟩), (show inb (0, 200) n2 from ⟨by omega, by omega⟩), trivial, rfl⟩, by rw [ht9]; exact hP9, hD9⟩, hS.F ht9⟩) hS.2.2 dX8_readNumber_106
            · have fc84 := z_nlt (by decide : (4 : Int32).toInt = 4) (rfl : (v83).toInt = _) c84
              refine lv_iload hx hb dX8_readNumber_88 (lv_at hl 1 rfl) ?_
              refine lv_iload_n hx hb dX8_readNumber_90 rfl (lv_at hl 5 rfl) ?_
              refine lv_iload_n hx hb dX8_readNumber_91 rfl (lv_at hl 6 rfl) ?_
              refine vp_callSi (run_of (va_runSN (As := [.int x67_5, .int a, .int b]) (rest := []) ⟨hx, hb, hml, hown, ht⟩ (c_X11_within l dC dI x67_5 a b (x67_5.toInt) (a.toInt) (b.toInt) (rfl : (x67_5).toInt = _) (rfl : (a).toInt = _) (rfl : (b).toInt = _)) ⟨va_cnB 3 ht (tb_wc m_455) rfl rfl rfl hZ.2.2.2.2.2.1 (ht _ m_77) hd_X11_within_i ⟨Nat.le_of_ble_eq_true rfl, Nat.le_of_ble_eq_true rfl⟩, ht _ m_454, trivial⟩ (sR noP (hK.sub (tys' := []) [] rfl)) rfl rfl hl.1 rfl (lv_room (Nat.le_of_ble_eq_true rfl)) dX8_readNumber_92 ⟨Nat.le_of_ble_eq_true rfl, Nat.le_of_ble_eq_true rfl⟩)) (fun r88 hr88 => ?_)
              rcases hr88 with ⟨rfl, fr88⟩ | ⟨rfl, fr88⟩
              · skip
                refine lv_if_ne (tgt := 107) hx hb dX8_readNumber_95 (by decide) (fun c89 => ?_) (fun c89 => ?_)
                · skip
                  refine lv_aload_n hx hb dX8_readNumber_107 rfl (lv_at hl 4 rfl) ?_
                  refine lv_iload hx hb dX8_readNumber_108 (lv_at hl 2 rfl) ?_
                  refine pX_8_5 (v := r3) hx hb ht hown hK hP hD hS m_235 dX8_readNumber_110 (fun H locs hP hD hS => ?_)
                  have hP : va_P (dC, dI) classes (WX h g ca (u2 iv 8 5 r3) lv fa la) H := hP
                  have hD : va_D A (WX h g ca (u2 iv 8 5 r3) lv fa la) := hD
                  refine lv_iload hx hb dX8_readNumber_113 (lv_at hl 1 rfl) ?_
                  have hP9 : va_P (dC, dI) classes (WX h g ca (u2 (u2 (u2 iv 8 3 (iv 8 3)) 8 4 (iv 8 4)) 8 5 r3) lv fa la) H := hP
                  have hD9 : va_D A (WX h g ca (u2 (u2 (u2 iv 8 3 (iv 8 3)) 8 4 (iv 8 4)) 8 5 r3) lv fa la) := hD
                  exact W.iret (v := x67_5) hx hb hr (fun t ht9 hW => ⟨⟨x67_5, ((u2 (u2 (u2 iv 8 3 (iv 8 3)) 8 4 (iv 8 4)) 8 5 r3), lv, fa, la), rfl, ⟨(iv 8 3), (iv 8 4), r3, (hI.1 8 3), (hI.1 8 4), (show inb (0, 200) r3 from ⟨by omega, by omega⟩), trivial, rfl⟩, by rw [ht9]; exact hP9, hD9⟩, hS.F ht9⟩) hS.2.2 dX8_readNumber_115
                · exact absurd c89 (by decide)
              · skip
                refine lv_if_ne (tgt := 107) hx hb dX8_readNumber_95 (by decide) (fun c90 => ?_) (fun c90 => ?_)
                · exact absurd rfl c90
                · skip
                  refine lv_aload_n hx hb dX8_readNumber_98 rfl (lv_at hl 4 rfl) ?_
                  refine lv_iconst (v := 2) hx hb dX8_readNumber_99 (by decide) ?_
                  refine lv_iload_n hx hb dX8_readNumber_100 rfl (lv_at hl 3 rfl) ?_
                  have hFc := free_all hD hS hA
                  refine va_calli (va_runV (As := [.int 2, .int n2]) (rest := []) ⟨hx, hb, hml, hown, ht⟩ (c_X8_fail l dC dI H.size h g ca (u2 iv 8 5 n2) lv fa la (IX_i (c := 8) (k := 5) hI (show inb (0, 200) n2 from ⟨by omega, by omega⟩)) 2 n2 ⟨by decide, by decide⟩ ⟨by omega, by omega⟩) (kV 2 ht m_757 m_759 m_21 m_82 m_760 rfl rfl hd_X8_fail_v ⟨Nat.le_of_ble_eq_true rfl, Nat.le_of_ble_eq_true rfl⟩) (vW hP hK hD (rX_8 hK hP)) rfl rfl hl.1 rfl (lv_room (Nat.le_of_ble_eq_true rfl)) dX8_readNumber_101 ⟨Nat.le_of_ble_eq_true rfl, Nat.le_of_ble_eq_true rfl⟩) hS (fun q _ h => hFc q h) hFc (fun r91 u t H1 locs ht9 hvm hr91 hB hz1 hk1 hS => ?_)
                  obtain ⟨n92, n93, hn92, hn93, hr91, rfl⟩ := hr91
                  have hn92 : (-1) ≤ n92.toInt ∧ n92.toInt ≤ 200 := hn92
                  have hn93 : 0 ≤ n93.toInt ∧ n93.toInt ≤ 5 := hn93
                  obtain ⟨hP, hD⟩ := hB
                  rw [ht9] at hP
                  generalize H1 = H at hP hS ⊢
                  have hP : va_P (dC, dI) classes (WX h g ca (u2 (u2 (u2 iv 8 5 n2) 8 3 n92) 8 4 n93) lv fa la) H := hP
                  have hD : va_D A (WX h g ca (u2 (u2 (u2 iv 8 5 n2) 8 3 n92) 8 4 n93) lv fa la) := (show va_D _ (WX h g ca (u2 (u2 (u2 iv 8 5 n2) 8 3 n92) 8 4 n93) lv fa la) from hD).weaken (fun _ _ _ h => hFc _ h)
                  refine lv_pop hx hb dX8_readNumber_104 rfl ?_
                  refine lv_iconst (v := (-1)) hx hb dX8_readNumber_105 (by decide) ?_
                  have hP9 : va_P (dC, dI) classes (WX h g ca (u2 (u2 (u2 iv 8 3 n92) 8 4 n93) 8 5 n2) lv fa la) H := hP
                  have hD9 : va_D A (WX h g ca (u2 (u2 (u2 iv 8 3 n92) 8 4 n93) 8 5 n2) lv fa la) := hD
                  exact W.iret (v := (-1)) hx hb hr (fun t ht9 hW => ⟨⟨(-1), ((u2 (u2 (u2 iv 8 3 n92) 8 4 n93) 8 5 n2), lv, fa, la), rfl, ⟨n92, n93, n2, (show inb ((-1), 200) n92 from ⟨by omega, by omega⟩), (show inb (0, 5) n93 from ⟨by omega, by omega⟩), (show inb (0, 200) n2 from ⟨by omega, by omega⟩), trivial, rfl⟩, by rw [ht9]; exact hP9, hD9⟩, hS.F ht9⟩) hS.2.2 dX8_readNumber_106
          · have fc82 := z_nle (rfl : (v81).toInt = _) (rfl : (x67_6).toInt = _) c82
            refine lv_bipush (v := 10) hx hb dX8_readNumber_56 (by decide) ?_
            refine lv_iload hx hb dX8_readNumber_58 (lv_at hl 1 rfl) ?_
            refine lv_imul hx hb dX8_readNumber_60 ?_
            refine lv_topi (fun v94 ev94 => ?_)
            refine lv_aload_n hx hb dX8_readNumber_61 rfl (lv_at hl 4 rfl) ?_
            refine gX_8_1 hx hb ht hown hK hP m_229 dX8_readNumber_62 ?_
            refine lv_iload hx hb dX8_readNumber_65 (lv_at hl 0 rfl) ?_
            refine lX_8_1 hx hb hK hP (f := (fa 8 1)) rfl (vp_in_iff.mpr ⟨by omega, by omega⟩) dX8_readNumber_67 ?_
            refine lv_topi (fun v95 ev95 => ?_)
            refine lv_bipush (v := 48) hx hb dX8_readNumber_68 (by decide) ?_
            refine lv_isub hx hb dX8_readNumber_70 ?_
            refine lv_topi (fun v96 ev96 => ?_)
            refine lv_iadd hx hb dX8_readNumber_71 ?_
            refine lv_topi (fun v97 ev97 => ?_)
            refine lv_istore (lv' := [(5, .int v97), (6, .int x67_6), (4, .int r3), (3, .int n2), (0, .ref (g 11 4)), (1, .int a), (2, .int b)]) hx hb dX8_readNumber_72 hl (by decide) rfl (fun ls hl => ?_)
            obtain ⟨v98, ev98⟩ : ∃ y : Int32, y = x67_6 + 1 := ⟨_, rfl⟩
            have tv98 := z_add ev98 rfl (by decide : (1 : Int32).toInt = 1) (by omega) (by omega)
            refine lv_iinc (v := v98) (lv' := [(6, .int v98), (5, .int v97), (4, .int r3), (3, .int n2), (0, .ref (g 11 4)), (1, .int a), (2, .int b)]) hx hb dX8_readNumber_74 hl (k := 1) rfl (by rw [ev98]; rfl) (by decide) rfl (fun ls hl => ?_)
            refine lv_goto (tgt := 41) hx hb dX8_readNumber_77 (by decide) ?_
            exact ih68 v98 v97 ⟨by omega, by omega⟩ (by omega) _ _ ls hP hD hS (lv_sub hl [0, 1, 2, 3, 4, 5, 6] rfl)
    exact lp68 201 n2 0 ⟨by omega, by omega⟩ (by first | decide | omega) _ _ ls hP hD hS (lv_sub hl [0, 1, 2, 3, 4, 5, 6] rfl)
  · have fc4 := z_eq (rfl : (r3).toInt = _) (rfl : (n2).toInt = _) c4
    refine lv_aload_n hx hb dX8_readNumber_26 rfl (lv_at hl 2 rfl) ?_
    refine lv_iconst (v := 1) hx hb dX8_readNumber_27 (by decide) ?_
    refine lv_iload_n hx hb dX8_readNumber_28 rfl (lv_at hl 1 rfl) ?_
    have hFc := free_all hD hS hA
    refine va_calli (va_runV (As := [.int 1, .int n2]) (rest := []) ⟨hx, hb, hml, hown, ht⟩ (c_X8_fail l dC dI H.size h g ca (u2 iv 8 5 n2) lv fa la (IX_i (c := 8) (k := 5) hI (show inb (0, 200) n2 from ⟨by omega, by omega⟩)) 1 n2 ⟨by decide, by decide⟩ ⟨by omega, by omega⟩) (kV 2 ht m_757 m_759 m_21 m_82 m_760 rfl rfl hd_X8_fail_v ⟨Nat.le_of_ble_eq_true rfl, Nat.le_of_ble_eq_true rfl⟩) (vW hP hK hD (rX_8 hK hP)) rfl rfl hl.1 rfl (lv_room (Nat.le_of_ble_eq_true rfl)) dX8_readNumber_29 ⟨Nat.le_of_ble_eq_true rfl, Nat.le_of_ble_eq_true rfl⟩) hS (fun q _ h => hFc q h) hFc (fun r99 u t H1 locs ht9 hvm hr99 hB hz1 hk1 hS => ?_)
    obtain ⟨n100, n101, hn100, hn101, hr99, rfl⟩ := hr99
    have hn100 : (-1) ≤ n100.toInt ∧ n100.toInt ≤ 200 := hn100
    have hn101 : 0 ≤ n101.toInt ∧ n101.toInt ≤ 5 := hn101
    obtain ⟨hP, hD⟩ := hB
    rw [ht9] at hP
    generalize H1 = H at hP hS ⊢
    have hP : va_P (dC, dI) classes (WX h g ca (u2 (u2 (u2 iv 8 5 n2) 8 3 n100) 8 4 n101) lv fa la) H := hP
    have hD : va_D A (WX h g ca (u2 (u2 (u2 iv 8 5 n2) 8 3 n100) 8 4 n101) lv fa la) := (show va_D _ (WX h g ca (u2 (u2 (u2 iv 8 5 n2) 8 3 n100) 8 4 n101) lv fa la) from hD).weaken (fun _ _ _ h => hFc _ h)
    refine lv_pop hx hb dX8_readNumber_32 rfl ?_
    refine lv_iconst (v := (-1)) hx hb dX8_readNumber_33 (by decide) ?_
    have hP9 : va_P (dC, dI) classes (WX h g ca (u2 (u2 (u2 iv 8 3 n100) 8 4 n101) 8 5 n2) lv fa la) H := hP
    have hD9 : va_D A (WX h g ca (u2 (u2 (u2 iv 8 3 n100) 8 4 n101) 8 5 n2) lv fa la) := hD
    exact W.iret (v := (-1)) hx hb hr (fun t ht9 hW => ⟨⟨(-1), ((u2 (u2 (u2 iv 8 3 n100) 8 4 n101) 8 5 n2), lv, fa, la), rfl, ⟨n100, n101, n2, (show inb ((-1), 200) n100 from ⟨by omega, by omega⟩), (show inb (0, 5) n101 from ⟨by omega, by omega⟩), (show inb (0, 200) n2 from ⟨by omega, by omega⟩), trivial, rfl⟩, by rw [ht9]; exact hP9, hD9⟩, hS.F ht9⟩) hS.2.2 dX8_readNumber_34
set_option maxHeartbeats 4000000 in
set_option maxRecDepth 100000 in
/-- X8_readStop -/
theorem c_X8_readStop (l : Launch) (dC : Nat → ClassId) (dI : Nat → Nat → Nat) (sz : Nat) (h : Nat) (g : Nat → Nat → Nat) (ca : Nat → Nat → ClassId) (iv : Nat → Nat → Int32) (lv : Nat → Nat → Int64) (fa : Nat → Nat → Nat → Int32) (la : Nat → Nat → Nat → Int64) (hI : IX iv fa) : Met l yX8_readStop (wc yX8_readStop cX8_readStop 1 (some .boolean)) ({ frames := 1, cells := 0, slots := 0, locals := 22 } : Room) (pW (dC, dI) classes (WX h g ca iv lv fa la) (TX ca) sz [.ref (g 11 4)]) (va_Qi (fun r (u : SS) => ∃ (ni_8_3 : Int32) (ni_8_4 : Int32) (ni_8_5 : Int32), inb (bI 8 3) ni_8_3 ∧ inb (bI 8 4) ni_8_4 ∧ inb (bI 8 5) ni_8_5 ∧ (0 ≤ r.toInt ∧ r.toInt ≤ 1) ∧ u = ((u2 (u2 (u2 iv 8 3 ni_8_3) 8 4 ni_8_4) 8 5 ni_8_5), lv, fa, la)) (bX (dC, dI) h g ca (va_A (WX h g ca iv lv fa la) sz)) (va_A (WX h g ca iv lv fa la) sz)) 0 0 (va_A (WX h g ca iv lv fa la) sz) := by
  refine Met.ofW (cc := cX8_readStop) (maxL := 1) (ret := (some .boolean)) (by decide) rfl ?_
  intro p e s m args below meth c s₁ B hml hv
  obtain ⟨rfl, hsz, hP, hK, hD0⟩ := hv
  have hx := B.exec
  have hb := B.bytes
  have hr := B.returns
  have ht := tb_tl (atoms_spec (ws := wc yX8_readStop cX8_readStop 1 (some .boolean)) B.pre)
  have hown : s.vm.findClass RX8 = some m.cls := findClass_of_methodNamed B.named
  have hlocks := B.notSynchronized
  subst hsz
  have hD := hD0.self (sz := s.heap.size)
  generalize hAe : va_A (WX h g ca iv lv fa la) s.heap.size = A at hD ⊢
  have hA : ∀ q : Nat, s.heap.size ≤ q → A q := fun q h => by rw [← hAe]; exact Or.inr h
  have hS : va_S A s.heap s.heap [] := va_S.rf
  have hl := lv_entry [.ref (g 11 4)] (n := 1) (Nat.le_of_ble_eq_true rfl)
  rw [lg_entry_eq]
  generalize (lg_sl [.ref (g 11 4)] ++ List.replicate (1 - (lg_sl [.ref (g 11 4)]).length) Slot.unset).toArray = ls at hl ⊢
  have hl : lv_has ls 1 [(0, .ref (g 11 4))] := hl
  refine lv_aload_n hx hb dX8_readStop_0 rfl (lv_at hl 0 rfl) ?_
  have hFc := free_all hD hS hA
  refine va_calli (va_runV (As := []) (rest := []) ⟨hx, hb, hml, hown, ht⟩ (c_X8_skipBlanks_x l dC dI s.heap.size h g ca iv lv fa la hI) (kV 0 ht m_688 m_690 m_16 m_82 m_691 rfl rfl hd_X8_skipBlanks_v ⟨Nat.le_of_ble_eq_true rfl, Nat.le_of_ble_eq_true rfl⟩) (vW hP hK hD (rX_8 hK hP)) rfl rfl hl.1 rfl (lv_room (Nat.le_of_ble_eq_true rfl)) dX8_readStop_1 ⟨Nat.le_of_ble_eq_true rfl, Nat.le_of_ble_eq_true rfl⟩) hS (fun q _ h => hFc q h) hFc (fun r1 u t H1 locs ht9 hvm hr1 hB hz1 hk1 hS => ?_)
  obtain ⟨n2, hn2, xr1_0, hr1, rfl⟩ := hr1
  have hn2 : 0 ≤ n2.toInt ∧ n2.toInt ≤ 200 := hn2
  obtain ⟨hP, hD⟩ := hB
  rw [ht9] at hP
  generalize H1 = H at hP hS ⊢
  have hP : va_P (dC, dI) classes (WX h g ca (u2 iv 8 5 n2) lv fa la) H := hP
  have hD : va_D A (WX h g ca (u2 iv 8 5 n2) lv fa la) := (show va_D _ (WX h g ca (u2 iv 8 5 n2) lv fa la) from hD).weaken (fun _ _ _ h => hFc _ h)
  have i_8_2 : 0 ≤ (iv 8 2).toInt ∧ (iv 8 2).toInt ≤ 200 := hI.1 8 2
  have xr1_0 : ((r1 : Int32).toInt = 0 ∨ (n2 : Int32).toInt + 1 ≤ ((iv 8 2) : Int32).toInt) := xr1_0
  refine lv_if_eq (tgt := 21) hx hb dX8_readStop_4 (by decide) (fun c3 => ?_) (fun c3 => ?_)
  · have fc3 := z_eq (rfl : (r1).toInt = _) (by decide : (0 : Int32).toInt = 0) c3
    refine lv_aload_n hx hb dX8_readStop_21 rfl (lv_at hl 0 rfl) ?_
    refine lv_iconst (v := 1) hx hb dX8_readStop_22 (by decide) ?_
    refine lv_aload_n hx hb dX8_readStop_23 rfl (lv_at hl 0 rfl) ?_
    refine gX_8_5 hx hb ht hown hK hP m_235 (v := n2) rfl dX8_readStop_24 ?_
    have hFc := free_all hD hS hA
    refine va_calli (va_runV (As := [.int 1, .int n2]) (rest := []) ⟨hx, hb, hml, hown, ht⟩ (c_X8_fail l dC dI H.size h g ca (u2 iv 8 5 n2) lv fa la (IX_i (c := 8) (k := 5) hI (show inb (0, 200) n2 from ⟨by omega, by omega⟩)) 1 n2 ⟨by decide, by decide⟩ ⟨by omega, by omega⟩) (kV 2 ht m_757 m_759 m_21 m_82 m_760 rfl rfl hd_X8_fail_v ⟨Nat.le_of_ble_eq_true rfl, Nat.le_of_ble_eq_true rfl⟩) (vW hP hK hD (rX_8 hK hP)) rfl rfl hl.1 rfl (lv_room (Nat.le_of_ble_eq_true rfl)) dX8_readStop_27 ⟨Nat.le_of_ble_eq_true rfl, Nat.le_of_ble_eq_true rfl⟩) hS (fun q _ h => hFc q h) hFc (fun r4 u t H1 locs ht9 hvm hr4 hB hz1 hk1 hS => ?_)
    obtain ⟨n5, n6, hn5, hn6, hr4, rfl⟩ := hr4
    have hn5 : (-1) ≤ n5.toInt ∧ n5.toInt ≤ 200 := hn5
    have hn6 : 0 ≤ n6.toInt ∧ n6.toInt ≤ 5 := hn6
    obtain ⟨hP, hD⟩ := hB
    rw [ht9] at hP
    generalize H1 = H at hP hS ⊢
    have hP : va_P (dC, dI) classes (WX h g ca (u2 (u2 (u2 iv 8 5 n2) 8 3 n5) 8 4 n6) lv fa la) H := hP
    have hD : va_D A (WX h g ca (u2 (u2 (u2 iv 8 5 n2) 8 3 n5) 8 4 n6) lv fa la) := (show va_D _ (WX h g ca (u2 (u2 (u2 iv 8 5 n2) 8 3 n5) 8 4 n6) lv fa la) from hD).weaken (fun _ _ _ h => hFc _ h)
    have hP9 : va_P (dC, dI) classes (WX h g ca (u2 (u2 (u2 iv 8 3 n5) 8 4 n6) 8 5 n2) lv fa la) H := hP
    have hD9 : va_D A (WX h g ca (u2 (u2 (u2 iv 8 3 n5) 8 4 n6) 8 5 n2) lv fa la) := hD
    exact W.zret (v := r4) hx hb hr (nar01 ⟨by omega, by omega⟩) (fun t ht9 hW => ⟨⟨r4, ((u2 (u2 (u2 iv 8 3 n5) 8 4 n6) 8 5 n2), lv, fa, la), rfl, ⟨n5, n6, n2, (show inb ((-1), 200) n5 from ⟨by omega, by omega⟩), (show inb (0, 5) n6 from ⟨by omega, by omega⟩), (show inb (0, 200) n2 from ⟨by omega, by omega⟩), ⟨by omega, by omega⟩, rfl⟩, by rw [ht9]; exact hP9, hD9⟩, hS.F ht9⟩) hS.2.2 dX8_readStop_30
  · have fc3 := z_ne (rfl : (r1).toInt = _) (by decide : (0 : Int32).toInt = 0) c3
    refine lv_aload_n hx hb dX8_readStop_7 rfl (lv_at hl 0 rfl) ?_
    refine gX_8_1 hx hb ht hown hK hP m_229 dX8_readStop_8 ?_
    refine lv_aload_n hx hb dX8_readStop_11 rfl (lv_at hl 0 rfl) ?_
    refine gX_8_5 hx hb ht hown hK hP m_235 (v := n2) rfl dX8_readStop_12 ?_
    have : 0 ≤ (n2 : Int32).toInt ∧ (n2 : Int32).toInt ≤ 199 := ⟨by omega, by omega⟩
    refine lX_8_1 hx hb hK hP (f := (fa 8 1)) rfl (vp_in_iff.mpr ⟨by omega, by omega⟩) dX8_readStop_15 ?_
    refine lv_topi (fun v7 ev7 => ?_)
    refine lv_bipush (v := 59) hx hb dX8_readStop_16 (by decide) ?_
    refine lv_icmp_eq (tgt := 31) hx hb dX8_readStop_18 (by decide) (fun c8 => ?_) (fun c8 => ?_)
    · have fc8 := z_eq (rfl : (v7).toInt = _) (by decide : (59 : Int32).toInt = 59) c8
      refine lv_aload_n hx hb dX8_readStop_31 rfl (lv_at hl 0 rfl) ?_
      refine lv_dup hx hb dX8_readStop_32 rfl ?_
      refine gX_8_5 hx hb ht hown hK hP m_235 (v := n2) rfl dX8_readStop_33 ?_
      refine lv_iconst (v := 1) hx hb dX8_readStop_36 (by decide) ?_
      refine lv_iadd hx hb dX8_readStop_37 ?_
      refine lv_topi (fun v9 ev9 => ?_)
      have tv9 := z_add ev9 (rfl : (n2).toInt = _) (by decide : (1 : Int32).toInt = 1) (by omega) (by omega)
      refine pX_8_5 (v := v9) hx hb ht hown hK hP hD hS m_235 dX8_readStop_38 (fun H locs hP hD hS => ?_)
      have hP : va_P (dC, dI) classes (WX h g ca (u2 iv 8 5 v9) lv fa la) H := hP
      have hD : va_D A (WX h g ca (u2 iv 8 5 v9) lv fa la) := hD
      refine lv_iconst (v := 1) hx hb dX8_readStop_41 (by decide) ?_
      have hP9 : va_P (dC, dI) classes (WX h g ca (u2 (u2 (u2 iv 8 3 (iv 8 3)) 8 4 (iv 8 4)) 8 5 v9) lv fa la) H := hP
      have hD9 : va_D A (WX h g ca (u2 (u2 (u2 iv 8 3 (iv 8 3)) 8 4 (iv 8 4)) 8 5 v9) lv fa la) := hD
      exact W.zret (v := 1) hx hb hr rfl (fun t ht9 hW => ⟨⟨1, ((u2 (u2 (u2 iv 8 3 (iv 8 3)) 8 4 (iv 8 4)) 8 5 v9), lv, fa, la), rfl, ⟨(iv 8 3), (iv 8 4), v9, (hI.1 8 3), (hI.1 8 4), (show inb (0, 200) v9 from ⟨by omega, by omega⟩), ⟨by decide, by decide⟩, rfl⟩, by rw [ht9]; exact hP9, hD9⟩, hS.F ht9⟩) hS.2.2 dX8_readStop_42
    · have fc8 := z_ne (rfl : (v7).toInt = _) (by decide : (59 : Int32).toInt = 59) c8
      refine lv_aload_n hx hb dX8_readStop_21 rfl (lv_at hl 0 rfl) ?_
      refine lv_iconst (v := 1) hx hb dX8_readStop_22 (by decide) ?_
      refine lv_aload_n hx hb dX8_readStop_23 rfl (lv_at hl 0 rfl) ?_
      refine gX_8_5 hx hb ht hown hK hP m_235 (v := n2) rfl dX8_readStop_24 ?_
      have hFc := free_all hD hS hA
      refine va_calli (va_runV (As := [.int 1, .int n2]) (rest := []) ⟨hx, hb, hml, hown, ht⟩ (c_X8_fail l dC dI H.size h g ca (u2 iv 8 5 n2) lv fa la (IX_i (c := 8) (k := 5) hI (show inb (0, 200) n2 from ⟨by omega, by omega⟩)) 1 n2 ⟨by decide, by decide⟩ ⟨by omega, by omega⟩) (kV 2 ht m_757 m_759 m_21 m_82 m_760 rfl rfl hd_X8_fail_v ⟨Nat.le_of_ble_eq_true rfl, Nat.le_of_ble_eq_true rfl⟩) (vW hP hK hD (rX_8 hK hP)) rfl rfl hl.1 rfl (lv_room (Nat.le_of_ble_eq_true rfl)) dX8_readStop_27 ⟨Nat.le_of_ble_eq_true rfl, Nat.le_of_ble_eq_true rfl⟩) hS (fun q _ h => hFc q h) hFc (fun r10 u t H1 locs ht9 hvm hr10 hB hz1 hk1 hS => ?_)
      obtain ⟨n11, n12, hn11, hn12, hr10, rfl⟩ := hr10
      have hn11 : (-1) ≤ n11.toInt ∧ n11.toInt ≤ 200 := hn11
      have hn12 : 0 ≤ n12.toInt ∧ n12.toInt ≤ 5 := hn12
      obtain ⟨hP, hD⟩ := hB
      rw [ht9] at hP
      generalize H1 = H at hP hS ⊢
      have hP : va_P (dC, dI) classes (WX h g ca (u2 (u2 (u2 iv 8 5 n2) 8 3 n11) 8 4 n12) lv fa la) H := hP
      have hD : va_D A (WX h g ca (u2 (u2 (u2 iv 8 5 n2) 8 3 n11) 8 4 n12) lv fa la) := (show va_D _ (WX h g ca (u2 (u2 (u2 iv 8 5 n2) 8 3 n11) 8 4 n12) lv fa la) from hD).weaken (fun _ _ _ h => hFc _ h)
      have hP9 : va_P (dC, dI) classes (WX h g ca (u2 (u2 (u2 iv 8 3 n11) 8 4 n12) 8 5 n2) lv fa la) H := hP
      have hD9 : va_D A (WX h g ca (u2 (u2 (u2 iv 8 3 n11) 8 4 n12) 8 5 n2) lv fa la) := hD
      exact W.zret (v := r10) hx hb hr (nar01 ⟨by omega, by omega⟩) (fun t ht9 hW => ⟨⟨r10, ((u2 (u2 (u2 iv 8 3 n11) 8 4 n12) 8 5 n2), lv, fa, la), rfl, ⟨n11, n12, n2, (show inb ((-1), 200) n11 from ⟨by omega, by omega⟩), (show inb (0, 5) n12 from ⟨by omega, by omega⟩), (show inb (0, 200) n2 from ⟨by omega, by omega⟩), ⟨by omega, by omega⟩, rfl⟩, by rw [ht9]; exact hP9, hD9⟩, hS.F ht9⟩) hS.2.2 dX8_readStop_30
set_option maxHeartbeats 4000000 in
set_option maxRecDepth 100000 in
/-- X8_readWord -/
theorem c_X8_readWord (l : Launch) (dC : Nat → ClassId) (dI : Nat → Nat → Nat) (sz : Nat) (h : Nat) (g : Nat → Nat → Nat) (ca : Nat → Nat → ClassId) (iv : Nat → Nat → Int32) (lv : Nat → Nat → Int64) (fa : Nat → Nat → Nat → Int32) (la : Nat → Nat → Nat → Int64) (hI : IX iv fa) : Met l yX8_readWord (wc yX8_readWord cX8_readWord 2 (some .boolean)) ({ frames := 1, cells := 0, slots := 0, locals := 25 } : Room) (pW (dC, dI) classes (WX h g ca iv lv fa la) (TX ca) sz [.ref (g 11 4)]) (va_Qi (fun r (u : SS) => ∃ (na_1_5 : Nat → Int32) (ni_8_3 : Int32) (ni_8_4 : Int32) (ni_8_5 : Int32), inb (bI 8 3) ni_8_3 ∧ inb (bI 8 4) ni_8_4 ∧ inb (bI 8 5) ni_8_5 ∧ (0 ≤ r.toInt ∧ r.toInt ≤ 1) ∧ u = ((u2 (u2 (u2 iv 8 3 ni_8_3) 8 4 ni_8_4) 8 5 ni_8_5), lv, (u2 fa 1 5 na_1_5), la)) (bX (dC, dI) h g ca (va_A (WX h g ca iv lv fa la) sz)) (va_A (WX h g ca iv lv fa la) sz)) 0 0 (va_A (WX h g ca iv lv fa la) sz) := by
  refine Met.ofW (cc := cX8_readWord) (maxL := 2) (ret := (some .boolean)) (by decide) rfl ?_
  intro p e s m args below meth c s₁ B hml hv
  obtain ⟨rfl, hsz, hP, hK, hD0⟩ := hv
  have hx := B.exec
  have hb := B.bytes
  have hr := B.returns
  have ht := tb_tl (atoms_spec (ws := wc yX8_readWord cX8_readWord 2 (some .boolean)) B.pre)
  have hown : s.vm.findClass RX8 = some m.cls := findClass_of_methodNamed B.named
  have hlocks := B.notSynchronized
  subst hsz
  have hD := hD0.self (sz := s.heap.size)
  generalize hAe : va_A (WX h g ca iv lv fa la) s.heap.size = A at hD ⊢
  have hA : ∀ q : Nat, s.heap.size ≤ q → A q := fun q h => by rw [← hAe]; exact Or.inr h
  have hS : va_S A s.heap s.heap [] := va_S.rf
  have hl := lv_entry [.ref (g 11 4)] (n := 2) (Nat.le_of_ble_eq_true rfl)
  rw [lg_entry_eq]
  generalize (lg_sl [.ref (g 11 4)] ++ List.replicate (2 - (lg_sl [.ref (g 11 4)]).length) Slot.unset).toArray = ls at hl ⊢
  have hl : lv_has ls 2 [(0, .ref (g 11 4))] := hl
  refine lv_aload_n hx hb dX8_readWord_0 rfl (lv_at hl 0 rfl) ?_
  have hFc := free_all hD hS hA
  refine va_calli (va_runV (As := []) (rest := []) ⟨hx, hb, hml, hown, ht⟩ (c_X8_skipBlanks_x l dC dI s.heap.size h g ca iv lv fa la hI) (kV 0 ht m_688 m_690 m_16 m_82 m_691 rfl rfl hd_X8_skipBlanks_v ⟨Nat.le_of_ble_eq_true rfl, Nat.le_of_ble_eq_true rfl⟩) (vW hP hK hD (rX_8 hK hP)) rfl rfl hl.1 rfl (lv_room (Nat.le_of_ble_eq_true rfl)) dX8_readWord_1 ⟨Nat.le_of_ble_eq_true rfl, Nat.le_of_ble_eq_true rfl⟩) hS (fun q _ h => hFc q h) hFc (fun r1 u t H1 locs ht9 hvm hr1 hB hz1 hk1 hS => ?_)
  obtain ⟨n2, hn2, xr1_0, hr1, rfl⟩ := hr1
  have hn2 : 0 ≤ n2.toInt ∧ n2.toInt ≤ 200 := hn2
  obtain ⟨hP, hD⟩ := hB
  rw [ht9] at hP
  generalize H1 = H at hP hS ⊢
  have hP : va_P (dC, dI) classes (WX h g ca (u2 iv 8 5 n2) lv fa la) H := hP
  have hD : va_D A (WX h g ca (u2 iv 8 5 n2) lv fa la) := (show va_D _ (WX h g ca (u2 iv 8 5 n2) lv fa la) from hD).weaken (fun _ _ _ h => hFc _ h)
  have i_8_2 : 0 ≤ (iv 8 2).toInt ∧ (iv 8 2).toInt ≤ 200 := hI.1 8 2
  have xr1_0 : ((r1 : Int32).toInt = 0 ∨ (n2 : Int32).toInt + 1 ≤ ((iv 8 2) : Int32).toInt) := xr1_0
  refine lv_pop hx hb dX8_readWord_4 rfl ?_
  refine lv_aload_n hx hb dX8_readWord_5 rfl (lv_at hl 0 rfl) ?_
  refine lv_bipush (v := 97) hx hb dX8_readWord_6 (by decide) ?_
  refine lv_bipush (v := 122) hx hb dX8_readWord_8 (by decide) ?_
  refine vp_callSi (W.runV (As := [.int 97, .int 122]) (rest := []) ⟨hx, hb, hml, hown, ht⟩ (c_X8_endOfRun l dC dI h g ca (u2 iv 8 5 n2) lv fa la (IX_i (c := 8) (k := 5) hI (show inb (0, 200) n2 from ⟨by omega, by omega⟩)) 97 122) (kV 2 ht m_701 m_703 m_19 m_82 m_704 rfl rfl hd_X8_endOfRun_v ⟨Nat.le_of_ble_eq_true rfl, Nat.le_of_ble_eq_true rfl⟩) (vR hP hK (rX_8 hK hP)) rfl rfl hl.1 rfl (lv_room (Nat.le_of_ble_eq_true rfl)) dX8_readWord_10 ⟨Nat.le_of_ble_eq_true rfl, Nat.le_of_ble_eq_true rfl⟩) (fun r3 hr3 => ?_)
  refine lv_istore_n (lv' := [(1, .int r3), (0, .ref (g 11 4))]) hx hb dX8_readWord_13 rfl hl (by decide) rfl (fun ls hl => ?_)
  refine lv_iload_n hx hb dX8_readWord_14 rfl (lv_at hl 0 rfl) ?_
  refine lv_aload_n hx hb dX8_readWord_15 rfl (lv_at hl 1 rfl) ?_
  refine gX_8_5 hx hb ht hown hK hP m_235 (v := n2) rfl dX8_readWord_16 ?_
  refine lv_icmp_ne (tgt := 32) hx hb dX8_readWord_19 (by decide) (fun c4 => ?_) (fun c4 => ?_)
  · have fc4 := z_ne (rfl : (r3).toInt = _) (rfl : (n2).toInt = _) c4
    refine lv_iload_n hx hb dX8_readWord_32 rfl (lv_at hl 0 rfl) ?_
    refine lv_aload_n hx hb dX8_readWord_33 rfl (lv_at hl 1 rfl) ?_
    refine gX_8_5 hx hb ht hown hK hP m_235 (v := n2) rfl dX8_readWord_34 ?_
    refine lv_isub hx hb dX8_readWord_37 ?_
    refine lv_topi (fun v5 ev5 => ?_)
    have tv5 := z_sub ev5 (rfl : (r3).toInt = _) (rfl : (n2).toInt = _) (by omega) (by omega)
    refine lv_bipush (v := 8) hx hb dX8_readWord_38 (by decide) ?_
    refine lv_icmp_le (tgt := 53) hx hb dX8_readWord_40 (by decide) (fun c6 => ?_) (fun c6 => ?_)
    · have fc6 := z_le (rfl : (v5).toInt = _) (by decide : (8 : Int32).toInt = 8) c6
      refine lv_aload_n hx hb dX8_readWord_53 rfl (lv_at hl 1 rfl) ?_
      refine gX_8_0 hx hb ht hown hK hP m_228 dX8_readWord_54 ?_
      refine lv_aload_n hx hb dX8_readWord_57 rfl (lv_at hl 1 rfl) ?_
      refine gX_8_1 hx hb ht hown hK hP m_229 dX8_readWord_58 ?_
      refine lv_aload_n hx hb dX8_readWord_61 rfl (lv_at hl 1 rfl) ?_
      refine gX_8_5 hx hb ht hown hK hP m_235 (v := n2) rfl dX8_readWord_62 ?_
      refine lv_iload_n hx hb dX8_readWord_65 rfl (lv_at hl 0 rfl) ?_
      have hFc := free_all hD hS hA
      refine va_callv (va_runV (As := [.ref (g 8 1), .int n2, .int r3]) (rest := []) ⟨hx, hb, hml, hown, ht⟩ (c_X1_draftWord l dC dI H.size h g ca (u2 iv 8 5 n2) lv fa la (IX_i (c := 8) (k := 5) hI (show inb (0, 200) n2 from ⟨by omega, by omega⟩)) n2 r3 ⟨by omega, by omega⟩ ⟨by omega, by omega⟩) (kV 3 ht m_796 m_797 m_798 m_81 m_799 rfl rfl hd_X1_draftWord_v ⟨Nat.le_of_ble_eq_true rfl, Nat.le_of_ble_eq_true rfl⟩) (vW hP hK hD (rX_1 hK hP)) rfl rfl hl.1 rfl (lv_room (Nat.le_of_ble_eq_true rfl)) dX8_readWord_66 ⟨Nat.le_of_ble_eq_true rfl, Nat.le_of_ble_eq_true rfl⟩) hS (fun q _ h => hFc q h) hFc (fun u t H1 locs ht9 hvm hr7 hB hz1 hk1 hS => ?_)
      obtain ⟨n8, rfl⟩ := hr7
      have hn8 : ∀ j, inb (bA 1 5 j) (n8 j) := fun j => full_i _
      obtain ⟨hP, hD⟩ := hB
      rw [ht9] at hP
      generalize H1 = H at hP hS ⊢
      have hP : va_P (dC, dI) classes (WX h g ca (u2 iv 8 5 n2) lv (u2 fa 1 5 n8) la) H := hP
      have hD : va_D A (WX h g ca (u2 iv 8 5 n2) lv (u2 fa 1 5 n8) la) := (show va_D _ (WX h g ca (u2 iv 8 5 n2) lv (u2 fa 1 5 n8) la) from hD).weaken (fun _ _ _ h => hFc _ h)
      refine lv_aload_n hx hb dX8_readWord_69 rfl (lv_at hl 1 rfl) ?_
      refine lv_iload_n hx hb dX8_readWord_70 rfl (lv_at hl 0 rfl) ?_
      refine pX_8_5 (v := r3) hx hb ht hown hK hP hD hS m_235 dX8_readWord_71 (fun H locs hP hD hS => ?_)
      have hP : va_P (dC, dI) classes (WX h g ca (u2 iv 8 5 r3) lv (u2 fa 1 5 n8) la) H := hP
      have hD : va_D A (WX h g ca (u2 iv 8 5 r3) lv (u2 fa 1 5 n8) la) := hD
      refine lv_iconst (v := 1) hx hb dX8_readWord_74 (by decide) ?_
      have hP9 : va_P (dC, dI) classes (WX h g ca (u2 (u2 (u2 iv 8 3 (iv 8 3)) 8 4 (iv 8 4)) 8 5 r3) lv (u2 fa 1 5 n8) la) H := hP
      have hD9 : va_D A (WX h g ca (u2 (u2 (u2 iv 8 3 (iv 8 3)) 8 4 (iv 8 4)) 8 5 r3) lv (u2 fa 1 5 n8) la) := hD
      exact W.zret (v := 1) hx hb hr rfl (fun t ht9 hW => ⟨⟨1, ((u2 (u2 (u2 iv 8 3 (iv 8 3)) 8 4 (iv 8 4)) 8 5 r3), lv, (u2 fa 1 5 n8), la), rfl, ⟨n8, (iv 8 3), (iv 8 4), r3, (hI.1 8 3), (hI.1 8 4), (show inb (0, 200) r3 from ⟨by omega, by omega⟩), ⟨by decide, by decide⟩, rfl⟩, by rw [ht9]; exact hP9, hD9⟩, hS.F ht9⟩) hS.2.2 dX8_readWord_75
    · have fc6 := z_nle (rfl : (v5).toInt = _) (by decide : (8 : Int32).toInt = 8) c6
      refine lv_aload_n hx hb dX8_readWord_43 rfl (lv_at hl 1 rfl) ?_
      refine lv_iconst (v := 4) hx hb dX8_readWord_44 (by decide) ?_
      refine lv_aload_n hx hb dX8_readWord_45 rfl (lv_at hl 1 rfl) ?_
      refine gX_8_5 hx hb ht hown hK hP m_235 (v := n2) rfl dX8_readWord_46 ?_
      have hFc := free_all hD hS hA
      refine va_calli (va_runV (As := [.int 4, .int n2]) (rest := []) ⟨hx, hb, hml, hown, ht⟩ (c_X8_fail l dC dI H.size h g ca (u2 iv 8 5 n2) lv fa la (IX_i (c := 8) (k := 5) hI (show inb (0, 200) n2 from ⟨by omega, by omega⟩)) 4 n2 ⟨by decide, by decide⟩ ⟨by omega, by omega⟩) (kV 2 ht m_757 m_759 m_21 m_82 m_760 rfl rfl hd_X8_fail_v ⟨Nat.le_of_ble_eq_true rfl, Nat.le_of_ble_eq_true rfl⟩) (vW hP hK hD (rX_8 hK hP)) rfl rfl hl.1 rfl (lv_room (Nat.le_of_ble_eq_true rfl)) dX8_readWord_49 ⟨Nat.le_of_ble_eq_true rfl, Nat.le_of_ble_eq_true rfl⟩) hS (fun q _ h => hFc q h) hFc (fun r9 u t H1 locs ht9 hvm hr9 hB hz1 hk1 hS => ?_)
      obtain ⟨n10, n11, hn10, hn11, hr9, rfl⟩ := hr9
      have hn10 : (-1) ≤ n10.toInt ∧ n10.toInt ≤ 200 := hn10
      have hn11 : 0 ≤ n11.toInt ∧ n11.toInt ≤ 5 := hn11
      obtain ⟨hP, hD⟩ := hB
      rw [ht9] at hP
      generalize H1 = H at hP hS ⊢
      have hP : va_P (dC, dI) classes (WX h g ca (u2 (u2 (u2 iv 8 5 n2) 8 3 n10) 8 4 n11) lv fa la) H := hP
      have hD : va_D A (WX h g ca (u2 (u2 (u2 iv 8 5 n2) 8 3 n10) 8 4 n11) lv fa la) := (show va_D _ (WX h g ca (u2 (u2 (u2 iv 8 5 n2) 8 3 n10) 8 4 n11) lv fa la) from hD).weaken (fun _ _ _ h => hFc _ h)
      have hP9 : va_P (dC, dI) classes (WX h g ca (u2 (u2 (u2 iv 8 3 n10) 8 4 n11) 8 5 n2) lv (u2 fa 1 5 (fa 1 5)) la) H := hP
      have hD9 : va_D A (WX h g ca (u2 (u2 (u2 iv 8 3 n10) 8 4 n11) 8 5 n2) lv (u2 fa 1 5 (fa 1 5)) la) := hD
      exact W.zret (v := r9) hx hb hr (nar01 ⟨by omega, by omega⟩) (fun t ht9 hW => ⟨⟨r9, ((u2 (u2 (u2 iv 8 3 n10) 8 4 n11) 8 5 n2), lv, (u2 fa 1 5 (fa 1 5)), la), rfl, ⟨(fa 1 5), n10, n11, n2, (show inb ((-1), 200) n10 from ⟨by omega, by omega⟩), (show inb (0, 5) n11 from ⟨by omega, by omega⟩), (show inb (0, 200) n2 from ⟨by omega, by omega⟩), ⟨by omega, by omega⟩, rfl⟩, by rw [ht9]; exact hP9, hD9⟩, hS.F ht9⟩) hS.2.2 dX8_readWord_52
  · have fc4 := z_eq (rfl : (r3).toInt = _) (rfl : (n2).toInt = _) c4
    refine lv_aload_n hx hb dX8_readWord_22 rfl (lv_at hl 1 rfl) ?_
    refine lv_iconst (v := 1) hx hb dX8_readWord_23 (by decide) ?_
    refine lv_aload_n hx hb dX8_readWord_24 rfl (lv_at hl 1 rfl) ?_
    refine gX_8_5 hx hb ht hown hK hP m_235 (v := n2) rfl dX8_readWord_25 ?_
    have hFc := free_all hD hS hA
    refine va_calli (va_runV (As := [.int 1, .int n2]) (rest := []) ⟨hx, hb, hml, hown, ht⟩ (c_X8_fail l dC dI H.size h g ca (u2 iv 8 5 n2) lv fa la (IX_i (c := 8) (k := 5) hI (show inb (0, 200) n2 from ⟨by omega, by omega⟩)) 1 n2 ⟨by decide, by decide⟩ ⟨by omega, by omega⟩) (kV 2 ht m_757 m_759 m_21 m_82 m_760 rfl rfl hd_X8_fail_v ⟨Nat.le_of_ble_eq_true rfl, Nat.le_of_ble_eq_true rfl⟩) (vW hP hK hD (rX_8 hK hP)) rfl rfl hl.1 rfl (lv_room (Nat.le_of_ble_eq_true rfl)) dX8_readWord_28 ⟨Nat.le_of_ble_eq_true rfl, Nat.le_of_ble_eq_true rfl⟩) hS (fun q _ h => hFc q h) hFc (fun r12 u t H1 locs ht9 hvm hr12 hB hz1 hk1 hS => ?_)
    obtain ⟨n13, n14, hn13, hn14, hr12, rfl⟩ := hr12
    have hn13 : (-1) ≤ n13.toInt ∧ n13.toInt ≤ 200 := hn13
    have hn14 : 0 ≤ n14.toInt ∧ n14.toInt ≤ 5 := hn14
    obtain ⟨hP, hD⟩ := hB
    rw [ht9] at hP
    generalize H1 = H at hP hS ⊢
    have hP : va_P (dC, dI) classes (WX h g ca (u2 (u2 (u2 iv 8 5 n2) 8 3 n13) 8 4 n14) lv fa la) H := hP
    have hD : va_D A (WX h g ca (u2 (u2 (u2 iv 8 5 n2) 8 3 n13) 8 4 n14) lv fa la) := (show va_D _ (WX h g ca (u2 (u2 (u2 iv 8 5 n2) 8 3 n13) 8 4 n14) lv fa la) from hD).weaken (fun _ _ _ h => hFc _ h)
    have hP9 : va_P (dC, dI) classes (WX h g ca (u2 (u2 (u2 iv 8 3 n13) 8 4 n14) 8 5 n2) lv (u2 fa 1 5 (fa 1 5)) la) H := hP
    have hD9 : va_D A (WX h g ca (u2 (u2 (u2 iv 8 3 n13) 8 4 n14) 8 5 n2) lv (u2 fa 1 5 (fa 1 5)) la) := hD
    exact W.zret (v := r12) hx hb hr (nar01 ⟨by omega, by omega⟩) (fun t ht9 hW => ⟨⟨r12, ((u2 (u2 (u2 iv 8 3 n13) 8 4 n14) 8 5 n2), lv, (u2 fa 1 5 (fa 1 5)), la), rfl, ⟨(fa 1 5), n13, n14, n2, (show inb ((-1), 200) n13 from ⟨by omega, by omega⟩), (show inb (0, 5) n14 from ⟨by omega, by omega⟩), (show inb (0, 200) n2 from ⟨by omega, by omega⟩), ⟨by omega, by omega⟩, rfl⟩, by rw [ht9]; exact hP9, hD9⟩, hS.F ht9⟩) hS.2.2 dX8_readWord_31
set_option maxHeartbeats 4000000 in
set_option maxRecDepth 100000 in
/-- X8_readLet -/
theorem c_X8_readLet (l : Launch) (dC : Nat → ClassId) (dI : Nat → Nat → Nat) (sz : Nat) (ak av : Nat → Nat) (h : Nat) (g : Nat → Nat → Nat) (ca : Nat → Nat → ClassId) (iv : Nat → Nat → Int32) (lv : Nat → Nat → Int64) (fa : Nat → Nat → Nat → Int32) (la : Nat → Nat → Nat → Int64) (hI : IX iv fa) : Met l yX8_readLet (wc yX8_readLet cX8_readLet 3 (some .boolean)) ({ frames := 6, cells := 0, slots := 0, locals := 135 } : Room) (pWZ ak av (dC, dI) classes (WX h g ca iv lv fa la) (TX ca) sz [.ref (g 11 4)]) (va_Qi (fun r (u : SS) => ∃ (na_1_2 : Nat → Int32) (na_1_3 : Nat → Int32) (na_1_4 : Nat → Int32) (ni_1_8 : Int32) (ni_8_3 : Int32) (ni_8_4 : Int32) (ni_8_5 : Int32), inb (bI 1 8) ni_1_8 ∧ inb (bI 8 3) ni_8_3 ∧ inb (bI 8 4) ni_8_4 ∧ inb (bI 8 5) ni_8_5 ∧ (0 ≤ r.toInt ∧ r.toInt ≤ 1) ∧ u = ((u2 (u2 (u2 (u2 iv 1 8 ni_1_8) 8 3 ni_8_3) 8 4 ni_8_4) 8 5 ni_8_5), lv, (u2 (u2 (u2 fa 1 2 na_1_2) 1 3 na_1_3) 1 4 na_1_4), la)) (bX (dC, dI) h g ca (va_A (WX h g ca iv lv fa la) sz)) (va_A (WX h g ca iv lv fa la) sz)) 0 0 (va_A (WX h g ca iv lv fa la) sz) := by
  refine Met.ofW (cc := cX8_readLet) (maxL := 3) (ret := (some .boolean)) (by decide) rfl ?_
  intro p e s m args below meth c s₁ B hml hv
  obtain ⟨rfl, hsz, hP, hK, hD0, hZ⟩ := hv
  have hx := B.exec
  have hb := B.bytes
  have hr := B.returns
  have ht := tb_tl (atoms_spec (ws := wc yX8_readLet cX8_readLet 3 (some .boolean)) B.pre)
  have hown : s.vm.findClass RX8 = some m.cls := findClass_of_methodNamed B.named
  have hlocks := B.notSynchronized
  subst hsz
  have hD := hD0.self (sz := s.heap.size)
  generalize hAe : va_A (WX h g ca iv lv fa la) s.heap.size = A at hD hZ ⊢
  have hA : ∀ q : Nat, s.heap.size ≤ q → A q := fun q h => by rw [← hAe]; exact Or.inr h
  have hS : va_S A s.heap s.heap [] := va_S.rf
  have hl := lv_entry [.ref (g 11 4)] (n := 3) (Nat.le_of_ble_eq_true rfl)
  rw [lg_entry_eq]
  generalize (lg_sl [.ref (g 11 4)] ++ List.replicate (3 - (lg_sl [.ref (g 11 4)]).length) Slot.unset).toArray = ls at hl ⊢
  have hl : lv_has ls 3 [(0, .ref (g 11 4))] := hl
  refine lv_aload_n hx hb dX8_readLet_0 rfl (lv_at hl 0 rfl) ?_
  refine va_ldcS hx hb hown hZ.2.2.1 dX8_readLet_1 ?_
  have hFc := free_all hD hS hA
  refine va_calli (va_runV (As := [.ref (ak 1)]) (rest := []) ⟨hx, hb, hml, hown, ht⟩ (c_X8_readOneOf_1 l dC dI s.heap.size ak av h g ca iv lv fa la hI) (kV 1 ht m_697 m_699 m_18 m_82 m_700 rfl rfl hd_X8_readOneOf_v ⟨Nat.le_of_ble_eq_true rfl, Nat.le_of_ble_eq_true rfl⟩) (vWZ hP hK hD ((hZ.kept hS.2.1).narrow (free_all hD hS hA)) (rX_8 hK hP)) rfl rfl hl.1 rfl (lv_room (Nat.le_of_ble_eq_true rfl)) dX8_readLet_3 ⟨Nat.le_of_ble_eq_true rfl, Nat.le_of_ble_eq_true rfl⟩) hS (fun q _ h => hFc q h) hFc (fun r1 u t H1 locs ht9 hvm hr1 hB hz1 hk1 hS => ?_)
  obtain ⟨n2, n3, n4, hn2, hn3, hn4, hr1, rfl⟩ := hr1
  have hn2 : (-1) ≤ n2.toInt ∧ n2.toInt ≤ 200 := hn2
  have hn3 : 0 ≤ n3.toInt ∧ n3.toInt ≤ 5 := hn3
  have hn4 : 0 ≤ n4.toInt ∧ n4.toInt ≤ 200 := hn4
  obtain ⟨hP, hD⟩ := hB
  rw [ht9] at hP
  generalize H1 = H at hP hS ⊢
  have hP : va_P (dC, dI) classes (WX h g ca (u2 (u2 (u2 iv 8 3 n2) 8 4 n3) 8 5 n4) lv fa la) H := hP
  have hD : va_D A (WX h g ca (u2 (u2 (u2 iv 8 3 n2) 8 4 n3) 8 5 n4) lv fa la) := (show va_D _ (WX h g ca (u2 (u2 (u2 iv 8 3 n2) 8 4 n3) 8 5 n4) lv fa la) from hD).weaken (fun _ _ _ h => hFc _ h)
  refine lv_istore_n (lv' := [(1, .int r1), (0, .ref (g 11 4))]) hx hb dX8_readLet_6 rfl hl (by decide) rfl (fun ls hl => ?_)
  refine lv_iload_n hx hb dX8_readLet_7 rfl (lv_at hl 0 rfl) ?_
  refine lv_iconst (v := (-1)) hx hb dX8_readLet_8 (by decide) ?_
  refine lv_icmp_ne (tgt := 14) hx hb dX8_readLet_9 (by decide) (fun c5 => ?_) (fun c5 => ?_)
  · have fc5 := z_ne (rfl : (r1).toInt = _) (by decide : ((-1) : Int32).toInt = (-1)) c5
    refine lv_aload_n hx hb dX8_readLet_14 rfl (lv_at hl 1 rfl) ?_
    obtain ⟨tz6, hztz6, hytz6⟩ := hZ.1.2.1
    refine va_gets hx hb hztz6 hS hown (ht _ m_766) (fun _ h9 => h9) dX8_readLet_15 ?_
    refine lv_iload_n hx hb dX8_readLet_18 rfl (lv_at hl 0 rfl) ?_
    refine va_ti (v := .int (C_LN (r1 : Int32).toNatClampNeg)) hx hb hytz6 hS (vp_in_iff.mpr ⟨by omega, by omega⟩) rfl dX8_readLet_19 ?_
    refine lv_topi (fun v7 ev7 => ?_)
    obtain ⟨tz8, hztz8, hytz8⟩ := hZ.1.2.2.1
    refine va_gets hx hb hztz8 hS hown (ht _ m_768) (fun _ h9 => h9) dX8_readLet_20 ?_
    refine lv_iload_n hx hb dX8_readLet_23 rfl (lv_at hl 0 rfl) ?_
    refine va_ti (v := .int (C_MN (r1 : Int32).toNatClampNeg)) hx hb hytz8 hS (vp_in_iff.mpr ⟨by omega, by omega⟩) rfl dX8_readLet_24 ?_
    refine lv_topi (fun v9 ev9 => ?_)
    have hFc := free_all hD hS hA
    refine va_calli (va_runV (As := [.int v7, .int v9]) (rest := []) ⟨hx, hb, hml, hown, ht⟩ (c_X8_readNumber l dC dI H.size ak av h g ca (u2 (u2 (u2 iv 8 3 n2) 8 4 n3) 8 5 n4) lv fa la (IX_i (c := 8) (k := 5) (IX_i (c := 8) (k := 4) (IX_i (c := 8) (k := 3) hI (show inb ((-1), 200) n2 from ⟨by omega, by omega⟩)) (show inb (0, 5) n3 from ⟨by omega, by omega⟩)) (show inb (0, 200) n4 from ⟨by omega, by omega⟩)) v7 v9) (kV 2 ht m_770 m_772 m_23 m_82 m_773 rfl rfl hd_X8_readNumber_v ⟨Nat.le_of_ble_eq_true rfl, Nat.le_of_ble_eq_true rfl⟩) (vWZ hP hK hD ((hZ.kept hS.2.1).narrow (free_all hD hS hA)) (rX_8 hK hP)) rfl rfl hl.1 rfl (lv_room (Nat.le_of_ble_eq_true rfl)) dX8_readLet_25 ⟨Nat.le_of_ble_eq_true rfl, Nat.le_of_ble_eq_true rfl⟩) hS (fun q _ h => hFc q h) hFc (fun r10 u t H1 locs ht9 hvm hr10 hB hz1 hk1 hS => ?_)
    obtain ⟨n11, n12, n13, hn11, hn12, hn13, hr10, rfl⟩ := hr10
    have hn11 : (-1) ≤ n11.toInt ∧ n11.toInt ≤ 200 := hn11
    have hn12 : 0 ≤ n12.toInt ∧ n12.toInt ≤ 5 := hn12
    have hn13 : 0 ≤ n13.toInt ∧ n13.toInt ≤ 200 := hn13
    obtain ⟨hP, hD⟩ := hB
    rw [ht9] at hP
    generalize H1 = H at hP hS ⊢
    have hP : va_P (dC, dI) classes (WX h g ca (u2 (u2 (u2 iv 8 3 n11) 8 4 n12) 8 5 n13) lv fa la) H := hP
    have hD : va_D A (WX h g ca (u2 (u2 (u2 iv 8 3 n11) 8 4 n12) 8 5 n13) lv fa la) := (show va_D _ (WX h g ca (u2 (u2 (u2 iv 8 3 n11) 8 4 n12) 8 5 n13) lv fa la) from hD).weaken (fun _ _ _ h => hFc _ h)
    refine lv_istore_n (lv' := [(2, .int r10), (1, .int r1), (0, .ref (g 11 4))]) hx hb dX8_readLet_28 rfl hl (by decide) rfl (fun ls hl => ?_)
    refine lv_iload_n hx hb dX8_readLet_29 rfl (lv_at hl 0 rfl) ?_
    refine lv_iconst (v := (-1)) hx hb dX8_readLet_30 (by decide) ?_
    refine lv_icmp_eq (tgt := 41) hx hb dX8_readLet_31 (by decide) (fun c14 => ?_) (fun c14 => ?_)
    · have fc14 := z_eq (rfl : (r10).toInt = _) (by decide : ((-1) : Int32).toInt = (-1)) c14
      refine lv_iconst (v := 0) hx hb dX8_readLet_41 (by decide) ?_
      have hP9 : va_P (dC, dI) classes (WX h g ca (u2 (u2 (u2 (u2 iv 1 8 (iv 1 8)) 8 3 n11) 8 4 n12) 8 5 n13) lv (u2 (u2 (u2 fa 1 2 (fa 1 2)) 1 3 (fa 1 3)) 1 4 (fa 1 4)) la) H := hP
      have hD9 : va_D A (WX h g ca (u2 (u2 (u2 (u2 iv 1 8 (iv 1 8)) 8 3 n11) 8 4 n12) 8 5 n13) lv (u2 (u2 (u2 fa 1 2 (fa 1 2)) 1 3 (fa 1 3)) 1 4 (fa 1 4)) la) := hD
      exact W.zret (v := 0) hx hb hr rfl (fun t ht9 hW => ⟨⟨0, ((u2 (u2 (u2 (u2 iv 1 8 (iv 1 8)) 8 3 n11) 8 4 n12) 8 5 n13), lv, (u2 (u2 (u2 fa 1 2 (fa 1 2)) 1 3 (fa 1 3)) 1 4 (fa 1 4)), la), rfl, ⟨(fa 1 2), (fa 1 3), (fa 1 4), (iv 1 8), n11, n12, n13, (hI.1 1 8), (show inb ((-1), 200) n11 from ⟨by omega, by omega⟩), (show inb (0, 5) n12 from ⟨by omega, by omega⟩), (show inb (0, 200) n13 from ⟨by omega, by omega⟩), ⟨by decide, by decide⟩, rfl⟩, by rw [ht9]; exact hP9, hD9⟩, hS.F ht9⟩) hS.2.2 dX8_readLet_42
    · have fc14 := z_ne (rfl : (r10).toInt = _) (by decide : ((-1) : Int32).toInt = (-1)) c14
      refine lv_aload_n hx hb dX8_readLet_34 rfl (lv_at hl 2 rfl) ?_
      have hFc := free_all hD hS hA
      refine va_calli (va_runV (As := []) (rest := []) ⟨hx, hb, hml, hown, ht⟩ (c_X8_readStop l dC dI H.size h g ca (u2 (u2 (u2 iv 8 3 n11) 8 4 n12) 8 5 n13) lv fa la (IX_i (c := 8) (k := 5) (IX_i (c := 8) (k := 4) (IX_i (c := 8) (k := 3) hI (show inb ((-1), 200) n11 from ⟨by omega, by omega⟩)) (show inb (0, 5) n12 from ⟨by omega, by omega⟩)) (show inb (0, 200) n13 from ⟨by omega, by omega⟩))) (kV 0 ht m_775 m_777 m_24 m_82 m_778 rfl rfl hd_X8_readStop_v ⟨Nat.le_of_ble_eq_true rfl, Nat.le_of_ble_eq_true rfl⟩) (vW hP hK hD (rX_8 hK hP)) rfl rfl hl.1 rfl (lv_room (Nat.le_of_ble_eq_true rfl)) dX8_readLet_35 ⟨Nat.le_of_ble_eq_true rfl, Nat.le_of_ble_eq_true rfl⟩) hS (fun q _ h => hFc q h) hFc (fun r15 u t H1 locs ht9 hvm hr15 hB hz1 hk1 hS => ?_)
      obtain ⟨n16, n17, n18, hn16, hn17, hn18, hr15, rfl⟩ := hr15
      have hn16 : (-1) ≤ n16.toInt ∧ n16.toInt ≤ 200 := hn16
      have hn17 : 0 ≤ n17.toInt ∧ n17.toInt ≤ 5 := hn17
      have hn18 : 0 ≤ n18.toInt ∧ n18.toInt ≤ 200 := hn18
      obtain ⟨hP, hD⟩ := hB
      rw [ht9] at hP
      generalize H1 = H at hP hS ⊢
      have hP : va_P (dC, dI) classes (WX h g ca (u2 (u2 (u2 iv 8 3 n16) 8 4 n17) 8 5 n18) lv fa la) H := hP
      have hD : va_D A (WX h g ca (u2 (u2 (u2 iv 8 3 n16) 8 4 n17) 8 5 n18) lv fa la) := (show va_D _ (WX h g ca (u2 (u2 (u2 iv 8 3 n16) 8 4 n17) 8 5 n18) lv fa la) from hD).weaken (fun _ _ _ h => hFc _ h)
      refine lv_if_ne (tgt := 43) hx hb dX8_readLet_38 (by decide) (fun c19 => ?_) (fun c19 => ?_)
      · have fc19 := z_ne (rfl : (r15).toInt = _) (by decide : (0 : Int32).toInt = 0) c19
        refine lv_aload_n hx hb dX8_readLet_43 rfl (lv_at hl 2 rfl) ?_
        refine gX_8_0 hx hb ht hown hK hP m_228 dX8_readLet_44 ?_
        refine lv_iload_n hx hb dX8_readLet_47 rfl (lv_at hl 1 rfl) ?_
        refine lv_iload_n hx hb dX8_readLet_48 rfl (lv_at hl 0 rfl) ?_
        refine lv_iconst (v := 0) hx hb dX8_readLet_49 (by decide) ?_
        have hFc := free_all hD hS hA
        refine va_callv (va_runV (As := [.int r1, .int r10, .int 0]) (rest := []) ⟨hx, hb, hml, hown, ht⟩ (c_X1_draft l dC dI H.size h g ca (u2 (u2 (u2 iv 8 3 n16) 8 4 n17) 8 5 n18) lv fa la (IX_i (c := 8) (k := 5) (IX_i (c := 8) (k := 4) (IX_i (c := 8) (k := 3) hI (show inb ((-1), 200) n16 from ⟨by omega, by omega⟩)) (show inb (0, 5) n17 from ⟨by omega, by omega⟩)) (show inb (0, 200) n18 from ⟨by omega, by omega⟩)) r1 r10 0) (kV 3 ht m_779 m_780 m_781 m_81 m_782 rfl rfl hd_X1_draft_v ⟨Nat.le_of_ble_eq_true rfl, Nat.le_of_ble_eq_true rfl⟩) (vW hP hK hD (rX_1 hK hP)) rfl rfl hl.1 rfl (lv_room (Nat.le_of_ble_eq_true rfl)) dX8_readLet_50 ⟨Nat.le_of_ble_eq_true rfl, Nat.le_of_ble_eq_true rfl⟩) hS (fun q _ h => hFc q h) hFc (fun u t H1 locs ht9 hvm hr20 hB hz1 hk1 hS => ?_)
        obtain ⟨n21, n22, n23, n24, hn24, rfl⟩ := hr20
        have hn21 : ∀ j, inb (bA 1 2 j) (n21 j) := fun j => full_i _
        have hn22 : ∀ j, inb (bA 1 3 j) (n22 j) := fun j => full_i _
        have hn23 : ∀ j, inb (bA 1 4 j) (n23 j) := fun j => full_i _
        have hn24 : 0 ≤ n24.toInt ∧ n24.toInt ≤ 12 := hn24
        obtain ⟨hP, hD⟩ := hB
        rw [ht9] at hP
        generalize H1 = H at hP hS ⊢
        have hP : va_P (dC, dI) classes (WX h g ca (u2 (u2 (u2 (u2 iv 8 3 n16) 8 4 n17) 8 5 n18) 1 8 n24) lv (u2 (u2 (u2 fa 1 2 n21) 1 3 n22) 1 4 n23) la) H := hP
        have hD : va_D A (WX h g ca (u2 (u2 (u2 (u2 iv 8 3 n16) 8 4 n17) 8 5 n18) 1 8 n24) lv (u2 (u2 (u2 fa 1 2 n21) 1 3 n22) 1 4 n23) la) := (show va_D _ (WX h g ca (u2 (u2 (u2 (u2 iv 8 3 n16) 8 4 n17) 8 5 n18) 1 8 n24) lv (u2 (u2 (u2 fa 1 2 n21) 1 3 n22) 1 4 n23) la) from hD).weaken (fun _ _ _ h => hFc _ h)
        refine lv_iconst (v := 1) hx hb dX8_readLet_53 (by decide) ?_
        have hP9 : va_P (dC, dI) classes (WX h g ca (u2 (u2 (u2 (u2 iv 1 8 n24) 8 3 n16) 8 4 n17) 8 5 n18) lv (u2 (u2 (u2 fa 1 2 n21) 1 3 n22) 1 4 n23) la) H := hP
        have hD9 : va_D A (WX h g ca (u2 (u2 (u2 (u2 iv 1 8 n24) 8 3 n16) 8 4 n17) 8 5 n18) lv (u2 (u2 (u2 fa 1 2 n21) 1 3 n22) 1 4 n23) la) := hD
        exact W.zret (v := 1) hx hb hr rfl (fun t ht9 hW => ⟨⟨1, ((u2 (u2 (u2 (u2 iv 1 8 n24) 8 3 n16) 8 4 n17) 8 5 n18), lv, (u2 (u2 (u2 fa 1 2 n21) 1 3 n22) 1 4 n23), la), rfl, ⟨n21, n22, n23, n24, n16, n17, n18, (show inb (0, 12) n24 from ⟨by omega, by omega⟩), (show inb ((-1), 200) n16 from ⟨by omega, by omega⟩), (show inb (0, 5) n17 from ⟨by omega, by omega⟩), (show inb (0, 200) n18 from ⟨by omega, by omega⟩), ⟨by decide, by decide⟩, rfl⟩, by rw [ht9]; exact hP9, hD9⟩, hS.F ht9⟩) hS.2.2 dX8_readLet_54
      · have fc19 := z_eq (rfl : (r15).toInt = _) (by decide : (0 : Int32).toInt = 0) c19
        refine lv_iconst (v := 0) hx hb dX8_readLet_41 (by decide) ?_
        have hP9 : va_P (dC, dI) classes (WX h g ca (u2 (u2 (u2 (u2 iv 1 8 (iv 1 8)) 8 3 n16) 8 4 n17) 8 5 n18) lv (u2 (u2 (u2 fa 1 2 (fa 1 2)) 1 3 (fa 1 3)) 1 4 (fa 1 4)) la) H := hP
        have hD9 : va_D A (WX h g ca (u2 (u2 (u2 (u2 iv 1 8 (iv 1 8)) 8 3 n16) 8 4 n17) 8 5 n18) lv (u2 (u2 (u2 fa 1 2 (fa 1 2)) 1 3 (fa 1 3)) 1 4 (fa 1 4)) la) := hD
        exact W.zret (v := 0) hx hb hr rfl (fun t ht9 hW => ⟨⟨0, ((u2 (u2 (u2 (u2 iv 1 8 (iv 1 8)) 8 3 n16) 8 4 n17) 8 5 n18), lv, (u2 (u2 (u2 fa 1 2 (fa 1 2)) 1 3 (fa 1 3)) 1 4 (fa 1 4)), la), rfl, ⟨(fa 1 2), (fa 1 3), (fa 1 4), (iv 1 8), n16, n17, n18, (hI.1 1 8), (show inb ((-1), 200) n16 from ⟨by omega, by omega⟩), (show inb (0, 5) n17 from ⟨by omega, by omega⟩), (show inb (0, 200) n18 from ⟨by omega, by omega⟩), ⟨by decide, by decide⟩, rfl⟩, by rw [ht9]; exact hP9, hD9⟩, hS.F ht9⟩) hS.2.2 dX8_readLet_42
  · have fc5 := z_eq (rfl : (r1).toInt = _) (by decide : ((-1) : Int32).toInt = (-1)) c5
    refine lv_iconst (v := 0) hx hb dX8_readLet_12 (by decide) ?_
    have hP9 : va_P (dC, dI) classes (WX h g ca (u2 (u2 (u2 (u2 iv 1 8 (iv 1 8)) 8 3 n2) 8 4 n3) 8 5 n4) lv (u2 (u2 (u2 fa 1 2 (fa 1 2)) 1 3 (fa 1 3)) 1 4 (fa 1 4)) la) H := hP
    have hD9 : va_D A (WX h g ca (u2 (u2 (u2 (u2 iv 1 8 (iv 1 8)) 8 3 n2) 8 4 n3) 8 5 n4) lv (u2 (u2 (u2 fa 1 2 (fa 1 2)) 1 3 (fa 1 3)) 1 4 (fa 1 4)) la) := hD
    exact W.zret (v := 0) hx hb hr rfl (fun t ht9 hW => ⟨⟨0, ((u2 (u2 (u2 (u2 iv 1 8 (iv 1 8)) 8 3 n2) 8 4 n3) 8 5 n4), lv, (u2 (u2 (u2 fa 1 2 (fa 1 2)) 1 3 (fa 1 3)) 1 4 (fa 1 4)), la), rfl, ⟨(fa 1 2), (fa 1 3), (fa 1 4), (iv 1 8), n2, n3, n4, (hI.1 1 8), (show inb ((-1), 200) n2 from ⟨by omega, by omega⟩), (show inb (0, 5) n3 from ⟨by omega, by omega⟩), (show inb (0, 200) n4 from ⟨by omega, by omega⟩), ⟨by decide, by decide⟩, rfl⟩, by rw [ht9]; exact hP9, hD9⟩, hS.F ht9⟩) hS.2.2 dX8_readLet_13
set_option maxHeartbeats 4000000 in
set_option maxRecDepth 100000 in
/-- X8_readTake -/
theorem c_X8_readTake (l : Launch) (dC : Nat → ClassId) (dI : Nat → Nat → Nat) (sz : Nat) (ak av : Nat → Nat) (h : Nat) (g : Nat → Nat → Nat) (ca : Nat → Nat → ClassId) (iv : Nat → Nat → Int32) (lv : Nat → Nat → Int64) (fa : Nat → Nat → Nat → Int32) (la : Nat → Nat → Nat → Int64) (hI : IX iv fa) : Met l yX8_readTake (wc yX8_readTake cX8_readTake 2 (some .boolean)) ({ frames := 6, cells := 0, slots := 0, locals := 135 } : Room) (pWZ ak av (dC, dI) classes (WX h g ca iv lv fa la) (TX ca) sz [.ref (g 11 4)]) (va_Qi (fun r (u : SS) => ∃ (na_1_2 : Nat → Int32) (na_1_3 : Nat → Int32) (na_1_4 : Nat → Int32) (ni_1_8 : Int32) (ni_8_3 : Int32) (ni_8_4 : Int32) (ni_8_5 : Int32), inb (bI 1 8) ni_1_8 ∧ inb (bI 8 3) ni_8_3 ∧ inb (bI 8 4) ni_8_4 ∧ inb (bI 8 5) ni_8_5 ∧ (0 ≤ r.toInt ∧ r.toInt ≤ 1) ∧ u = ((u2 (u2 (u2 (u2 iv 1 8 ni_1_8) 8 3 ni_8_3) 8 4 ni_8_4) 8 5 ni_8_5), lv, (u2 (u2 (u2 fa 1 2 na_1_2) 1 3 na_1_3) 1 4 na_1_4), la)) (bX (dC, dI) h g ca (va_A (WX h g ca iv lv fa la) sz)) (va_A (WX h g ca iv lv fa la) sz)) 0 0 (va_A (WX h g ca iv lv fa la) sz) := by
  refine Met.ofW (cc := cX8_readTake) (maxL := 2) (ret := (some .boolean)) (by decide) rfl ?_
  intro p e s m args below meth c s₁ B hml hv
  obtain ⟨rfl, hsz, hP, hK, hD0, hZ⟩ := hv
  have hx := B.exec
  have hb := B.bytes
  have hr := B.returns
  have ht := tb_tl (atoms_spec (ws := wc yX8_readTake cX8_readTake 2 (some .boolean)) B.pre)
  have hown : s.vm.findClass RX8 = some m.cls := findClass_of_methodNamed B.named
  have hlocks := B.notSynchronized
  subst hsz
  have hD := hD0.self (sz := s.heap.size)
  generalize hAe : va_A (WX h g ca iv lv fa la) s.heap.size = A at hD hZ ⊢
  have hA : ∀ q : Nat, s.heap.size ≤ q → A q := fun q h => by rw [← hAe]; exact Or.inr h
  have hS : va_S A s.heap s.heap [] := va_S.rf
  have hl := lv_entry [.ref (g 11 4)] (n := 2) (Nat.le_of_ble_eq_true rfl)
  rw [lg_entry_eq]
  generalize (lg_sl [.ref (g 11 4)] ++ List.replicate (2 - (lg_sl [.ref (g 11 4)]).length) Slot.unset).toArray = ls at hl ⊢
  have hl : lv_has ls 2 [(0, .ref (g 11 4))] := hl
  refine lv_aload_n hx hb dX8_readTake_0 rfl (lv_at hl 0 rfl) ?_
  refine va_ldcS hx hb hown hZ.2.2.2.1 dX8_readTake_1 ?_
  have hFc := free_all hD hS hA
  refine va_calli (va_runV (As := [.ref (ak 2)]) (rest := []) ⟨hx, hb, hml, hown, ht⟩ (c_X8_readOneOf_2 l dC dI s.heap.size ak av h g ca iv lv fa la hI) (kV 1 ht m_697 m_699 m_18 m_82 m_700 rfl rfl hd_X8_readOneOf_v ⟨Nat.le_of_ble_eq_true rfl, Nat.le_of_ble_eq_true rfl⟩) (vWZ hP hK hD ((hZ.kept hS.2.1).narrow (free_all hD hS hA)) (rX_8 hK hP)) rfl rfl hl.1 rfl (lv_room (Nat.le_of_ble_eq_true rfl)) dX8_readTake_3 ⟨Nat.le_of_ble_eq_true rfl, Nat.le_of_ble_eq_true rfl⟩) hS (fun q _ h => hFc q h) hFc (fun r1 u t H1 locs ht9 hvm hr1 hB hz1 hk1 hS => ?_)
  obtain ⟨n2, n3, n4, hn2, hn3, hn4, hr1, rfl⟩ := hr1
  have hn2 : (-1) ≤ n2.toInt ∧ n2.toInt ≤ 200 := hn2
  have hn3 : 0 ≤ n3.toInt ∧ n3.toInt ≤ 5 := hn3
  have hn4 : 0 ≤ n4.toInt ∧ n4.toInt ≤ 200 := hn4
  obtain ⟨hP, hD⟩ := hB
  rw [ht9] at hP
  generalize H1 = H at hP hS ⊢
  have hP : va_P (dC, dI) classes (WX h g ca (u2 (u2 (u2 iv 8 3 n2) 8 4 n3) 8 5 n4) lv fa la) H := hP
  have hD : va_D A (WX h g ca (u2 (u2 (u2 iv 8 3 n2) 8 4 n3) 8 5 n4) lv fa la) := (show va_D _ (WX h g ca (u2 (u2 (u2 iv 8 3 n2) 8 4 n3) 8 5 n4) lv fa la) from hD).weaken (fun _ _ _ h => hFc _ h)
  refine lv_istore_n (lv' := [(1, .int r1), (0, .ref (g 11 4))]) hx hb dX8_readTake_6 rfl hl (by decide) rfl (fun ls hl => ?_)
  refine lv_iload_n hx hb dX8_readTake_7 rfl (lv_at hl 0 rfl) ?_
  refine lv_iconst (v := (-1)) hx hb dX8_readTake_8 (by decide) ?_
  refine lv_icmp_eq (tgt := 19) hx hb dX8_readTake_9 (by decide) (fun c5 => ?_) (fun c5 => ?_)
  · have fc5 := z_eq (rfl : (r1).toInt = _) (by decide : ((-1) : Int32).toInt = (-1)) c5
    refine lv_iconst (v := 0) hx hb dX8_readTake_19 (by decide) ?_
    have hP9 : va_P (dC, dI) classes (WX h g ca (u2 (u2 (u2 (u2 iv 1 8 (iv 1 8)) 8 3 n2) 8 4 n3) 8 5 n4) lv (u2 (u2 (u2 fa 1 2 (fa 1 2)) 1 3 (fa 1 3)) 1 4 (fa 1 4)) la) H := hP
    have hD9 : va_D A (WX h g ca (u2 (u2 (u2 (u2 iv 1 8 (iv 1 8)) 8 3 n2) 8 4 n3) 8 5 n4) lv (u2 (u2 (u2 fa 1 2 (fa 1 2)) 1 3 (fa 1 3)) 1 4 (fa 1 4)) la) := hD
    exact W.zret (v := 0) hx hb hr rfl (fun t ht9 hW => ⟨⟨0, ((u2 (u2 (u2 (u2 iv 1 8 (iv 1 8)) 8 3 n2) 8 4 n3) 8 5 n4), lv, (u2 (u2 (u2 fa 1 2 (fa 1 2)) 1 3 (fa 1 3)) 1 4 (fa 1 4)), la), rfl, ⟨(fa 1 2), (fa 1 3), (fa 1 4), (iv 1 8), n2, n3, n4, (hI.1 1 8), (show inb ((-1), 200) n2 from ⟨by omega, by omega⟩), (show inb (0, 5) n3 from ⟨by omega, by omega⟩), (show inb (0, 200) n4 from ⟨by omega, by omega⟩), ⟨by decide, by decide⟩, rfl⟩, by rw [ht9]; exact hP9, hD9⟩, hS.F ht9⟩) hS.2.2 dX8_readTake_20
  · have fc5 := z_ne (rfl : (r1).toInt = _) (by decide : ((-1) : Int32).toInt = (-1)) c5
    refine lv_aload_n hx hb dX8_readTake_12 rfl (lv_at hl 1 rfl) ?_
    have hFc := free_all hD hS hA
    refine va_calli (va_runV (As := []) (rest := []) ⟨hx, hb, hml, hown, ht⟩ (c_X8_readStop l dC dI H.size h g ca (u2 (u2 (u2 iv 8 3 n2) 8 4 n3) 8 5 n4) lv fa la (IX_i (c := 8) (k := 5) (IX_i (c := 8) (k := 4) (IX_i (c := 8) (k := 3) hI (show inb ((-1), 200) n2 from ⟨by omega, by omega⟩)) (show inb (0, 5) n3 from ⟨by omega, by omega⟩)) (show inb (0, 200) n4 from ⟨by omega, by omega⟩))) (kV 0 ht m_775 m_777 m_24 m_82 m_778 rfl rfl hd_X8_readStop_v ⟨Nat.le_of_ble_eq_true rfl, Nat.le_of_ble_eq_true rfl⟩) (vW hP hK hD (rX_8 hK hP)) rfl rfl hl.1 rfl (lv_room (Nat.le_of_ble_eq_true rfl)) dX8_readTake_13 ⟨Nat.le_of_ble_eq_true rfl, Nat.le_of_ble_eq_true rfl⟩) hS (fun q _ h => hFc q h) hFc (fun r6 u t H1 locs ht9 hvm hr6 hB hz1 hk1 hS => ?_)
    obtain ⟨n7, n8, n9, hn7, hn8, hn9, hr6, rfl⟩ := hr6
    have hn7 : (-1) ≤ n7.toInt ∧ n7.toInt ≤ 200 := hn7
    have hn8 : 0 ≤ n8.toInt ∧ n8.toInt ≤ 5 := hn8
    have hn9 : 0 ≤ n9.toInt ∧ n9.toInt ≤ 200 := hn9
    obtain ⟨hP, hD⟩ := hB
    rw [ht9] at hP
    generalize H1 = H at hP hS ⊢
    have hP : va_P (dC, dI) classes (WX h g ca (u2 (u2 (u2 iv 8 3 n7) 8 4 n8) 8 5 n9) lv fa la) H := hP
    have hD : va_D A (WX h g ca (u2 (u2 (u2 iv 8 3 n7) 8 4 n8) 8 5 n9) lv fa la) := (show va_D _ (WX h g ca (u2 (u2 (u2 iv 8 3 n7) 8 4 n8) 8 5 n9) lv fa la) from hD).weaken (fun _ _ _ h => hFc _ h)
    refine lv_if_ne (tgt := 21) hx hb dX8_readTake_16 (by decide) (fun c10 => ?_) (fun c10 => ?_)
    · have fc10 := z_ne (rfl : (r6).toInt = _) (by decide : (0 : Int32).toInt = 0) c10
      refine lv_aload_n hx hb dX8_readTake_21 rfl (lv_at hl 1 rfl) ?_
      refine gX_8_0 hx hb ht hown hK hP m_228 dX8_readTake_22 ?_
      refine lv_iconst (v := 5) hx hb dX8_readTake_25 (by decide) ?_
      refine lv_iload_n hx hb dX8_readTake_26 rfl (lv_at hl 0 rfl) ?_
      refine lv_iconst (v := 0) hx hb dX8_readTake_27 (by decide) ?_
      have hFc := free_all hD hS hA
      refine va_callv (va_runV (As := [.int 5, .int r1, .int 0]) (rest := []) ⟨hx, hb, hml, hown, ht⟩ (c_X1_draft l dC dI H.size h g ca (u2 (u2 (u2 iv 8 3 n7) 8 4 n8) 8 5 n9) lv fa la (IX_i (c := 8) (k := 5) (IX_i (c := 8) (k := 4) (IX_i (c := 8) (k := 3) hI (show inb ((-1), 200) n7 from ⟨by omega, by omega⟩)) (show inb (0, 5) n8 from ⟨by omega, by omega⟩)) (show inb (0, 200) n9 from ⟨by omega, by omega⟩)) 5 r1 0) (kV 3 ht m_779 m_780 m_781 m_81 m_782 rfl rfl hd_X1_draft_v ⟨Nat.le_of_ble_eq_true rfl, Nat.le_of_ble_eq_true rfl⟩) (vW hP hK hD (rX_1 hK hP)) rfl rfl hl.1 rfl (lv_room (Nat.le_of_ble_eq_true rfl)) dX8_readTake_28 ⟨Nat.le_of_ble_eq_true rfl, Nat.le_of_ble_eq_true rfl⟩) hS (fun q _ h => hFc q h) hFc (fun u t H1 locs ht9 hvm hr11 hB hz1 hk1 hS => ?_)
      obtain ⟨n12, n13, n14, n15, hn15, rfl⟩ := hr11
      have hn12 : ∀ j, inb (bA 1 2 j) (n12 j) := fun j => full_i _
      have hn13 : ∀ j, inb (bA 1 3 j) (n13 j) := fun j => full_i _
      have hn14 : ∀ j, inb (bA 1 4 j) (n14 j) := fun j => full_i _
      have hn15 : 0 ≤ n15.toInt ∧ n15.toInt ≤ 12 := hn15
      obtain ⟨hP, hD⟩ := hB
      rw [ht9] at hP
      generalize H1 = H at hP hS ⊢
      have hP : va_P (dC, dI) classes (WX h g ca (u2 (u2 (u2 (u2 iv 8 3 n7) 8 4 n8) 8 5 n9) 1 8 n15) lv (u2 (u2 (u2 fa 1 2 n12) 1 3 n13) 1 4 n14) la) H := hP
      have hD : va_D A (WX h g ca (u2 (u2 (u2 (u2 iv 8 3 n7) 8 4 n8) 8 5 n9) 1 8 n15) lv (u2 (u2 (u2 fa 1 2 n12) 1 3 n13) 1 4 n14) la) := (show va_D _ (WX h g ca (u2 (u2 (u2 (u2 iv 8 3 n7) 8 4 n8) 8 5 n9) 1 8 n15) lv (u2 (u2 (u2 fa 1 2 n12) 1 3 n13) 1 4 n14) la) from hD).weaken (fun _ _ _ h => hFc _ h)
      refine lv_iconst (v := 1) hx hb dX8_readTake_31 (by decide) ?_
      have hP9 : va_P (dC, dI) classes (WX h g ca (u2 (u2 (u2 (u2 iv 1 8 n15) 8 3 n7) 8 4 n8) 8 5 n9) lv (u2 (u2 (u2 fa 1 2 n12) 1 3 n13) 1 4 n14) la) H := hP
      have hD9 : va_D A (WX h g ca (u2 (u2 (u2 (u2 iv 1 8 n15) 8 3 n7) 8 4 n8) 8 5 n9) lv (u2 (u2 (u2 fa 1 2 n12) 1 3 n13) 1 4 n14) la) := hD
      exact W.zret (v := 1) hx hb hr rfl (fun t ht9 hW => ⟨⟨1, ((u2 (u2 (u2 (u2 iv 1 8 n15) 8 3 n7) 8 4 n8) 8 5 n9), lv, (u2 (u2 (u2 fa 1 2 n12) 1 3 n13) 1 4 n14), la), rfl, ⟨n12, n13, n14, n15, n7, n8, n9, (show inb (0, 12) n15 from ⟨by omega, by omega⟩), (show inb ((-1), 200) n7 from ⟨by omega, by omega⟩), (show inb (0, 5) n8 from ⟨by omega, by omega⟩), (show inb (0, 200) n9 from ⟨by omega, by omega⟩), ⟨by decide, by decide⟩, rfl⟩, by rw [ht9]; exact hP9, hD9⟩, hS.F ht9⟩) hS.2.2 dX8_readTake_32
    · have fc10 := z_eq (rfl : (r6).toInt = _) (by decide : (0 : Int32).toInt = 0) c10
      refine lv_iconst (v := 0) hx hb dX8_readTake_19 (by decide) ?_
      have hP9 : va_P (dC, dI) classes (WX h g ca (u2 (u2 (u2 (u2 iv 1 8 (iv 1 8)) 8 3 n7) 8 4 n8) 8 5 n9) lv (u2 (u2 (u2 fa 1 2 (fa 1 2)) 1 3 (fa 1 3)) 1 4 (fa 1 4)) la) H := hP
      have hD9 : va_D A (WX h g ca (u2 (u2 (u2 (u2 iv 1 8 (iv 1 8)) 8 3 n7) 8 4 n8) 8 5 n9) lv (u2 (u2 (u2 fa 1 2 (fa 1 2)) 1 3 (fa 1 3)) 1 4 (fa 1 4)) la) := hD
      exact W.zret (v := 0) hx hb hr rfl (fun t ht9 hW => ⟨⟨0, ((u2 (u2 (u2 (u2 iv 1 8 (iv 1 8)) 8 3 n7) 8 4 n8) 8 5 n9), lv, (u2 (u2 (u2 fa 1 2 (fa 1 2)) 1 3 (fa 1 3)) 1 4 (fa 1 4)), la), rfl, ⟨(fa 1 2), (fa 1 3), (fa 1 4), (iv 1 8), n7, n8, n9, (hI.1 1 8), (show inb ((-1), 200) n7 from ⟨by omega, by omega⟩), (show inb (0, 5) n8 from ⟨by omega, by omega⟩), (show inb (0, 200) n9 from ⟨by omega, by omega⟩), ⟨by decide, by decide⟩, rfl⟩, by rw [ht9]; exact hP9, hD9⟩, hS.F ht9⟩) hS.2.2 dX8_readTake_20
set_option maxHeartbeats 4000000 in
set_option maxRecDepth 100000 in
/-- X8_readName -/
theorem c_X8_readName (l : Launch) (dC : Nat → ClassId) (dI : Nat → Nat → Nat) (sz : Nat) (ak av : Nat → Nat) (h : Nat) (g : Nat → Nat → Nat) (ca : Nat → Nat → ClassId) (iv : Nat → Nat → Int32) (lv : Nat → Nat → Int64) (fa : Nat → Nat → Nat → Int32) (la : Nat → Nat → Nat → Int64) (hI : IX iv fa) : Met l yX8_readName (wc yX8_readName cX8_readName 3 (some .boolean)) ({ frames := 6, cells := 0, slots := 0, locals := 135 } : Room) (pWZ ak av (dC, dI) classes (WX h g ca iv lv fa la) (TX ca) sz [.ref (g 11 4)]) (va_Qi (fun r (u : SS) => ∃ (na_1_2 : Nat → Int32) (na_1_3 : Nat → Int32) (na_1_4 : Nat → Int32) (na_1_5 : Nat → Int32) (ni_1_8 : Int32) (ni_8_3 : Int32) (ni_8_4 : Int32) (ni_8_5 : Int32), inb (bI 1 8) ni_1_8 ∧ inb (bI 8 3) ni_8_3 ∧ inb (bI 8 4) ni_8_4 ∧ inb (bI 8 5) ni_8_5 ∧ (0 ≤ r.toInt ∧ r.toInt ≤ 1) ∧ u = ((u2 (u2 (u2 (u2 iv 1 8 ni_1_8) 8 3 ni_8_3) 8 4 ni_8_4) 8 5 ni_8_5), lv, (u2 (u2 (u2 (u2 fa 1 2 na_1_2) 1 3 na_1_3) 1 4 na_1_4) 1 5 na_1_5), la)) (bX (dC, dI) h g ca (va_A (WX h g ca iv lv fa la) sz)) (va_A (WX h g ca iv lv fa la) sz)) 0 0 (va_A (WX h g ca iv lv fa la) sz) := by
  refine Met.ofW (cc := cX8_readName) (maxL := 3) (ret := (some .boolean)) (by decide) rfl ?_
  intro p e s m args below meth c s₁ B hml hv
  obtain ⟨rfl, hsz, hP, hK, hD0, hZ⟩ := hv
  have hx := B.exec
  have hb := B.bytes
  have hr := B.returns
  have ht := tb_tl (atoms_spec (ws := wc yX8_readName cX8_readName 3 (some .boolean)) B.pre)
  have hown : s.vm.findClass RX8 = some m.cls := findClass_of_methodNamed B.named
  have hlocks := B.notSynchronized
  subst hsz
  have hD := hD0.self (sz := s.heap.size)
  generalize hAe : va_A (WX h g ca iv lv fa la) s.heap.size = A at hD hZ ⊢
  have hA : ∀ q : Nat, s.heap.size ≤ q → A q := fun q h => by rw [← hAe]; exact Or.inr h
  have hS : va_S A s.heap s.heap [] := va_S.rf
  have hl := lv_entry [.ref (g 11 4)] (n := 3) (Nat.le_of_ble_eq_true rfl)
  rw [lg_entry_eq]
  generalize (lg_sl [.ref (g 11 4)] ++ List.replicate (3 - (lg_sl [.ref (g 11 4)]).length) Slot.unset).toArray = ls at hl ⊢
  have hl : lv_has ls 3 [(0, .ref (g 11 4))] := hl
  refine lv_aload_n hx hb dX8_readName_0 rfl (lv_at hl 0 rfl) ?_
  have hFc := free_all hD hS hA
  refine va_calli (va_runV (As := []) (rest := []) ⟨hx, hb, hml, hown, ht⟩ (c_X8_readWord l dC dI s.heap.size h g ca iv lv fa la hI) (kV 0 ht m_792 m_794 m_27 m_82 m_795 rfl rfl hd_X8_readWord_v ⟨Nat.le_of_ble_eq_true rfl, Nat.le_of_ble_eq_true rfl⟩) (vW hP hK hD (rX_8 hK hP)) rfl rfl hl.1 rfl (lv_room (Nat.le_of_ble_eq_true rfl)) dX8_readName_1 ⟨Nat.le_of_ble_eq_true rfl, Nat.le_of_ble_eq_true rfl⟩) hS (fun q _ h => hFc q h) hFc (fun r1 u t H1 locs ht9 hvm hr1 hB hz1 hk1 hS => ?_)
  obtain ⟨n2, n3, n4, n5, hn3, hn4, hn5, hr1, rfl⟩ := hr1
  have hn2 : ∀ j, inb (bA 1 5 j) (n2 j) := fun j => full_i _
  have hn3 : (-1) ≤ n3.toInt ∧ n3.toInt ≤ 200 := hn3
  have hn4 : 0 ≤ n4.toInt ∧ n4.toInt ≤ 5 := hn4
  have hn5 : 0 ≤ n5.toInt ∧ n5.toInt ≤ 200 := hn5
  obtain ⟨hP, hD⟩ := hB
  rw [ht9] at hP
  generalize H1 = H at hP hS ⊢
  have hP : va_P (dC, dI) classes (WX h g ca (u2 (u2 (u2 iv 8 3 n3) 8 4 n4) 8 5 n5) lv (u2 fa 1 5 n2) la) H := hP
  have hD : va_D A (WX h g ca (u2 (u2 (u2 iv 8 3 n3) 8 4 n4) 8 5 n5) lv (u2 fa 1 5 n2) la) := (show va_D _ (WX h g ca (u2 (u2 (u2 iv 8 3 n3) 8 4 n4) 8 5 n5) lv (u2 fa 1 5 n2) la) from hD).weaken (fun _ _ _ h => hFc _ h)
  refine lv_if_ne (tgt := 9) hx hb dX8_readName_4 (by decide) (fun c6 => ?_) (fun c6 => ?_)
  · have fc6 := z_ne (rfl : (r1).toInt = _) (by decide : (0 : Int32).toInt = 0) c6
    refine lv_aload_n hx hb dX8_readName_9 rfl (lv_at hl 0 rfl) ?_
    refine lv_iconst (v := 0) hx hb dX8_readName_10 (by decide) ?_
    refine lv_sipush (v := 9999) hx hb dX8_readName_11 (by decide) ?_
    have hFc := free_all hD hS hA
    refine va_calli (va_runV (As := [.int 0, .int 9999]) (rest := []) ⟨hx, hb, hml, hown, ht⟩ (c_X8_readNumber l dC dI H.size ak av h g ca (u2 (u2 (u2 iv 8 3 n3) 8 4 n4) 8 5 n5) lv (u2 fa 1 5 n2) la (IX_a (c := 1) (k := 5) (IX_i (c := 8) (k := 5) (IX_i (c := 8) (k := 4) (IX_i (c := 8) (k := 3) hI (show inb ((-1), 200) n3 from ⟨by omega, by omega⟩)) (show inb (0, 5) n4 from ⟨by omega, by omega⟩)) (show inb (0, 200) n5 from ⟨by omega, by omega⟩)) hn2) 0 9999) (kV 2 ht m_770 m_772 m_23 m_82 m_773 rfl rfl hd_X8_readNumber_v ⟨Nat.le_of_ble_eq_true rfl, Nat.le_of_ble_eq_true rfl⟩) (vWZ hP hK hD ((hZ.kept hS.2.1).narrow (free_all hD hS hA)) (rX_8 hK hP)) rfl rfl hl.1 rfl (lv_room (Nat.le_of_ble_eq_true rfl)) dX8_readName_14 ⟨Nat.le_of_ble_eq_true rfl, Nat.le_of_ble_eq_true rfl⟩) hS (fun q _ h => hFc q h) hFc (fun r7 u t H1 locs ht9 hvm hr7 hB hz1 hk1 hS => ?_)
    obtain ⟨n8, n9, n10, hn8, hn9, hn10, hr7, rfl⟩ := hr7
    have hn8 : (-1) ≤ n8.toInt ∧ n8.toInt ≤ 200 := hn8
    have hn9 : 0 ≤ n9.toInt ∧ n9.toInt ≤ 5 := hn9
    have hn10 : 0 ≤ n10.toInt ∧ n10.toInt ≤ 200 := hn10
    obtain ⟨hP, hD⟩ := hB
    rw [ht9] at hP
    generalize H1 = H at hP hS ⊢
    have hP : va_P (dC, dI) classes (WX h g ca (u2 (u2 (u2 iv 8 3 n8) 8 4 n9) 8 5 n10) lv (u2 fa 1 5 n2) la) H := hP
    have hD : va_D A (WX h g ca (u2 (u2 (u2 iv 8 3 n8) 8 4 n9) 8 5 n10) lv (u2 fa 1 5 n2) la) := (show va_D _ (WX h g ca (u2 (u2 (u2 iv 8 3 n8) 8 4 n9) 8 5 n10) lv (u2 fa 1 5 n2) la) from hD).weaken (fun _ _ _ h => hFc _ h)
    refine lv_istore_n (lv' := [(1, .int r7), (0, .ref (g 11 4))]) hx hb dX8_readName_17 rfl hl (by decide) rfl (fun ls hl => ?_)
    refine lv_iload_n hx hb dX8_readName_18 rfl (lv_at hl 0 rfl) ?_
    refine lv_iconst (v := (-1)) hx hb dX8_readName_19 (by decide) ?_
    refine lv_icmp_eq (tgt := 33) hx hb dX8_readName_20 (by decide) (fun c11 => ?_) (fun c11 => ?_)
    · have fc11 := z_eq (rfl : (r7).toInt = _) (by decide : ((-1) : Int32).toInt = (-1)) c11
      refine lv_iconst (v := 0) hx hb dX8_readName_33 (by decide) ?_
      have hP9 : va_P (dC, dI) classes (WX h g ca (u2 (u2 (u2 (u2 iv 1 8 (iv 1 8)) 8 3 n8) 8 4 n9) 8 5 n10) lv (u2 (u2 (u2 (u2 fa 1 2 (fa 1 2)) 1 3 (fa 1 3)) 1 4 (fa 1 4)) 1 5 n2) la) H := hP
      have hD9 : va_D A (WX h g ca (u2 (u2 (u2 (u2 iv 1 8 (iv 1 8)) 8 3 n8) 8 4 n9) 8 5 n10) lv (u2 (u2 (u2 (u2 fa 1 2 (fa 1 2)) 1 3 (fa 1 3)) 1 4 (fa 1 4)) 1 5 n2) la) := hD
      exact W.zret (v := 0) hx hb hr rfl (fun t ht9 hW => ⟨⟨0, ((u2 (u2 (u2 (u2 iv 1 8 (iv 1 8)) 8 3 n8) 8 4 n9) 8 5 n10), lv, (u2 (u2 (u2 (u2 fa 1 2 (fa 1 2)) 1 3 (fa 1 3)) 1 4 (fa 1 4)) 1 5 n2), la), rfl, ⟨(fa 1 2), (fa 1 3), (fa 1 4), n2, (iv 1 8), n8, n9, n10, (hI.1 1 8), (show inb ((-1), 200) n8 from ⟨by omega, by omega⟩), (show inb (0, 5) n9 from ⟨by omega, by omega⟩), (show inb (0, 200) n10 from ⟨by omega, by omega⟩), ⟨by decide, by decide⟩, rfl⟩, by rw [ht9]; exact hP9, hD9⟩, hS.F ht9⟩) hS.2.2 dX8_readName_34
    · have fc11 := z_ne (rfl : (r7).toInt = _) (by decide : ((-1) : Int32).toInt = (-1)) c11
      refine lv_aload_n hx hb dX8_readName_23 rfl (lv_at hl 1 rfl) ?_
      refine va_ldcS hx hb hown hZ.2.2.2.2.1 dX8_readName_24 ?_
      have hFc := free_all hD hS hA
      refine va_calli (va_runV (As := [.ref (ak 3)]) (rest := []) ⟨hx, hb, hml, hown, ht⟩ (c_X8_readOneOf_3 l dC dI H.size ak av h g ca (u2 (u2 (u2 iv 8 3 n8) 8 4 n9) 8 5 n10) lv (u2 fa 1 5 n2) la (IX_a (c := 1) (k := 5) (IX_i (c := 8) (k := 5) (IX_i (c := 8) (k := 4) (IX_i (c := 8) (k := 3) hI (show inb ((-1), 200) n8 from ⟨by omega, by omega⟩)) (show inb (0, 5) n9 from ⟨by omega, by omega⟩)) (show inb (0, 200) n10 from ⟨by omega, by omega⟩)) hn2)) (kV 1 ht m_697 m_699 m_18 m_82 m_700 rfl rfl hd_X8_readOneOf_v ⟨Nat.le_of_ble_eq_true rfl, Nat.le_of_ble_eq_true rfl⟩) (vWZ hP hK hD ((hZ.kept hS.2.1).narrow (free_all hD hS hA)) (rX_8 hK hP)) rfl rfl hl.1 rfl (lv_room (Nat.le_of_ble_eq_true rfl)) dX8_readName_26 ⟨Nat.le_of_ble_eq_true rfl, Nat.le_of_ble_eq_true rfl⟩) hS (fun q _ h => hFc q h) hFc (fun r12 u t H1 locs ht9 hvm hr12 hB hz1 hk1 hS => ?_)
      obtain ⟨n13, n14, n15, hn13, hn14, hn15, hr12, rfl⟩ := hr12
      have hn13 : (-1) ≤ n13.toInt ∧ n13.toInt ≤ 200 := hn13
      have hn14 : 0 ≤ n14.toInt ∧ n14.toInt ≤ 5 := hn14
      have hn15 : 0 ≤ n15.toInt ∧ n15.toInt ≤ 200 := hn15
      obtain ⟨hP, hD⟩ := hB
      rw [ht9] at hP
      generalize H1 = H at hP hS ⊢
      have hP : va_P (dC, dI) classes (WX h g ca (u2 (u2 (u2 iv 8 3 n13) 8 4 n14) 8 5 n15) lv (u2 fa 1 5 n2) la) H := hP
      have hD : va_D A (WX h g ca (u2 (u2 (u2 iv 8 3 n13) 8 4 n14) 8 5 n15) lv (u2 fa 1 5 n2) la) := (show va_D _ (WX h g ca (u2 (u2 (u2 iv 8 3 n13) 8 4 n14) 8 5 n15) lv (u2 fa 1 5 n2) la) from hD).weaken (fun _ _ _ h => hFc _ h)
      refine lv_iconst (v := (-1)) hx hb dX8_readName_29 (by decide) ?_
      refine lv_icmp_ne (tgt := 35) hx hb dX8_readName_30 (by decide) (fun c16 => ?_) (fun c16 => ?_)
      · have fc16 := z_ne (rfl : (r12).toInt = _) (by decide : ((-1) : Int32).toInt = (-1)) c16
        refine lv_aload_n hx hb dX8_readName_35 rfl (lv_at hl 1 rfl) ?_
        refine lv_iload_n hx hb dX8_readName_36 rfl (lv_at hl 0 rfl) ?_
        refine lv_iconst (v := 1) hx hb dX8_readName_37 (by decide) ?_
        refine lv_iadd hx hb dX8_readName_38 ?_
        refine lv_topi (fun v17 ev17 => ?_)
        refine lv_sipush (v := 9999) hx hb dX8_readName_39 (by decide) ?_
        have hFc := free_all hD hS hA
        refine va_calli (va_runV (As := [.int v17, .int 9999]) (rest := []) ⟨hx, hb, hml, hown, ht⟩ (c_X8_readNumber l dC dI H.size ak av h g ca (u2 (u2 (u2 iv 8 3 n13) 8 4 n14) 8 5 n15) lv (u2 fa 1 5 n2) la (IX_a (c := 1) (k := 5) (IX_i (c := 8) (k := 5) (IX_i (c := 8) (k := 4) (IX_i (c := 8) (k := 3) hI (show inb ((-1), 200) n13 from ⟨by omega, by omega⟩)) (show inb (0, 5) n14 from ⟨by omega, by omega⟩)) (show inb (0, 200) n15 from ⟨by omega, by omega⟩)) hn2) v17 9999) (kV 2 ht m_770 m_772 m_23 m_82 m_773 rfl rfl hd_X8_readNumber_v ⟨Nat.le_of_ble_eq_true rfl, Nat.le_of_ble_eq_true rfl⟩) (vWZ hP hK hD ((hZ.kept hS.2.1).narrow (free_all hD hS hA)) (rX_8 hK hP)) rfl rfl hl.1 rfl (lv_room (Nat.le_of_ble_eq_true rfl)) dX8_readName_42 ⟨Nat.le_of_ble_eq_true rfl, Nat.le_of_ble_eq_true rfl⟩) hS (fun q _ h => hFc q h) hFc (fun r18 u t H1 locs ht9 hvm hr18 hB hz1 hk1 hS => ?_)
        obtain ⟨n19, n20, n21, hn19, hn20, hn21, hr18, rfl⟩ := hr18
        have hn19 : (-1) ≤ n19.toInt ∧ n19.toInt ≤ 200 := hn19
        have hn20 : 0 ≤ n20.toInt ∧ n20.toInt ≤ 5 := hn20
        have hn21 : 0 ≤ n21.toInt ∧ n21.toInt ≤ 200 := hn21
        obtain ⟨hP, hD⟩ := hB
        rw [ht9] at hP
        generalize H1 = H at hP hS ⊢
        have hP : va_P (dC, dI) classes (WX h g ca (u2 (u2 (u2 iv 8 3 n19) 8 4 n20) 8 5 n21) lv (u2 fa 1 5 n2) la) H := hP
        have hD : va_D A (WX h g ca (u2 (u2 (u2 iv 8 3 n19) 8 4 n20) 8 5 n21) lv (u2 fa 1 5 n2) la) := (show va_D _ (WX h g ca (u2 (u2 (u2 iv 8 3 n19) 8 4 n20) 8 5 n21) lv (u2 fa 1 5 n2) la) from hD).weaken (fun _ _ _ h => hFc _ h)
        refine lv_istore_n (lv' := [(2, .int r18), (1, .int r7), (0, .ref (g 11 4))]) hx hb dX8_readName_45 rfl hl (by decide) rfl (fun ls hl => ?_)
        refine lv_iload_n hx hb dX8_readName_46 rfl (lv_at hl 0 rfl) ?_
        refine lv_iconst (v := (-1)) hx hb dX8_readName_47 (by decide) ?_
        refine lv_icmp_eq (tgt := 58) hx hb dX8_readName_48 (by decide) (fun c22 => ?_) (fun c22 => ?_)
        · have fc22 := z_eq (rfl : (r18).toInt = _) (by decide : ((-1) : Int32).toInt = (-1)) c22
          refine lv_iconst (v := 0) hx hb dX8_readName_58 (by decide) ?_
          have hP9 : va_P (dC, dI) classes (WX h g ca (u2 (u2 (u2 (u2 iv 1 8 (iv 1 8)) 8 3 n19) 8 4 n20) 8 5 n21) lv (u2 (u2 (u2 (u2 fa 1 2 (fa 1 2)) 1 3 (fa 1 3)) 1 4 (fa 1 4)) 1 5 n2) la) H := hP
          have hD9 : va_D A (WX h g ca (u2 (u2 (u2 (u2 iv 1 8 (iv 1 8)) 8 3 n19) 8 4 n20) 8 5 n21) lv (u2 (u2 (u2 (u2 fa 1 2 (fa 1 2)) 1 3 (fa 1 3)) 1 4 (fa 1 4)) 1 5 n2) la) := hD
          exact W.zret (v := 0) hx hb hr rfl (fun t ht9 hW => ⟨⟨0, ((u2 (u2 (u2 (u2 iv 1 8 (iv 1 8)) 8 3 n19) 8 4 n20) 8 5 n21), lv, (u2 (u2 (u2 (u2 fa 1 2 (fa 1 2)) 1 3 (fa 1 3)) 1 4 (fa 1 4)) 1 5 n2), la), rfl, ⟨(fa 1 2), (fa 1 3), (fa 1 4), n2, (iv 1 8), n19, n20, n21, (hI.1 1 8), (show inb ((-1), 200) n19 from ⟨by omega, by omega⟩), (show inb (0, 5) n20 from ⟨by omega, by omega⟩), (show inb (0, 200) n21 from ⟨by omega, by omega⟩), ⟨by decide, by decide⟩, rfl⟩, by rw [ht9]; exact hP9, hD9⟩, hS.F ht9⟩) hS.2.2 dX8_readName_59
        · have fc22 := z_ne (rfl : (r18).toInt = _) (by decide : ((-1) : Int32).toInt = (-1)) c22
          refine lv_aload_n hx hb dX8_readName_51 rfl (lv_at hl 2 rfl) ?_
          have hFc := free_all hD hS hA
          refine va_calli (va_runV (As := []) (rest := []) ⟨hx, hb, hml, hown, ht⟩ (c_X8_readStop l dC dI H.size h g ca (u2 (u2 (u2 iv 8 3 n19) 8 4 n20) 8 5 n21) lv (u2 fa 1 5 n2) la (IX_a (c := 1) (k := 5) (IX_i (c := 8) (k := 5) (IX_i (c := 8) (k := 4) (IX_i (c := 8) (k := 3) hI (show inb ((-1), 200) n19 from ⟨by omega, by omega⟩)) (show inb (0, 5) n20 from ⟨by omega, by omega⟩)) (show inb (0, 200) n21 from ⟨by omega, by omega⟩)) hn2)) (kV 0 ht m_775 m_777 m_24 m_82 m_778 rfl rfl hd_X8_readStop_v ⟨Nat.le_of_ble_eq_true rfl, Nat.le_of_ble_eq_true rfl⟩) (vW hP hK hD (rX_8 hK hP)) rfl rfl hl.1 rfl (lv_room (Nat.le_of_ble_eq_true rfl)) dX8_readName_52 ⟨Nat.le_of_ble_eq_true rfl, Nat.le_of_ble_eq_true rfl⟩) hS (fun q _ h => hFc q h) hFc (fun r23 u t H1 locs ht9 hvm hr23 hB hz1 hk1 hS => ?_)
          obtain ⟨n24, n25, n26, hn24, hn25, hn26, hr23, rfl⟩ := hr23
          have hn24 : (-1) ≤ n24.toInt ∧ n24.toInt ≤ 200 := hn24
          have hn25 : 0 ≤ n25.toInt ∧ n25.toInt ≤ 5 := hn25
          have hn26 : 0 ≤ n26.toInt ∧ n26.toInt ≤ 200 := hn26
          obtain ⟨hP, hD⟩ := hB
          rw [ht9] at hP
          generalize H1 = H at hP hS ⊢
          have hP : va_P (dC, dI) classes (WX h g ca (u2 (u2 (u2 iv 8 3 n24) 8 4 n25) 8 5 n26) lv (u2 fa 1 5 n2) la) H := hP
          have hD : va_D A (WX h g ca (u2 (u2 (u2 iv 8 3 n24) 8 4 n25) 8 5 n26) lv (u2 fa 1 5 n2) la) := (show va_D _ (WX h g ca (u2 (u2 (u2 iv 8 3 n24) 8 4 n25) 8 5 n26) lv (u2 fa 1 5 n2) la) from hD).weaken (fun _ _ _ h => hFc _ h)
          refine lv_if_ne (tgt := 60) hx hb dX8_readName_55 (by decide) (fun c27 => ?_) (fun c27 => ?_)
          · have fc27 := z_ne (rfl : (r23).toInt = _) (by decide : (0 : Int32).toInt = 0) c27
            refine lv_aload_n hx hb dX8_readName_60 rfl (lv_at hl 2 rfl) ?_
            refine gX_8_0 hx hb ht hown hK hP m_228 dX8_readName_61 ?_
            refine lv_bipush (v := 6) hx hb dX8_readName_64 (by decide) ?_
            refine lv_iload_n hx hb dX8_readName_66 rfl (lv_at hl 1 rfl) ?_
            refine lv_iload_n hx hb dX8_readName_67 rfl (lv_at hl 0 rfl) ?_
            have hFc := free_all hD hS hA
            refine va_callv (va_runV (As := [.int 6, .int r7, .int r18]) (rest := []) ⟨hx, hb, hml, hown, ht⟩ (c_X1_draft l dC dI H.size h g ca (u2 (u2 (u2 iv 8 3 n24) 8 4 n25) 8 5 n26) lv (u2 fa 1 5 n2) la (IX_a (c := 1) (k := 5) (IX_i (c := 8) (k := 5) (IX_i (c := 8) (k := 4) (IX_i (c := 8) (k := 3) hI (show inb ((-1), 200) n24 from ⟨by omega, by omega⟩)) (show inb (0, 5) n25 from ⟨by omega, by omega⟩)) (show inb (0, 200) n26 from ⟨by omega, by omega⟩)) hn2) 6 r7 r18) (kV 3 ht m_779 m_780 m_781 m_81 m_782 rfl rfl hd_X1_draft_v ⟨Nat.le_of_ble_eq_true rfl, Nat.le_of_ble_eq_true rfl⟩) (vW hP hK hD (rX_1 hK hP)) rfl rfl hl.1 rfl (lv_room (Nat.le_of_ble_eq_true rfl)) dX8_readName_68 ⟨Nat.le_of_ble_eq_true rfl, Nat.le_of_ble_eq_true rfl⟩) hS (fun q _ h => hFc q h) hFc (fun u t H1 locs ht9 hvm hr28 hB hz1 hk1 hS => ?_)
            obtain ⟨n29, n30, n31, n32, hn32, rfl⟩ := hr28
            have hn29 : ∀ j, inb (bA 1 2 j) (n29 j) := fun j => full_i _
            have hn30 : ∀ j, inb (bA 1 3 j) (n30 j) := fun j => full_i _
            have hn31 : ∀ j, inb (bA 1 4 j) (n31 j) := fun j => full_i _
            have hn32 : 0 ≤ n32.toInt ∧ n32.toInt ≤ 12 := hn32
            obtain ⟨hP, hD⟩ := hB
            rw [ht9] at hP
            generalize H1 = H at hP hS ⊢
            have hP : va_P (dC, dI) classes (WX h g ca (u2 (u2 (u2 (u2 iv 8 3 n24) 8 4 n25) 8 5 n26) 1 8 n32) lv (u2 (u2 (u2 (u2 fa 1 5 n2) 1 2 n29) 1 3 n30) 1 4 n31) la) H := hP
            have hD : va_D A (WX h g ca (u2 (u2 (u2 (u2 iv 8 3 n24) 8 4 n25) 8 5 n26) 1 8 n32) lv (u2 (u2 (u2 (u2 fa 1 5 n2) 1 2 n29) 1 3 n30) 1 4 n31) la) := (show va_D _ (WX h g ca (u2 (u2 (u2 (u2 iv 8 3 n24) 8 4 n25) 8 5 n26) 1 8 n32) lv (u2 (u2 (u2 (u2 fa 1 5 n2) 1 2 n29) 1 3 n30) 1 4 n31) la) from hD).weaken (fun _ _ _ h => hFc _ h)
            refine lv_iconst (v := 1) hx hb dX8_readName_71 (by decide) ?_
            have hP9 : va_P (dC, dI) classes (WX h g ca (u2 (u2 (u2 (u2 iv 1 8 n32) 8 3 n24) 8 4 n25) 8 5 n26) lv (u2 (u2 (u2 (u2 fa 1 2 n29) 1 3 n30) 1 4 n31) 1 5 n2) la) H := hP
            have hD9 : va_D A (WX h g ca (u2 (u2 (u2 (u2 iv 1 8 n32) 8 3 n24) 8 4 n25) 8 5 n26) lv (u2 (u2 (u2 (u2 fa 1 2 n29) 1 3 n30) 1 4 n31) 1 5 n2) la) := hD
            exact W.zret (v := 1) hx hb hr rfl (fun t ht9 hW => ⟨⟨1, ((u2 (u2 (u2 (u2 iv 1 8 n32) 8 3 n24) 8 4 n25) 8 5 n26), lv, (u2 (u2 (u2 (u2 fa 1 2 n29) 1 3 n30) 1 4 n31) 1 5 n2), la), rfl, ⟨n29, n30, n31, n2, n32, n24, n25, n26, (show inb (0, 12) n32 from ⟨by omega, by omega⟩), (show inb ((-1), 200) n24 from ⟨by omega, by omega⟩), (show inb (0, 5) n25 from ⟨by omega, by omega⟩), (show inb (0, 200) n26 from ⟨by omega, by omega⟩), ⟨by decide, by decide⟩, rfl⟩, by rw [ht9]; exact hP9, hD9⟩, hS.F ht9⟩) hS.2.2 dX8_readName_72
          · have fc27 := z_eq (rfl : (r23).toInt = _) (by decide : (0 : Int32).toInt = 0) c27
            refine lv_iconst (v := 0) hx hb dX8_readName_58 (by decide) ?_
            have hP9 : va_P (dC, dI) classes (WX h g ca (u2 (u2 (u2 (u2 iv 1 8 (iv 1 8)) 8 3 n24) 8 4 n25) 8 5 n26) lv (u2 (u2 (u2 (u2 fa 1 2 (fa 1 2)) 1 3 (fa 1 3)) 1 4 (fa 1 4)) 1 5 n2) la) H := hP
            have hD9 : va_D A (WX h g ca (u2 (u2 (u2 (u2 iv 1 8 (iv 1 8)) 8 3 n24) 8 4 n25) 8 5 n26) lv (u2 (u2 (u2 (u2 fa 1 2 (fa 1 2)) 1 3 (fa 1 3)) 1 4 (fa 1 4)) 1 5 n2) la) := hD
            exact W.zret (v := 0) hx hb hr rfl (fun t ht9 hW => ⟨⟨0, ((u2 (u2 (u2 (u2 iv 1 8 (iv 1 8)) 8 3 n24) 8 4 n25) 8 5 n26), lv, (u2 (u2 (u2 (u2 fa 1 2 (fa 1 2)) 1 3 (fa 1 3)) 1 4 (fa 1 4)) 1 5 n2), la), rfl, ⟨(fa 1 2), (fa 1 3), (fa 1 4), n2, (iv 1 8), n24, n25, n26, (hI.1 1 8), (show inb ((-1), 200) n24 from ⟨by omega, by omega⟩), (show inb (0, 5) n25 from ⟨by omega, by omega⟩), (show inb (0, 200) n26 from ⟨by omega, by omega⟩), ⟨by decide, by decide⟩, rfl⟩, by rw [ht9]; exact hP9, hD9⟩, hS.F ht9⟩) hS.2.2 dX8_readName_59
      · have fc16 := z_eq (rfl : (r12).toInt = _) (by decide : ((-1) : Int32).toInt = (-1)) c16
        refine lv_iconst (v := 0) hx hb dX8_readName_33 (by decide) ?_
        have hP9 : va_P (dC, dI) classes (WX h g ca (u2 (u2 (u2 (u2 iv 1 8 (iv 1 8)) 8 3 n13) 8 4 n14) 8 5 n15) lv (u2 (u2 (u2 (u2 fa 1 2 (fa 1 2)) 1 3 (fa 1 3)) 1 4 (fa 1 4)) 1 5 n2) la) H := hP
        have hD9 : va_D A (WX h g ca (u2 (u2 (u2 (u2 iv 1 8 (iv 1 8)) 8 3 n13) 8 4 n14) 8 5 n15) lv (u2 (u2 (u2 (u2 fa 1 2 (fa 1 2)) 1 3 (fa 1 3)) 1 4 (fa 1 4)) 1 5 n2) la) := hD
        exact W.zret (v := 0) hx hb hr rfl (fun t ht9 hW => ⟨⟨0, ((u2 (u2 (u2 (u2 iv 1 8 (iv 1 8)) 8 3 n13) 8 4 n14) 8 5 n15), lv, (u2 (u2 (u2 (u2 fa 1 2 (fa 1 2)) 1 3 (fa 1 3)) 1 4 (fa 1 4)) 1 5 n2), la), rfl, ⟨(fa 1 2), (fa 1 3), (fa 1 4), n2, (iv 1 8), n13, n14, n15, (hI.1 1 8), (show inb ((-1), 200) n13 from ⟨by omega, by omega⟩), (show inb (0, 5) n14 from ⟨by omega, by omega⟩), (show inb (0, 200) n15 from ⟨by omega, by omega⟩), ⟨by decide, by decide⟩, rfl⟩, by rw [ht9]; exact hP9, hD9⟩, hS.F ht9⟩) hS.2.2 dX8_readName_34
  · have fc6 := z_eq (rfl : (r1).toInt = _) (by decide : (0 : Int32).toInt = 0) c6
    refine lv_iconst (v := 0) hx hb dX8_readName_7 (by decide) ?_
    have hP9 : va_P (dC, dI) classes (WX h g ca (u2 (u2 (u2 (u2 iv 1 8 (iv 1 8)) 8 3 n3) 8 4 n4) 8 5 n5) lv (u2 (u2 (u2 (u2 fa 1 2 (fa 1 2)) 1 3 (fa 1 3)) 1 4 (fa 1 4)) 1 5 n2) la) H := hP
    have hD9 : va_D A (WX h g ca (u2 (u2 (u2 (u2 iv 1 8 (iv 1 8)) 8 3 n3) 8 4 n4) 8 5 n5) lv (u2 (u2 (u2 (u2 fa 1 2 (fa 1 2)) 1 3 (fa 1 3)) 1 4 (fa 1 4)) 1 5 n2) la) := hD
    exact W.zret (v := 0) hx hb hr rfl (fun t ht9 hW => ⟨⟨0, ((u2 (u2 (u2 (u2 iv 1 8 (iv 1 8)) 8 3 n3) 8 4 n4) 8 5 n5), lv, (u2 (u2 (u2 (u2 fa 1 2 (fa 1 2)) 1 3 (fa 1 3)) 1 4 (fa 1 4)) 1 5 n2), la), rfl, ⟨(fa 1 2), (fa 1 3), (fa 1 4), n2, (iv 1 8), n3, n4, n5, (hI.1 1 8), (show inb ((-1), 200) n3 from ⟨by omega, by omega⟩), (show inb (0, 5) n4 from ⟨by omega, by omega⟩), (show inb (0, 200) n5 from ⟨by omega, by omega⟩), ⟨by decide, by decide⟩, rfl⟩, by rw [ht9]; exact hP9, hD9⟩, hS.F ht9⟩) hS.2.2 dX8_readName_8
set_option maxHeartbeats 4000000 in
set_option maxRecDepth 100000 in
/-- X8_readStrike -/
theorem c_X8_readStrike (l : Launch) (dC : Nat → ClassId) (dI : Nat → Nat → Nat) (sz : Nat) (ak av : Nat → Nat) (h : Nat) (g : Nat → Nat → Nat) (ca : Nat → Nat → ClassId) (iv : Nat → Nat → Int32) (lv : Nat → Nat → Int64) (fa : Nat → Nat → Nat → Int32) (la : Nat → Nat → Nat → Int64) (hI : IX iv fa) : Met l yX8_readStrike (wc yX8_readStrike cX8_readStrike 3 (some .boolean)) ({ frames := 2, cells := 0, slots := 0, locals := 49 } : Room) (pWZ ak av (dC, dI) classes (WX h g ca iv lv fa la) (TX ca) sz [.ref (g 11 4)]) (va_Qi (fun r (u : SS) => ∃ (na_1_2 : Nat → Int32) (na_1_3 : Nat → Int32) (na_1_4 : Nat → Int32) (ni_1_8 : Int32) (ni_8_3 : Int32) (ni_8_4 : Int32) (ni_8_5 : Int32), inb (bI 1 8) ni_1_8 ∧ inb (bI 8 3) ni_8_3 ∧ inb (bI 8 4) ni_8_4 ∧ inb (bI 8 5) ni_8_5 ∧ (0 ≤ r.toInt ∧ r.toInt ≤ 1) ∧ u = ((u2 (u2 (u2 (u2 iv 1 8 ni_1_8) 8 3 ni_8_3) 8 4 ni_8_4) 8 5 ni_8_5), lv, (u2 (u2 (u2 fa 1 2 na_1_2) 1 3 na_1_3) 1 4 na_1_4), la)) (bX (dC, dI) h g ca (va_A (WX h g ca iv lv fa la) sz)) (va_A (WX h g ca iv lv fa la) sz)) 0 0 (va_A (WX h g ca iv lv fa la) sz) := by
  refine Met.ofW (cc := cX8_readStrike) (maxL := 3) (ret := (some .boolean)) (by decide) rfl ?_
  intro p e s m args below meth c s₁ B hml hv
  obtain ⟨rfl, hsz, hP, hK, hD0, hZ⟩ := hv
  have hx := B.exec
  have hb := B.bytes
  have hr := B.returns
  have ht := tb_tl (atoms_spec (ws := wc yX8_readStrike cX8_readStrike 3 (some .boolean)) B.pre)
  have hown : s.vm.findClass RX8 = some m.cls := findClass_of_methodNamed B.named
  have hlocks := B.notSynchronized
  subst hsz
  have hD := hD0.self (sz := s.heap.size)
  generalize hAe : va_A (WX h g ca iv lv fa la) s.heap.size = A at hD hZ ⊢
  have hA : ∀ q : Nat, s.heap.size ≤ q → A q := fun q h => by rw [← hAe]; exact Or.inr h
  have hS : va_S A s.heap s.heap [] := va_S.rf
  have hl := lv_entry [.ref (g 11 4)] (n := 3) (Nat.le_of_ble_eq_true rfl)
  rw [lg_entry_eq]
  generalize (lg_sl [.ref (g 11 4)] ++ List.replicate (3 - (lg_sl [.ref (g 11 4)]).length) Slot.unset).toArray = ls at hl ⊢
  have hl : lv_has ls 3 [(0, .ref (g 11 4))] := hl
  refine lv_aload_n hx hb dX8_readStrike_0 rfl (lv_at hl 0 rfl) ?_
  have hFc := free_all hD hS hA
  refine va_calli (va_runV (As := []) (rest := []) ⟨hx, hb, hml, hown, ht⟩ (c_X8_skipBlanks_x l dC dI s.heap.size h g ca iv lv fa la hI) (kV 0 ht m_688 m_690 m_16 m_82 m_691 rfl rfl hd_X8_skipBlanks_v ⟨Nat.le_of_ble_eq_true rfl, Nat.le_of_ble_eq_true rfl⟩) (vW hP hK hD (rX_8 hK hP)) rfl rfl hl.1 rfl (lv_room (Nat.le_of_ble_eq_true rfl)) dX8_readStrike_1 ⟨Nat.le_of_ble_eq_true rfl, Nat.le_of_ble_eq_true rfl⟩) hS (fun q _ h => hFc q h) hFc (fun r1 u t H1 locs ht9 hvm hr1 hB hz1 hk1 hS => ?_)
  obtain ⟨n2, hn2, xr1_0, hr1, rfl⟩ := hr1
  have hn2 : 0 ≤ n2.toInt ∧ n2.toInt ≤ 200 := hn2
  obtain ⟨hP, hD⟩ := hB
  rw [ht9] at hP
  generalize H1 = H at hP hS ⊢
  have hP : va_P (dC, dI) classes (WX h g ca (u2 iv 8 5 n2) lv fa la) H := hP
  have hD : va_D A (WX h g ca (u2 iv 8 5 n2) lv fa la) := (show va_D _ (WX h g ca (u2 iv 8 5 n2) lv fa la) from hD).weaken (fun _ _ _ h => hFc _ h)
  have i_8_2 : 0 ≤ (iv 8 2).toInt ∧ (iv 8 2).toInt ≤ 200 := hI.1 8 2
  have xr1_0 : ((r1 : Int32).toInt = 0 ∨ (n2 : Int32).toInt + 1 ≤ ((iv 8 2) : Int32).toInt) := xr1_0
  refine lv_pop hx hb dX8_readStrike_4 rfl ?_
  refine lv_aload_n hx hb dX8_readStrike_5 rfl (lv_at hl 0 rfl) ?_
  refine gX_8_5 hx hb ht hown hK hP m_235 (v := n2) rfl dX8_readStrike_6 ?_
  refine lv_istore_n (lv' := [(1, .int n2), (0, .ref (g 11 4))]) hx hb dX8_readStrike_9 rfl hl (by decide) rfl (fun ls hl => ?_)
  refine lv_aload_n hx hb dX8_readStrike_10 rfl (lv_at hl 1 rfl) ?_
  refine lv_iconst (v := 0) hx hb dX8_readStrike_11 (by decide) ?_
  refine lv_sipush (v := 9999) hx hb dX8_readStrike_12 (by decide) ?_
  have hFc := free_all hD hS hA
  refine va_calli (va_runV (As := [.int 0, .int 9999]) (rest := []) ⟨hx, hb, hml, hown, ht⟩ (c_X8_readNumber l dC dI H.size ak av h g ca (u2 iv 8 5 n2) lv fa la (IX_i (c := 8) (k := 5) hI (show inb (0, 200) n2 from ⟨by omega, by omega⟩)) 0 9999) (kV 2 ht m_770 m_772 m_23 m_82 m_773 rfl rfl hd_X8_readNumber_v ⟨Nat.le_of_ble_eq_true rfl, Nat.le_of_ble_eq_true rfl⟩) (vWZ hP hK hD ((hZ.kept hS.2.1).narrow (free_all hD hS hA)) (rX_8 hK hP)) rfl rfl hl.1 rfl (lv_room (Nat.le_of_ble_eq_true rfl)) dX8_readStrike_15 ⟨Nat.le_of_ble_eq_true rfl, Nat.le_of_ble_eq_true rfl⟩) hS (fun q _ h => hFc q h) hFc (fun r3 u t H1 locs ht9 hvm hr3 hB hz1 hk1 hS => ?_)
  obtain ⟨n4, n5, n6, hn4, hn5, hn6, hr3, rfl⟩ := hr3
  have hn4 : (-1) ≤ n4.toInt ∧ n4.toInt ≤ 200 := hn4
  have hn5 : 0 ≤ n5.toInt ∧ n5.toInt ≤ 5 := hn5
  have hn6 : 0 ≤ n6.toInt ∧ n6.toInt ≤ 200 := hn6
  obtain ⟨hP, hD⟩ := hB
  rw [ht9] at hP
  generalize H1 = H at hP hS ⊢
  have hP : va_P (dC, dI) classes (WX h g ca (u2 (u2 (u2 iv 8 5 n6) 8 3 n4) 8 4 n5) lv fa la) H := hP
  have hD : va_D A (WX h g ca (u2 (u2 (u2 iv 8 5 n6) 8 3 n4) 8 4 n5) lv fa la) := (show va_D _ (WX h g ca (u2 (u2 (u2 iv 8 5 n6) 8 3 n4) 8 4 n5) lv fa la) from hD).weaken (fun _ _ _ h => hFc _ h)
  refine lv_istore_n (lv' := [(2, .int r3), (1, .int n2), (0, .ref (g 11 4))]) hx hb dX8_readStrike_18 rfl hl (by decide) rfl (fun ls hl => ?_)
  refine lv_iload_n hx hb dX8_readStrike_19 rfl (lv_at hl 0 rfl) ?_
  refine lv_iconst (v := (-1)) hx hb dX8_readStrike_20 (by decide) ?_
  refine lv_icmp_ne (tgt := 26) hx hb dX8_readStrike_21 (by decide) (fun c7 => ?_) (fun c7 => ?_)
  · have fc7 := z_ne (rfl : (r3).toInt = _) (by decide : ((-1) : Int32).toInt = (-1)) c7
    refine lv_iload_n hx hb dX8_readStrike_26 rfl (lv_at hl 0 rfl) ?_
    refine lv_aload_n hx hb dX8_readStrike_27 rfl (lv_at hl 2 rfl) ?_
    refine gX_8_0 hx hb ht hown hK hP m_228 dX8_readStrike_28 ?_
    have i_1_7 : 0 ≤ (iv 1 7).toInt ∧ (iv 1 7).toInt ≤ 8 := hI.1 1 7
    refine gX_1_7 hx hb ht hown hK hP m_197 (v := (iv 1 7)) rfl dX8_readStrike_31 ?_
    refine lv_icmp_lt (tgt := 44) hx hb dX8_readStrike_34 (by decide) (fun c8 => ?_) (fun c8 => ?_)
    · have fc8 := z_lt (rfl : (r3).toInt = _) (rfl : ((iv 1 7)).toInt = _) c8
      refine lv_aload_n hx hb dX8_readStrike_44 rfl (lv_at hl 2 rfl) ?_
      have hFc := free_all hD hS hA
      refine va_calli (va_runV (As := []) (rest := []) ⟨hx, hb, hml, hown, ht⟩ (c_X8_readStop l dC dI H.size h g ca (u2 (u2 (u2 iv 8 5 n6) 8 3 n4) 8 4 n5) lv fa la (IX_i (c := 8) (k := 4) (IX_i (c := 8) (k := 3) (IX_i (c := 8) (k := 5) hI (show inb (0, 200) n6 from ⟨by omega, by omega⟩)) (show inb ((-1), 200) n4 from ⟨by omega, by omega⟩)) (show inb (0, 5) n5 from ⟨by omega, by omega⟩))) (kV 0 ht m_775 m_777 m_24 m_82 m_778 rfl rfl hd_X8_readStop_v ⟨Nat.le_of_ble_eq_true rfl, Nat.le_of_ble_eq_true rfl⟩) (vW hP hK hD (rX_8 hK hP)) rfl rfl hl.1 rfl (lv_room (Nat.le_of_ble_eq_true rfl)) dX8_readStrike_45 ⟨Nat.le_of_ble_eq_true rfl, Nat.le_of_ble_eq_true rfl⟩) hS (fun q _ h => hFc q h) hFc (fun r9 u t H1 locs ht9 hvm hr9 hB hz1 hk1 hS => ?_)
      obtain ⟨n10, n11, n12, hn10, hn11, hn12, hr9, rfl⟩ := hr9
      have hn10 : (-1) ≤ n10.toInt ∧ n10.toInt ≤ 200 := hn10
      have hn11 : 0 ≤ n11.toInt ∧ n11.toInt ≤ 5 := hn11
      have hn12 : 0 ≤ n12.toInt ∧ n12.toInt ≤ 200 := hn12
      obtain ⟨hP, hD⟩ := hB
      rw [ht9] at hP
      generalize H1 = H at hP hS ⊢
      have hP : va_P (dC, dI) classes (WX h g ca (u2 (u2 (u2 iv 8 5 n12) 8 3 n10) 8 4 n11) lv fa la) H := hP
      have hD : va_D A (WX h g ca (u2 (u2 (u2 iv 8 5 n12) 8 3 n10) 8 4 n11) lv fa la) := (show va_D _ (WX h g ca (u2 (u2 (u2 iv 8 5 n12) 8 3 n10) 8 4 n11) lv fa la) from hD).weaken (fun _ _ _ h => hFc _ h)
      refine lv_if_ne (tgt := 53) hx hb dX8_readStrike_48 (by decide) (fun c13 => ?_) (fun c13 => ?_)
      · have fc13 := z_ne (rfl : (r9).toInt = _) (by decide : (0 : Int32).toInt = 0) c13
        refine lv_aload_n hx hb dX8_readStrike_53 rfl (lv_at hl 2 rfl) ?_
        refine gX_8_0 hx hb ht hown hK hP m_228 dX8_readStrike_54 ?_
        refine lv_bipush (v := 7) hx hb dX8_readStrike_57 (by decide) ?_
        refine lv_iload_n hx hb dX8_readStrike_59 rfl (lv_at hl 0 rfl) ?_
        refine lv_iconst (v := 0) hx hb dX8_readStrike_60 (by decide) ?_
        have hFc := free_all hD hS hA
        refine va_callv (va_runV (As := [.int 7, .int r3, .int 0]) (rest := []) ⟨hx, hb, hml, hown, ht⟩ (c_X1_draft l dC dI H.size h g ca (u2 (u2 (u2 iv 8 5 n12) 8 3 n10) 8 4 n11) lv fa la (IX_i (c := 8) (k := 4) (IX_i (c := 8) (k := 3) (IX_i (c := 8) (k := 5) hI (show inb (0, 200) n12 from ⟨by omega, by omega⟩)) (show inb ((-1), 200) n10 from ⟨by omega, by omega⟩)) (show inb (0, 5) n11 from ⟨by omega, by omega⟩)) 7 r3 0) (kV 3 ht m_779 m_780 m_781 m_81 m_782 rfl rfl hd_X1_draft_v ⟨Nat.le_of_ble_eq_true rfl, Nat.le_of_ble_eq_true rfl⟩) (vW hP hK hD (rX_1 hK hP)) rfl rfl hl.1 rfl (lv_room (Nat.le_of_ble_eq_true rfl)) dX8_readStrike_61 ⟨Nat.le_of_ble_eq_true rfl, Nat.le_of_ble_eq_true rfl⟩) hS (fun q _ h => hFc q h) hFc (fun u t H1 locs ht9 hvm hr14 hB hz1 hk1 hS => ?_)
        obtain ⟨n15, n16, n17, n18, hn18, rfl⟩ := hr14
        have hn15 : ∀ j, inb (bA 1 2 j) (n15 j) := fun j => full_i _
        have hn16 : ∀ j, inb (bA 1 3 j) (n16 j) := fun j => full_i _
        have hn17 : ∀ j, inb (bA 1 4 j) (n17 j) := fun j => full_i _
        have hn18 : 0 ≤ n18.toInt ∧ n18.toInt ≤ 12 := hn18
        obtain ⟨hP, hD⟩ := hB
        rw [ht9] at hP
        generalize H1 = H at hP hS ⊢
        have hP : va_P (dC, dI) classes (WX h g ca (u2 (u2 (u2 (u2 iv 8 5 n12) 8 3 n10) 8 4 n11) 1 8 n18) lv (u2 (u2 (u2 fa 1 2 n15) 1 3 n16) 1 4 n17) la) H := hP
        have hD : va_D A (WX h g ca (u2 (u2 (u2 (u2 iv 8 5 n12) 8 3 n10) 8 4 n11) 1 8 n18) lv (u2 (u2 (u2 fa 1 2 n15) 1 3 n16) 1 4 n17) la) := (show va_D _ (WX h g ca (u2 (u2 (u2 (u2 iv 8 5 n12) 8 3 n10) 8 4 n11) 1 8 n18) lv (u2 (u2 (u2 fa 1 2 n15) 1 3 n16) 1 4 n17) la) from hD).weaken (fun _ _ _ h => hFc _ h)
        refine lv_iconst (v := 1) hx hb dX8_readStrike_64 (by decide) ?_
        have hP9 : va_P (dC, dI) classes (WX h g ca (u2 (u2 (u2 (u2 iv 1 8 n18) 8 3 n10) 8 4 n11) 8 5 n12) lv (u2 (u2 (u2 fa 1 2 n15) 1 3 n16) 1 4 n17) la) H := hP
        have hD9 : va_D A (WX h g ca (u2 (u2 (u2 (u2 iv 1 8 n18) 8 3 n10) 8 4 n11) 8 5 n12) lv (u2 (u2 (u2 fa 1 2 n15) 1 3 n16) 1 4 n17) la) := hD
        exact W.zret (v := 1) hx hb hr rfl (fun t ht9 hW => ⟨⟨1, ((u2 (u2 (u2 (u2 iv 1 8 n18) 8 3 n10) 8 4 n11) 8 5 n12), lv, (u2 (u2 (u2 fa 1 2 n15) 1 3 n16) 1 4 n17), la), rfl, ⟨n15, n16, n17, n18, n10, n11, n12, (show inb (0, 12) n18 from ⟨by omega, by omega⟩), (show inb ((-1), 200) n10 from ⟨by omega, by omega⟩), (show inb (0, 5) n11 from ⟨by omega, by omega⟩), (show inb (0, 200) n12 from ⟨by omega, by omega⟩), ⟨by decide, by decide⟩, rfl⟩, by rw [ht9]; exact hP9, hD9⟩, hS.F ht9⟩) hS.2.2 dX8_readStrike_65
      · have fc13 := z_eq (rfl : (r9).toInt = _) (by decide : (0 : Int32).toInt = 0) c13
        refine lv_iconst (v := 0) hx hb dX8_readStrike_51 (by decide) ?_
        have hP9 : va_P (dC, dI) classes (WX h g ca (u2 (u2 (u2 (u2 iv 1 8 (iv 1 8)) 8 3 n10) 8 4 n11) 8 5 n12) lv (u2 (u2 (u2 fa 1 2 (fa 1 2)) 1 3 (fa 1 3)) 1 4 (fa 1 4)) la) H := hP
        have hD9 : va_D A (WX h g ca (u2 (u2 (u2 (u2 iv 1 8 (iv 1 8)) 8 3 n10) 8 4 n11) 8 5 n12) lv (u2 (u2 (u2 fa 1 2 (fa 1 2)) 1 3 (fa 1 3)) 1 4 (fa 1 4)) la) := hD
        exact W.zret (v := 0) hx hb hr rfl (fun t ht9 hW => ⟨⟨0, ((u2 (u2 (u2 (u2 iv 1 8 (iv 1 8)) 8 3 n10) 8 4 n11) 8 5 n12), lv, (u2 (u2 (u2 fa 1 2 (fa 1 2)) 1 3 (fa 1 3)) 1 4 (fa 1 4)), la), rfl, ⟨(fa 1 2), (fa 1 3), (fa 1 4), (iv 1 8), n10, n11, n12, (hI.1 1 8), (show inb ((-1), 200) n10 from ⟨by omega, by omega⟩), (show inb (0, 5) n11 from ⟨by omega, by omega⟩), (show inb (0, 200) n12 from ⟨by omega, by omega⟩), ⟨by decide, by decide⟩, rfl⟩, by rw [ht9]; exact hP9, hD9⟩, hS.F ht9⟩) hS.2.2 dX8_readStrike_52
    · have fc8 := z_nlt (rfl : (r3).toInt = _) (rfl : ((iv 1 7)).toInt = _) c8
      refine lv_aload_n hx hb dX8_readStrike_37 rfl (lv_at hl 2 rfl) ?_
      refine lv_iconst (v := 3) hx hb dX8_readStrike_38 (by decide) ?_
      refine lv_iload_n hx hb dX8_readStrike_39 rfl (lv_at hl 1 rfl) ?_
      have hFc := free_all hD hS hA
      refine va_calli (va_runV (As := [.int 3, .int n2]) (rest := []) ⟨hx, hb, hml, hown, ht⟩ (c_X8_fail l dC dI H.size h g ca (u2 (u2 (u2 iv 8 5 n6) 8 3 n4) 8 4 n5) lv fa la (IX_i (c := 8) (k := 4) (IX_i (c := 8) (k := 3) (IX_i (c := 8) (k := 5) hI (show inb (0, 200) n6 from ⟨by omega, by omega⟩)) (show inb ((-1), 200) n4 from ⟨by omega, by omega⟩)) (show inb (0, 5) n5 from ⟨by omega, by omega⟩)) 3 n2 ⟨by decide, by decide⟩ ⟨by omega, by omega⟩) (kV 2 ht m_757 m_759 m_21 m_82 m_760 rfl rfl hd_X8_fail_v ⟨Nat.le_of_ble_eq_true rfl, Nat.le_of_ble_eq_true rfl⟩) (vW hP hK hD (rX_8 hK hP)) rfl rfl hl.1 rfl (lv_room (Nat.le_of_ble_eq_true rfl)) dX8_readStrike_40 ⟨Nat.le_of_ble_eq_true rfl, Nat.le_of_ble_eq_true rfl⟩) hS (fun q _ h => hFc q h) hFc (fun r19 u t H1 locs ht9 hvm hr19 hB hz1 hk1 hS => ?_)
      obtain ⟨n20, n21, hn20, hn21, hr19, rfl⟩ := hr19
      have hn20 : (-1) ≤ n20.toInt ∧ n20.toInt ≤ 200 := hn20
      have hn21 : 0 ≤ n21.toInt ∧ n21.toInt ≤ 5 := hn21
      obtain ⟨hP, hD⟩ := hB
      rw [ht9] at hP
      generalize H1 = H at hP hS ⊢
      have hP : va_P (dC, dI) classes (WX h g ca (u2 (u2 (u2 iv 8 5 n6) 8 3 n20) 8 4 n21) lv fa la) H := hP
      have hD : va_D A (WX h g ca (u2 (u2 (u2 iv 8 5 n6) 8 3 n20) 8 4 n21) lv fa la) := (show va_D _ (WX h g ca (u2 (u2 (u2 iv 8 5 n6) 8 3 n20) 8 4 n21) lv fa la) from hD).weaken (fun _ _ _ h => hFc _ h)
      have hP9 : va_P (dC, dI) classes (WX h g ca (u2 (u2 (u2 (u2 iv 1 8 (iv 1 8)) 8 3 n20) 8 4 n21) 8 5 n6) lv (u2 (u2 (u2 fa 1 2 (fa 1 2)) 1 3 (fa 1 3)) 1 4 (fa 1 4)) la) H := hP
      have hD9 : va_D A (WX h g ca (u2 (u2 (u2 (u2 iv 1 8 (iv 1 8)) 8 3 n20) 8 4 n21) 8 5 n6) lv (u2 (u2 (u2 fa 1 2 (fa 1 2)) 1 3 (fa 1 3)) 1 4 (fa 1 4)) la) := hD
      exact W.zret (v := r19) hx hb hr (nar01 ⟨by omega, by omega⟩) (fun t ht9 hW => ⟨⟨r19, ((u2 (u2 (u2 (u2 iv 1 8 (iv 1 8)) 8 3 n20) 8 4 n21) 8 5 n6), lv, (u2 (u2 (u2 fa 1 2 (fa 1 2)) 1 3 (fa 1 3)) 1 4 (fa 1 4)), la), rfl, ⟨(fa 1 2), (fa 1 3), (fa 1 4), (iv 1 8), n20, n21, n6, (hI.1 1 8), (show inb ((-1), 200) n20 from ⟨by omega, by omega⟩), (show inb (0, 5) n21 from ⟨by omega, by omega⟩), (show inb (0, 200) n6 from ⟨by omega, by omega⟩), ⟨by omega, by omega⟩, rfl⟩, by rw [ht9]; exact hP9, hD9⟩, hS.F ht9⟩) hS.2.2 dX8_readStrike_43
  · have fc7 := z_eq (rfl : (r3).toInt = _) (by decide : ((-1) : Int32).toInt = (-1)) c7
    refine lv_iconst (v := 0) hx hb dX8_readStrike_24 (by decide) ?_
    have hP9 : va_P (dC, dI) classes (WX h g ca (u2 (u2 (u2 (u2 iv 1 8 (iv 1 8)) 8 3 n4) 8 4 n5) 8 5 n6) lv (u2 (u2 (u2 fa 1 2 (fa 1 2)) 1 3 (fa 1 3)) 1 4 (fa 1 4)) la) H := hP
    have hD9 : va_D A (WX h g ca (u2 (u2 (u2 (u2 iv 1 8 (iv 1 8)) 8 3 n4) 8 4 n5) 8 5 n6) lv (u2 (u2 (u2 fa 1 2 (fa 1 2)) 1 3 (fa 1 3)) 1 4 (fa 1 4)) la) := hD
    exact W.zret (v := 0) hx hb hr rfl (fun t ht9 hW => ⟨⟨0, ((u2 (u2 (u2 (u2 iv 1 8 (iv 1 8)) 8 3 n4) 8 4 n5) 8 5 n6), lv, (u2 (u2 (u2 fa 1 2 (fa 1 2)) 1 3 (fa 1 3)) 1 4 (fa 1 4)), la), rfl, ⟨(fa 1 2), (fa 1 3), (fa 1 4), (iv 1 8), n4, n5, n6, (hI.1 1 8), (show inb ((-1), 200) n4 from ⟨by omega, by omega⟩), (show inb (0, 5) n5 from ⟨by omega, by omega⟩), (show inb (0, 200) n6 from ⟨by omega, by omega⟩), ⟨by decide, by decide⟩, rfl⟩, by rw [ht9]; exact hP9, hD9⟩, hS.F ht9⟩) hS.2.2 dX8_readStrike_25
set_option maxHeartbeats 4000000 in
set_option maxRecDepth 100000 in
/-- X8_readClause -/
theorem c_X8_readClause (l : Launch) (dC : Nat → ClassId) (dI : Nat → Nat → Nat) (sz : Nat) (ak av : Nat → Nat) (h : Nat) (g : Nat → Nat → Nat) (ca : Nat → Nat → ClassId) (iv : Nat → Nat → Int32) (lv : Nat → Nat → Int64) (fa : Nat → Nat → Nat → Int32) (la : Nat → Nat → Nat → Int64) (hI : IX iv fa) : Met l yX8_readClause (wc yX8_readClause cX8_readClause 3 (some .boolean)) ({ frames := 7, cells := 0, slots := 0, locals := 157 } : Room) (pWZ ak av (dC, dI) classes (WX h g ca iv lv fa la) (TX ca) sz [.ref (g 11 4)]) (va_Qi (fun r (u : SS) => ∃ (na_1_2 : Nat → Int32) (na_1_3 : Nat → Int32) (na_1_4 : Nat → Int32) (na_1_5 : Nat → Int32) (ni_1_8 : Int32) (ni_8_3 : Int32) (ni_8_4 : Int32) (ni_8_5 : Int32), inb (bI 1 8) ni_1_8 ∧ inb (bI 8 3) ni_8_3 ∧ inb (bI 8 4) ni_8_4 ∧ inb (bI 8 5) ni_8_5 ∧ (0 ≤ r.toInt ∧ r.toInt ≤ 1) ∧ u = ((u2 (u2 (u2 (u2 iv 1 8 ni_1_8) 8 3 ni_8_3) 8 4 ni_8_4) 8 5 ni_8_5), lv, (u2 (u2 (u2 (u2 fa 1 2 na_1_2) 1 3 na_1_3) 1 4 na_1_4) 1 5 na_1_5), la)) (bX (dC, dI) h g ca (va_A (WX h g ca iv lv fa la) sz)) (va_A (WX h g ca iv lv fa la) sz)) 0 0 (va_A (WX h g ca iv lv fa la) sz) := by
  refine Met.ofW (cc := cX8_readClause) (maxL := 3) (ret := (some .boolean)) (by decide) rfl ?_
  intro p e s m args below meth c s₁ B hml hv
  obtain ⟨rfl, hsz, hP, hK, hD0, hZ⟩ := hv
  have hx := B.exec
  have hb := B.bytes
  have hr := B.returns
  have ht := tb_tl (atoms_spec (ws := wc yX8_readClause cX8_readClause 3 (some .boolean)) B.pre)
  have hown : s.vm.findClass RX8 = some m.cls := findClass_of_methodNamed B.named
  have hlocks := B.notSynchronized
  subst hsz
  have hD := hD0.self (sz := s.heap.size)
  generalize hAe : va_A (WX h g ca iv lv fa la) s.heap.size = A at hD hZ ⊢
  have hA : ∀ q : Nat, s.heap.size ≤ q → A q := fun q h => by rw [← hAe]; exact Or.inr h
  have hS : va_S A s.heap s.heap [] := va_S.rf
  have hl := lv_entry [.ref (g 11 4)] (n := 3) (Nat.le_of_ble_eq_true rfl)
  rw [lg_entry_eq]
  generalize (lg_sl [.ref (g 11 4)] ++ List.replicate (3 - (lg_sl [.ref (g 11 4)]).length) Slot.unset).toArray = ls at hl ⊢
  have hl : lv_has ls 3 [(0, .ref (g 11 4))] := hl
  refine lv_aload_n hx hb dX8_readClause_0 rfl (lv_at hl 0 rfl) ?_
  have i_8_5 : 0 ≤ (iv 8 5).toInt ∧ (iv 8 5).toInt ≤ 200 := hI.1 8 5
  refine gX_8_5 hx hb ht hown hK hP m_235 (v := (iv 8 5)) rfl dX8_readClause_1 ?_
  refine lv_istore_n (lv' := [(1, .int (iv 8 5)), (0, .ref (g 11 4))]) hx hb dX8_readClause_4 rfl hl (by decide) rfl (fun ls hl => ?_)
  refine lv_aload_n hx hb dX8_readClause_5 rfl (lv_at hl 1 rfl) ?_
  refine va_ldcS hx hb hown hZ.2.1 dX8_readClause_6 ?_
  have hFc := free_all hD hS hA
  refine va_calli (va_runV (As := [.ref (ak 0)]) (rest := []) ⟨hx, hb, hml, hown, ht⟩ (c_X8_readOneOf_0 l dC dI s.heap.size ak av h g ca iv lv fa la hI) (kV 1 ht m_697 m_699 m_18 m_82 m_700 rfl rfl hd_X8_readOneOf_v ⟨Nat.le_of_ble_eq_true rfl, Nat.le_of_ble_eq_true rfl⟩) (vWZ hP hK hD ((hZ.kept hS.2.1).narrow (free_all hD hS hA)) (rX_8 hK hP)) rfl rfl hl.1 rfl (lv_room (Nat.le_of_ble_eq_true rfl)) dX8_readClause_8 ⟨Nat.le_of_ble_eq_true rfl, Nat.le_of_ble_eq_true rfl⟩) hS (fun q _ h => hFc q h) hFc (fun r1 u t H1 locs ht9 hvm hr1 hB hz1 hk1 hS => ?_)
  obtain ⟨n2, n3, n4, hn2, hn3, hn4, hr1, rfl⟩ := hr1
  have hn2 : (-1) ≤ n2.toInt ∧ n2.toInt ≤ 200 := hn2
  have hn3 : 0 ≤ n3.toInt ∧ n3.toInt ≤ 5 := hn3
  have hn4 : 0 ≤ n4.toInt ∧ n4.toInt ≤ 200 := hn4
  obtain ⟨hP, hD⟩ := hB
  rw [ht9] at hP
  generalize H1 = H at hP hS ⊢
  have hP : va_P (dC, dI) classes (WX h g ca (u2 (u2 (u2 iv 8 3 n2) 8 4 n3) 8 5 n4) lv fa la) H := hP
  have hD : va_D A (WX h g ca (u2 (u2 (u2 iv 8 3 n2) 8 4 n3) 8 5 n4) lv fa la) := (show va_D _ (WX h g ca (u2 (u2 (u2 iv 8 3 n2) 8 4 n3) 8 5 n4) lv fa la) from hD).weaken (fun _ _ _ h => hFc _ h)
  refine lv_istore_n (lv' := [(2, .int r1), (1, .int (iv 8 5)), (0, .ref (g 11 4))]) hx hb dX8_readClause_11 rfl hl (by decide) rfl (fun ls hl => ?_)
  refine lv_iload_n hx hb dX8_readClause_12 rfl (lv_at hl 0 rfl) ?_
  refine lv_iconst (v := (-1)) hx hb dX8_readClause_13 (by decide) ?_
  refine lv_icmp_ne (tgt := 19) hx hb dX8_readClause_14 (by decide) (fun c5 => ?_) (fun c5 => ?_)
  · have fc5 := z_ne (rfl : (r1).toInt = _) (by decide : ((-1) : Int32).toInt = (-1)) c5
    refine lv_aload_n hx hb dX8_readClause_19 rfl (lv_at hl 2 rfl) ?_
    refine gX_8_0 hx hb ht hown hK hP m_228 dX8_readClause_20 ?_
    have i_1_8 : 0 ≤ (iv 1 8).toInt ∧ (iv 1 8).toInt ≤ 12 := hI.1 1 8
    refine gX_1_8 hx hb ht hown hK hP m_200 (v := (iv 1 8)) rfl dX8_readClause_23 ?_
    refine lv_bipush (v := 12) hx hb dX8_readClause_26 (by decide) ?_
    refine lv_icmp_lt (tgt := 38) hx hb dX8_readClause_28 (by decide) (fun c6 => ?_) (fun c6 => ?_)
    · have fc6 := z_lt (rfl : ((iv 1 8)).toInt = _) (by decide : (12 : Int32).toInt = 12) c6
      refine lv_iload_n hx hb dX8_readClause_38 rfl (lv_at hl 0 rfl) ?_
      rcases sw_0_2 r1 with h7 | rfl | rfl | rfl
      · refine lv_tableOut (tgt := 79) hx hb dX8_readClause_39 h7 (by decide) ?_
        refine lv_aload_n hx hb dX8_readClause_79 rfl (lv_at hl 2 rfl) ?_
        have hFc := free_all hD hS hA
        refine va_calli (va_runV (As := []) (rest := []) ⟨hx, hb, hml, hown, ht⟩ (c_X8_readStrike l dC dI H.size ak av h g ca (u2 (u2 (u2 iv 8 3 n2) 8 4 n3) 8 5 n4) lv fa la (IX_i (c := 8) (k := 5) (IX_i (c := 8) (k := 4) (IX_i (c := 8) (k := 3) hI (show inb ((-1), 200) n2 from ⟨by omega, by omega⟩)) (show inb (0, 5) n3 from ⟨by omega, by omega⟩)) (show inb (0, 200) n4 from ⟨by omega, by omega⟩))) (kV 0 ht m_801 m_803 m_28 m_82 m_804 rfl rfl hd_X8_readStrike_v ⟨Nat.le_of_ble_eq_true rfl, Nat.le_of_ble_eq_true rfl⟩) (vWZ hP hK hD ((hZ.kept hS.2.1).narrow (free_all hD hS hA)) (rX_8 hK hP)) rfl rfl hl.1 rfl (lv_room (Nat.le_of_ble_eq_true rfl)) dX8_readClause_80 ⟨Nat.le_of_ble_eq_true rfl, Nat.le_of_ble_eq_true rfl⟩) hS (fun q _ h => hFc q h) hFc (fun r8 u t H1 locs ht9 hvm hr8 hB hz1 hk1 hS => ?_)
        obtain ⟨n9, n10, n11, n12, n13, n14, n15, hn12, hn13, hn14, hn15, hr8, rfl⟩ := hr8
        have hn9 : ∀ j, inb (bA 1 2 j) (n9 j) := fun j => full_i _
        have hn10 : ∀ j, inb (bA 1 3 j) (n10 j) := fun j => full_i _
        have hn11 : ∀ j, inb (bA 1 4 j) (n11 j) := fun j => full_i _
        have hn12 : 0 ≤ n12.toInt ∧ n12.toInt ≤ 12 := hn12
        have hn13 : (-1) ≤ n13.toInt ∧ n13.toInt ≤ 200 := hn13
        have hn14 : 0 ≤ n14.toInt ∧ n14.toInt ≤ 5 := hn14
        have hn15 : 0 ≤ n15.toInt ∧ n15.toInt ≤ 200 := hn15
        obtain ⟨hP, hD⟩ := hB
        rw [ht9] at hP
        generalize H1 = H at hP hS ⊢
        have hP : va_P (dC, dI) classes (WX h g ca (u2 (u2 (u2 (u2 iv 8 3 n13) 8 4 n14) 8 5 n15) 1 8 n12) lv (u2 (u2 (u2 fa 1 2 n9) 1 3 n10) 1 4 n11) la) H := hP
        have hD : va_D A (WX h g ca (u2 (u2 (u2 (u2 iv 8 3 n13) 8 4 n14) 8 5 n15) 1 8 n12) lv (u2 (u2 (u2 fa 1 2 n9) 1 3 n10) 1 4 n11) la) := (show va_D _ (WX h g ca (u2 (u2 (u2 (u2 iv 8 3 n13) 8 4 n14) 8 5 n15) 1 8 n12) lv (u2 (u2 (u2 fa 1 2 n9) 1 3 n10) 1 4 n11) la) from hD).weaken (fun _ _ _ h => hFc _ h)
        have hP9 : va_P (dC, dI) classes (WX h g ca (u2 (u2 (u2 (u2 iv 1 8 n12) 8 3 n13) 8 4 n14) 8 5 n15) lv (u2 (u2 (u2 (u2 fa 1 2 n9) 1 3 n10) 1 4 n11) 1 5 (fa 1 5)) la) H := hP
        have hD9 : va_D A (WX h g ca (u2 (u2 (u2 (u2 iv 1 8 n12) 8 3 n13) 8 4 n14) 8 5 n15) lv (u2 (u2 (u2 (u2 fa 1 2 n9) 1 3 n10) 1 4 n11) 1 5 (fa 1 5)) la) := hD
        exact W.zret (v := r8) hx hb hr (nar01 ⟨by omega, by omega⟩) (fun t ht9 hW => ⟨⟨r8, ((u2 (u2 (u2 (u2 iv 1 8 n12) 8 3 n13) 8 4 n14) 8 5 n15), lv, (u2 (u2 (u2 (u2 fa 1 2 n9) 1 3 n10) 1 4 n11) 1 5 (fa 1 5)), la), rfl, ⟨n9, n10, n11, (fa 1 5), n12, n13, n14, n15, (show inb (0, 12) n12 from ⟨by omega, by omega⟩), (show inb ((-1), 200) n13 from ⟨by omega, by omega⟩), (show inb (0, 5) n14 from ⟨by omega, by omega⟩), (show inb (0, 200) n15 from ⟨by omega, by omega⟩), ⟨by omega, by omega⟩, rfl⟩, by rw [ht9]; exact hP9, hD9⟩, hS.F ht9⟩) hS.2.2 dX8_readClause_83
      · refine lv_tableIn (tgt := 64) (off := 25) hx hb dX8_readClause_39 (by decide) (by decide) rfl (by decide) ?_
        refine lv_aload_n hx hb dX8_readClause_64 rfl (lv_at hl 2 rfl) ?_
        have hFc := free_all hD hS hA
        refine va_calli (va_runV (As := []) (rest := []) ⟨hx, hb, hml, hown, ht⟩ (c_X8_readLet l dC dI H.size ak av h g ca (u2 (u2 (u2 iv 8 3 n2) 8 4 n3) 8 5 n4) lv fa la (IX_i (c := 8) (k := 5) (IX_i (c := 8) (k := 4) (IX_i (c := 8) (k := 3) hI (show inb ((-1), 200) n2 from ⟨by omega, by omega⟩)) (show inb (0, 5) n3 from ⟨by omega, by omega⟩)) (show inb (0, 200) n4 from ⟨by omega, by omega⟩))) (kV 0 ht m_761 m_763 m_22 m_82 m_764 rfl rfl hd_X8_readLet_v ⟨Nat.le_of_ble_eq_true rfl, Nat.le_of_ble_eq_true rfl⟩) (vWZ hP hK hD ((hZ.kept hS.2.1).narrow (free_all hD hS hA)) (rX_8 hK hP)) rfl rfl hl.1 rfl (lv_room (Nat.le_of_ble_eq_true rfl)) dX8_readClause_65 ⟨Nat.le_of_ble_eq_true rfl, Nat.le_of_ble_eq_true rfl⟩) hS (fun q _ h => hFc q h) hFc (fun r16 u t H1 locs ht9 hvm hr16 hB hz1 hk1 hS => ?_)
        obtain ⟨n17, n18, n19, n20, n21, n22, n23, hn20, hn21, hn22, hn23, hr16, rfl⟩ := hr16
        have hn17 : ∀ j, inb (bA 1 2 j) (n17 j) := fun j => full_i _
        have hn18 : ∀ j, inb (bA 1 3 j) (n18 j) := fun j => full_i _
        have hn19 : ∀ j, inb (bA 1 4 j) (n19 j) := fun j => full_i _
        have hn20 : 0 ≤ n20.toInt ∧ n20.toInt ≤ 12 := hn20
        have hn21 : (-1) ≤ n21.toInt ∧ n21.toInt ≤ 200 := hn21
        have hn22 : 0 ≤ n22.toInt ∧ n22.toInt ≤ 5 := hn22
        have hn23 : 0 ≤ n23.toInt ∧ n23.toInt ≤ 200 := hn23
        obtain ⟨hP, hD⟩ := hB
        rw [ht9] at hP
        generalize H1 = H at hP hS ⊢
        have hP : va_P (dC, dI) classes (WX h g ca (u2 (u2 (u2 (u2 iv 8 3 n21) 8 4 n22) 8 5 n23) 1 8 n20) lv (u2 (u2 (u2 fa 1 2 n17) 1 3 n18) 1 4 n19) la) H := hP
        have hD : va_D A (WX h g ca (u2 (u2 (u2 (u2 iv 8 3 n21) 8 4 n22) 8 5 n23) 1 8 n20) lv (u2 (u2 (u2 fa 1 2 n17) 1 3 n18) 1 4 n19) la) := (show va_D _ (WX h g ca (u2 (u2 (u2 (u2 iv 8 3 n21) 8 4 n22) 8 5 n23) 1 8 n20) lv (u2 (u2 (u2 fa 1 2 n17) 1 3 n18) 1 4 n19) la) from hD).weaken (fun _ _ _ h => hFc _ h)
        have hP9 : va_P (dC, dI) classes (WX h g ca (u2 (u2 (u2 (u2 iv 1 8 n20) 8 3 n21) 8 4 n22) 8 5 n23) lv (u2 (u2 (u2 (u2 fa 1 2 n17) 1 3 n18) 1 4 n19) 1 5 (fa 1 5)) la) H := hP
        have hD9 : va_D A (WX h g ca (u2 (u2 (u2 (u2 iv 1 8 n20) 8 3 n21) 8 4 n22) 8 5 n23) lv (u2 (u2 (u2 (u2 fa 1 2 n17) 1 3 n18) 1 4 n19) 1 5 (fa 1 5)) la) := hD
        exact W.zret (v := r16) hx hb hr (nar01 ⟨by omega, by omega⟩) (fun t ht9 hW => ⟨⟨r16, ((u2 (u2 (u2 (u2 iv 1 8 n20) 8 3 n21) 8 4 n22) 8 5 n23), lv, (u2 (u2 (u2 (u2 fa 1 2 n17) 1 3 n18) 1 4 n19) 1 5 (fa 1 5)), la), rfl, ⟨n17, n18, n19, (fa 1 5), n20, n21, n22, n23, (show inb (0, 12) n20 from ⟨by omega, by omega⟩), (show inb ((-1), 200) n21 from ⟨by omega, by omega⟩), (show inb (0, 5) n22 from ⟨by omega, by omega⟩), (show inb (0, 200) n23 from ⟨by omega, by omega⟩), ⟨by omega, by omega⟩, rfl⟩, by rw [ht9]; exact hP9, hD9⟩, hS.F ht9⟩) hS.2.2 dX8_readClause_68
      · refine lv_tableIn (tgt := 69) (off := 30) hx hb dX8_readClause_39 (by decide) (by decide) rfl (by decide) ?_
        refine lv_aload_n hx hb dX8_readClause_69 rfl (lv_at hl 2 rfl) ?_
        have hFc := free_all hD hS hA
        refine va_calli (va_runV (As := []) (rest := []) ⟨hx, hb, hml, hown, ht⟩ (c_X8_readTake l dC dI H.size ak av h g ca (u2 (u2 (u2 iv 8 3 n2) 8 4 n3) 8 5 n4) lv fa la (IX_i (c := 8) (k := 5) (IX_i (c := 8) (k := 4) (IX_i (c := 8) (k := 3) hI (show inb ((-1), 200) n2 from ⟨by omega, by omega⟩)) (show inb (0, 5) n3 from ⟨by omega, by omega⟩)) (show inb (0, 200) n4 from ⟨by omega, by omega⟩))) (kV 0 ht m_783 m_785 m_25 m_82 m_786 rfl rfl hd_X8_readTake_v ⟨Nat.le_of_ble_eq_true rfl, Nat.le_of_ble_eq_true rfl⟩) (vWZ hP hK hD ((hZ.kept hS.2.1).narrow (free_all hD hS hA)) (rX_8 hK hP)) rfl rfl hl.1 rfl (lv_room (Nat.le_of_ble_eq_true rfl)) dX8_readClause_70 ⟨Nat.le_of_ble_eq_true rfl, Nat.le_of_ble_eq_true rfl⟩) hS (fun q _ h => hFc q h) hFc (fun r24 u t H1 locs ht9 hvm hr24 hB hz1 hk1 hS => ?_)
        obtain ⟨n25, n26, n27, n28, n29, n30, n31, hn28, hn29, hn30, hn31, hr24, rfl⟩ := hr24
        have hn25 : ∀ j, inb (bA 1 2 j) (n25 j) := fun j => full_i _
        have hn26 : ∀ j, inb (bA 1 3 j) (n26 j) := fun j => full_i _
        have hn27 : ∀ j, inb (bA 1 4 j) (n27 j) := fun j => full_i _
        have hn28 : 0 ≤ n28.toInt ∧ n28.toInt ≤ 12 := hn28
        have hn29 : (-1) ≤ n29.toInt ∧ n29.toInt ≤ 200 := hn29
        have hn30 : 0 ≤ n30.toInt ∧ n30.toInt ≤ 5 := hn30
        have hn31 : 0 ≤ n31.toInt ∧ n31.toInt ≤ 200 := hn31
        obtain ⟨hP, hD⟩ := hB
        rw [ht9] at hP
        generalize H1 = H at hP hS ⊢
        have hP : va_P (dC, dI) classes (WX h g ca (u2 (u2 (u2 (u2 iv 8 3 n29) 8 4 n30) 8 5 n31) 1 8 n28) lv (u2 (u2 (u2 fa 1 2 n25) 1 3 n26) 1 4 n27) la) H := hP
        have hD : va_D A (WX h g ca (u2 (u2 (u2 (u2 iv 8 3 n29) 8 4 n30) 8 5 n31) 1 8 n28) lv (u2 (u2 (u2 fa 1 2 n25) 1 3 n26) 1 4 n27) la) := (show va_D _ (WX h g ca (u2 (u2 (u2 (u2 iv 8 3 n29) 8 4 n30) 8 5 n31) 1 8 n28) lv (u2 (u2 (u2 fa 1 2 n25) 1 3 n26) 1 4 n27) la) from hD).weaken (fun _ _ _ h => hFc _ h)
        have hP9 : va_P (dC, dI) classes (WX h g ca (u2 (u2 (u2 (u2 iv 1 8 n28) 8 3 n29) 8 4 n30) 8 5 n31) lv (u2 (u2 (u2 (u2 fa 1 2 n25) 1 3 n26) 1 4 n27) 1 5 (fa 1 5)) la) H := hP
        have hD9 : va_D A (WX h g ca (u2 (u2 (u2 (u2 iv 1 8 n28) 8 3 n29) 8 4 n30) 8 5 n31) lv (u2 (u2 (u2 (u2 fa 1 2 n25) 1 3 n26) 1 4 n27) 1 5 (fa 1 5)) la) := hD
        exact W.zret (v := r24) hx hb hr (nar01 ⟨by omega, by omega⟩) (fun t ht9 hW => ⟨⟨r24, ((u2 (u2 (u2 (u2 iv 1 8 n28) 8 3 n29) 8 4 n30) 8 5 n31), lv, (u2 (u2 (u2 (u2 fa 1 2 n25) 1 3 n26) 1 4 n27) 1 5 (fa 1 5)), la), rfl, ⟨n25, n26, n27, (fa 1 5), n28, n29, n30, n31, (show inb (0, 12) n28 from ⟨by omega, by omega⟩), (show inb ((-1), 200) n29 from ⟨by omega, by omega⟩), (show inb (0, 5) n30 from ⟨by omega, by omega⟩), (show inb (0, 200) n31 from ⟨by omega, by omega⟩), ⟨by omega, by omega⟩, rfl⟩, by rw [ht9]; exact hP9, hD9⟩, hS.F ht9⟩) hS.2.2 dX8_readClause_73
      · refine lv_tableIn (tgt := 74) (off := 35) hx hb dX8_readClause_39 (by decide) (by decide) rfl (by decide) ?_
        refine lv_aload_n hx hb dX8_readClause_74 rfl (lv_at hl 2 rfl) ?_
        have hFc := free_all hD hS hA
        refine va_calli (va_runV (As := []) (rest := []) ⟨hx, hb, hml, hown, ht⟩ (c_X8_readName l dC dI H.size ak av h g ca (u2 (u2 (u2 iv 8 3 n2) 8 4 n3) 8 5 n4) lv fa la (IX_i (c := 8) (k := 5) (IX_i (c := 8) (k := 4) (IX_i (c := 8) (k := 3) hI (show inb ((-1), 200) n2 from ⟨by omega, by omega⟩)) (show inb (0, 5) n3 from ⟨by omega, by omega⟩)) (show inb (0, 200) n4 from ⟨by omega, by omega⟩))) (kV 0 ht m_788 m_790 m_26 m_82 m_791 rfl rfl hd_X8_readName_v ⟨Nat.le_of_ble_eq_true rfl, Nat.le_of_ble_eq_true rfl⟩) (vWZ hP hK hD ((hZ.kept hS.2.1).narrow (free_all hD hS hA)) (rX_8 hK hP)) rfl rfl hl.1 rfl (lv_room (Nat.le_of_ble_eq_true rfl)) dX8_readClause_75 ⟨Nat.le_of_ble_eq_true rfl, Nat.le_of_ble_eq_true rfl⟩) hS (fun q _ h => hFc q h) hFc (fun r32 u t H1 locs ht9 hvm hr32 hB hz1 hk1 hS => ?_)
        obtain ⟨n33, n34, n35, n36, n37, n38, n39, n40, hn37, hn38, hn39, hn40, hr32, rfl⟩ := hr32
        have hn33 : ∀ j, inb (bA 1 2 j) (n33 j) := fun j => full_i _
        have hn34 : ∀ j, inb (bA 1 3 j) (n34 j) := fun j => full_i _
        have hn35 : ∀ j, inb (bA 1 4 j) (n35 j) := fun j => full_i _
        have hn36 : ∀ j, inb (bA 1 5 j) (n36 j) := fun j => full_i _
        have hn37 : 0 ≤ n37.toInt ∧ n37.toInt ≤ 12 := hn37
        have hn38 : (-1) ≤ n38.toInt ∧ n38.toInt ≤ 200 := hn38
        have hn39 : 0 ≤ n39.toInt ∧ n39.toInt ≤ 5 := hn39
        have hn40 : 0 ≤ n40.toInt ∧ n40.toInt ≤ 200 := hn40
        obtain ⟨hP, hD⟩ := hB
        rw [ht9] at hP
        generalize H1 = H at hP hS ⊢
        have hP : va_P (dC, dI) classes (WX h g ca (u2 (u2 (u2 (u2 iv 8 3 n38) 8 4 n39) 8 5 n40) 1 8 n37) lv (u2 (u2 (u2 (u2 fa 1 2 n33) 1 3 n34) 1 4 n35) 1 5 n36) la) H := hP
        have hD : va_D A (WX h g ca (u2 (u2 (u2 (u2 iv 8 3 n38) 8 4 n39) 8 5 n40) 1 8 n37) lv (u2 (u2 (u2 (u2 fa 1 2 n33) 1 3 n34) 1 4 n35) 1 5 n36) la) := (show va_D _ (WX h g ca (u2 (u2 (u2 (u2 iv 8 3 n38) 8 4 n39) 8 5 n40) 1 8 n37) lv (u2 (u2 (u2 (u2 fa 1 2 n33) 1 3 n34) 1 4 n35) 1 5 n36) la) from hD).weaken (fun _ _ _ h => hFc _ h)
        have hP9 : va_P (dC, dI) classes (WX h g ca (u2 (u2 (u2 (u2 iv 1 8 n37) 8 3 n38) 8 4 n39) 8 5 n40) lv (u2 (u2 (u2 (u2 fa 1 2 n33) 1 3 n34) 1 4 n35) 1 5 n36) la) H := hP
        have hD9 : va_D A (WX h g ca (u2 (u2 (u2 (u2 iv 1 8 n37) 8 3 n38) 8 4 n39) 8 5 n40) lv (u2 (u2 (u2 (u2 fa 1 2 n33) 1 3 n34) 1 4 n35) 1 5 n36) la) := hD
        exact W.zret (v := r32) hx hb hr (nar01 ⟨by omega, by omega⟩) (fun t ht9 hW => ⟨⟨r32, ((u2 (u2 (u2 (u2 iv 1 8 n37) 8 3 n38) 8 4 n39) 8 5 n40), lv, (u2 (u2 (u2 (u2 fa 1 2 n33) 1 3 n34) 1 4 n35) 1 5 n36), la), rfl, ⟨n33, n34, n35, n36, n37, n38, n39, n40, (show inb (0, 12) n37 from ⟨by omega, by omega⟩), (show inb ((-1), 200) n38 from ⟨by omega, by omega⟩), (show inb (0, 5) n39 from ⟨by omega, by omega⟩), (show inb (0, 200) n40 from ⟨by omega, by omega⟩), ⟨by omega, by omega⟩, rfl⟩, by rw [ht9]; exact hP9, hD9⟩, hS.F ht9⟩) hS.2.2 dX8_readClause_78
    · have fc6 := z_nlt (rfl : ((iv 1 8)).toInt = _) (by decide : (12 : Int32).toInt = 12) c6
      refine lv_aload_n hx hb dX8_readClause_31 rfl (lv_at hl 2 rfl) ?_
      refine lv_iconst (v := 5) hx hb dX8_readClause_32 (by decide) ?_
      refine lv_iload_n hx hb dX8_readClause_33 rfl (lv_at hl 1 rfl) ?_
      have hFc := free_all hD hS hA
      refine va_calli (va_runV (As := [.int 5, .int (iv 8 5)]) (rest := []) ⟨hx, hb, hml, hown, ht⟩ (c_X8_fail l dC dI H.size h g ca (u2 (u2 (u2 iv 8 3 n2) 8 4 n3) 8 5 n4) lv fa la (IX_i (c := 8) (k := 5) (IX_i (c := 8) (k := 4) (IX_i (c := 8) (k := 3) hI (show inb ((-1), 200) n2 from ⟨by omega, by omega⟩)) (show inb (0, 5) n3 from ⟨by omega, by omega⟩)) (show inb (0, 200) n4 from ⟨by omega, by omega⟩)) 5 (iv 8 5) ⟨by decide, by decide⟩ ⟨by omega, by omega⟩) (kV 2 ht m_757 m_759 m_21 m_82 m_760 rfl rfl hd_X8_fail_v ⟨Nat.le_of_ble_eq_true rfl, Nat.le_of_ble_eq_true rfl⟩) (vW hP hK hD (rX_8 hK hP)) rfl rfl hl.1 rfl (lv_room (Nat.le_of_ble_eq_true rfl)) dX8_readClause_34 ⟨Nat.le_of_ble_eq_true rfl, Nat.le_of_ble_eq_true rfl⟩) hS (fun q _ h => hFc q h) hFc (fun r41 u t H1 locs ht9 hvm hr41 hB hz1 hk1 hS => ?_)
      obtain ⟨n42, n43, hn42, hn43, hr41, rfl⟩ := hr41
      have hn42 : (-1) ≤ n42.toInt ∧ n42.toInt ≤ 200 := hn42
      have hn43 : 0 ≤ n43.toInt ∧ n43.toInt ≤ 5 := hn43
      obtain ⟨hP, hD⟩ := hB
      rw [ht9] at hP
      generalize H1 = H at hP hS ⊢
      have hP : va_P (dC, dI) classes (WX h g ca (u2 (u2 (u2 iv 8 3 n42) 8 4 n43) 8 5 n4) lv fa la) H := hP
      have hD : va_D A (WX h g ca (u2 (u2 (u2 iv 8 3 n42) 8 4 n43) 8 5 n4) lv fa la) := (show va_D _ (WX h g ca (u2 (u2 (u2 iv 8 3 n42) 8 4 n43) 8 5 n4) lv fa la) from hD).weaken (fun _ _ _ h => hFc _ h)
      have hP9 : va_P (dC, dI) classes (WX h g ca (u2 (u2 (u2 (u2 iv 1 8 (iv 1 8)) 8 3 n42) 8 4 n43) 8 5 n4) lv (u2 (u2 (u2 (u2 fa 1 2 (fa 1 2)) 1 3 (fa 1 3)) 1 4 (fa 1 4)) 1 5 (fa 1 5)) la) H := hP
      have hD9 : va_D A (WX h g ca (u2 (u2 (u2 (u2 iv 1 8 (iv 1 8)) 8 3 n42) 8 4 n43) 8 5 n4) lv (u2 (u2 (u2 (u2 fa 1 2 (fa 1 2)) 1 3 (fa 1 3)) 1 4 (fa 1 4)) 1 5 (fa 1 5)) la) := hD
      exact W.zret (v := r41) hx hb hr (nar01 ⟨by omega, by omega⟩) (fun t ht9 hW => ⟨⟨r41, ((u2 (u2 (u2 (u2 iv 1 8 (iv 1 8)) 8 3 n42) 8 4 n43) 8 5 n4), lv, (u2 (u2 (u2 (u2 fa 1 2 (fa 1 2)) 1 3 (fa 1 3)) 1 4 (fa 1 4)) 1 5 (fa 1 5)), la), rfl, ⟨(fa 1 2), (fa 1 3), (fa 1 4), (fa 1 5), (iv 1 8), n42, n43, n4, (hI.1 1 8), (show inb ((-1), 200) n42 from ⟨by omega, by omega⟩), (show inb (0, 5) n43 from ⟨by omega, by omega⟩), (show inb (0, 200) n4 from ⟨by omega, by omega⟩), ⟨by omega, by omega⟩, rfl⟩, by rw [ht9]; exact hP9, hD9⟩, hS.F ht9⟩) hS.2.2 dX8_readClause_37
  · have fc5 := z_eq (rfl : (r1).toInt = _) (by decide : ((-1) : Int32).toInt = (-1)) c5
    refine lv_iconst (v := 0) hx hb dX8_readClause_17 (by decide) ?_
    have hP9 : va_P (dC, dI) classes (WX h g ca (u2 (u2 (u2 (u2 iv 1 8 (iv 1 8)) 8 3 n2) 8 4 n3) 8 5 n4) lv (u2 (u2 (u2 (u2 fa 1 2 (fa 1 2)) 1 3 (fa 1 3)) 1 4 (fa 1 4)) 1 5 (fa 1 5)) la) H := hP
    have hD9 : va_D A (WX h g ca (u2 (u2 (u2 (u2 iv 1 8 (iv 1 8)) 8 3 n2) 8 4 n3) 8 5 n4) lv (u2 (u2 (u2 (u2 fa 1 2 (fa 1 2)) 1 3 (fa 1 3)) 1 4 (fa 1 4)) 1 5 (fa 1 5)) la) := hD
    exact W.zret (v := 0) hx hb hr rfl (fun t ht9 hW => ⟨⟨0, ((u2 (u2 (u2 (u2 iv 1 8 (iv 1 8)) 8 3 n2) 8 4 n3) 8 5 n4), lv, (u2 (u2 (u2 (u2 fa 1 2 (fa 1 2)) 1 3 (fa 1 3)) 1 4 (fa 1 4)) 1 5 (fa 1 5)), la), rfl, ⟨(fa 1 2), (fa 1 3), (fa 1 4), (fa 1 5), (iv 1 8), n2, n3, n4, (hI.1 1 8), (show inb ((-1), 200) n2 from ⟨by omega, by omega⟩), (show inb (0, 5) n3 from ⟨by omega, by omega⟩), (show inb (0, 200) n4 from ⟨by omega, by omega⟩), ⟨by decide, by decide⟩, rfl⟩, by rw [ht9]; exact hP9, hD9⟩, hS.F ht9⟩) hS.2.2 dX8_readClause_18
set_option maxHeartbeats 4000000 in
set_option maxRecDepth 100000 in
/-- X8_read -/
theorem c_X8_read (l : Launch) (dC : Nat → ClassId) (dI : Nat → Nat → Nat) (sz : Nat) (ak av : Nat → Nat) (h : Nat) (g : Nat → Nat → Nat) (ca : Nat → Nat → ClassId) (iv : Nat → Nat → Int32) (lv : Nat → Nat → Int64) (fa : Nat → Nat → Nat → Int32) (la : Nat → Nat → Nat → Int64) (hI : IX iv fa) : Met l yX8_read (wc yX8_read cX8_read 3 (some .int)) ({ frames := 8, cells := 0, slots := 0, locals := 179 } : Room) (pWZ ak av (dC, dI) classes (WX h g ca iv lv fa la) (TX ca) sz [.ref (g 11 4)]) (va_Qi (fun r (u : SS) => ∃ (na_1_2 : Nat → Int32) (na_1_3 : Nat → Int32) (na_1_4 : Nat → Int32) (na_1_5 : Nat → Int32) (ni_1_8 : Int32) (ni_8_2 : Int32) (ni_8_3 : Int32) (ni_8_4 : Int32) (ni_8_5 : Int32), inb (bI 1 8) ni_1_8 ∧ inb (bI 8 2) ni_8_2 ∧ inb (bI 8 3) ni_8_3 ∧ inb (bI 8 4) ni_8_4 ∧ inb (bI 8 5) ni_8_5 ∧ (0 ≤ r.toInt ∧ r.toInt ≤ 5) ∧ u = ((u2 (u2 (u2 (u2 (u2 iv 1 8 ni_1_8) 8 2 ni_8_2) 8 3 ni_8_3) 8 4 ni_8_4) 8 5 ni_8_5), lv, (u2 (u2 (u2 (u2 fa 1 2 na_1_2) 1 3 na_1_3) 1 4 na_1_4) 1 5 na_1_5), la)) (bX (dC, dI) h g ca (va_A (WX h g ca iv lv fa la) sz)) (va_A (WX h g ca iv lv fa la) sz)) 0 0 (va_A (WX h g ca iv lv fa la) sz) := by
  refine Met.ofW (cc := cX8_read) (maxL := 3) (ret := (some .int)) (by decide) rfl ?_
  intro p e s m args below meth c s₁ B hml hv
  obtain ⟨rfl, hsz, hP, hK, hD0, hZ⟩ := hv
  have hx := B.exec
  have hb := B.bytes
  have hr := B.returns
  have ht := tb_tl (atoms_spec (ws := wc yX8_read cX8_read 3 (some .int)) B.pre)
  have hown : s.vm.findClass RX8 = some m.cls := findClass_of_methodNamed B.named
  have hlocks := B.notSynchronized
  subst hsz
  have hD := hD0.self (sz := s.heap.size)
  generalize hAe : va_A (WX h g ca iv lv fa la) s.heap.size = A at hD hZ ⊢
  have hA : ∀ q : Nat, s.heap.size ≤ q → A q := fun q h => by rw [← hAe]; exact Or.inr h
  have hS : va_S A s.heap s.heap [] := va_S.rf
  have hl := lv_entry [.ref (g 11 4)] (n := 3) (Nat.le_of_ble_eq_true rfl)
  rw [lg_entry_eq]
  generalize (lg_sl [.ref (g 11 4)] ++ List.replicate (3 - (lg_sl [.ref (g 11 4)]).length) Slot.unset).toArray = ls at hl ⊢
  have hl : lv_has ls 3 [(0, .ref (g 11 4))] := hl
  refine lv_aload_n hx hb dX8_read_0 rfl (lv_at hl 0 rfl) ?_
  refine lv_iconst (v := 0) hx hb dX8_read_1 (by decide) ?_
  refine pX_8_5 (v := 0) hx hb ht hown hK hP hD hS m_235 dX8_read_2 (fun H locs hP hD hS => ?_)
  refine lv_aload_n hx hb dX8_read_5 rfl (lv_at hl 0 rfl) ?_
  refine lv_iconst (v := 0) hx hb dX8_read_6 (by decide) ?_
  refine pX_8_4 (v := 0) hx hb ht hown hK hP hD hS m_234 dX8_read_7 (fun H locs hP hD hS => ?_)
  refine lv_aload_n hx hb dX8_read_10 rfl (lv_at hl 0 rfl) ?_
  refine lv_iconst (v := (-1)) hx hb dX8_read_11 (by decide) ?_
  refine pX_8_3 (v := (-1)) hx hb ht hown hK hP hD hS m_232 dX8_read_12 (fun H locs hP hD hS => ?_)
  refine lv_aload_n hx hb dX8_read_15 rfl (lv_at hl 0 rfl) ?_
  refine gX_8_0 hx hb ht hown hK hP m_228 dX8_read_16 ?_
  have hFc := free_all hD hS hA
  refine va_callv (va_runV (As := []) (rest := []) ⟨hx, hb, hml, hown, ht⟩ (c_X1_startDraft l dC dI H.size h g ca (u2 (u2 (u2 iv 8 5 0) 8 4 0) 8 3 (-1)) lv fa la (IX_i (c := 8) (k := 3) (IX_i (c := 8) (k := 4) (IX_i (c := 8) (k := 5) hI (show inb (0, 200) 0 from ⟨by decide, by decide⟩)) (show inb (0, 5) 0 from ⟨by decide, by decide⟩)) (show inb ((-1), 200) (-1) from ⟨by decide, by decide⟩))) (kV 0 ht m_684 m_685 m_686 m_81 m_687 rfl rfl hd_X1_startDraft_v ⟨Nat.le_of_ble_eq_true rfl, Nat.le_of_ble_eq_true rfl⟩) (vW hP hK hD (rX_1 hK hP)) rfl rfl hl.1 rfl (lv_room (Nat.le_of_ble_eq_true rfl)) dX8_read_19 ⟨Nat.le_of_ble_eq_true rfl, Nat.le_of_ble_eq_true rfl⟩) hS (fun q _ h => hFc q h) hFc (fun u t H1 locs ht9 hvm hr1 hB hz1 hk1 hS => ?_)
  obtain ⟨n2, hn2, rfl⟩ := hr1
  have hn2 : 0 ≤ n2.toInt ∧ n2.toInt ≤ 12 := hn2
  obtain ⟨hP, hD⟩ := hB
  rw [ht9] at hP
  generalize H1 = H at hP hS ⊢
  have hP : va_P (dC, dI) classes (WX h g ca (u2 (u2 (u2 (u2 iv 8 5 0) 8 4 0) 8 3 (-1)) 1 8 n2) lv fa la) H := hP
  have hD : va_D A (WX h g ca (u2 (u2 (u2 (u2 iv 8 5 0) 8 4 0) 8 3 (-1)) 1 8 n2) lv fa la) := (show va_D _ (WX h g ca (u2 (u2 (u2 (u2 iv 8 5 0) 8 4 0) 8 3 (-1)) 1 8 n2) lv fa la) from hD).weaken (fun _ _ _ h => hFc _ h)
  refine lv_aload_n hx hb dX8_read_22 rfl (lv_at hl 0 rfl) ?_
  have hFc := free_all hD hS hA
  refine va_calli (va_runV (As := []) (rest := []) ⟨hx, hb, hml, hown, ht⟩ (c_X8_skipBlanks_x l dC dI H.size h g ca (u2 (u2 (u2 (u2 iv 8 5 0) 8 4 0) 8 3 (-1)) 1 8 n2) lv fa la (IX_i (c := 1) (k := 8) (IX_i (c := 8) (k := 3) (IX_i (c := 8) (k := 4) (IX_i (c := 8) (k := 5) hI (show inb (0, 200) 0 from ⟨by decide, by decide⟩)) (show inb (0, 5) 0 from ⟨by decide, by decide⟩)) (show inb ((-1), 200) (-1) from ⟨by decide, by decide⟩)) (show inb (0, 12) n2 from ⟨by omega, by omega⟩))) (kV 0 ht m_688 m_690 m_16 m_82 m_691 rfl rfl hd_X8_skipBlanks_v ⟨Nat.le_of_ble_eq_true rfl, Nat.le_of_ble_eq_true rfl⟩) (vW hP hK hD (rX_8 hK hP)) rfl rfl hl.1 rfl (lv_room (Nat.le_of_ble_eq_true rfl)) dX8_read_23 ⟨Nat.le_of_ble_eq_true rfl, Nat.le_of_ble_eq_true rfl⟩) hS (fun q _ h => hFc q h) hFc (fun r3 u t H1 locs ht9 hvm hr3 hB hz1 hk1 hS => ?_)
  obtain ⟨n4, hn4, xr3_0, hr3, rfl⟩ := hr3
  have hn4 : 0 ≤ n4.toInt ∧ n4.toInt ≤ 200 := hn4
  obtain ⟨hP, hD⟩ := hB
  rw [ht9] at hP
  generalize H1 = H at hP hS ⊢
  have hP : va_P (dC, dI) classes (WX h g ca (u2 (u2 (u2 (u2 iv 8 5 n4) 8 4 0) 8 3 (-1)) 1 8 n2) lv fa la) H := hP
  have hD : va_D A (WX h g ca (u2 (u2 (u2 (u2 iv 8 5 n4) 8 4 0) 8 3 (-1)) 1 8 n2) lv fa la) := (show va_D _ (WX h g ca (u2 (u2 (u2 (u2 iv 8 5 n4) 8 4 0) 8 3 (-1)) 1 8 n2) lv fa la) from hD).weaken (fun _ _ _ h => hFc _ h)
  have i_8_2 : 0 ≤ (iv 8 2).toInt ∧ (iv 8 2).toInt ≤ 200 := hI.1 8 2
  have xr3_0 : ((r3 : Int32).toInt = 0 ∨ (n4 : Int32).toInt + 1 ≤ ((iv 8 2) : Int32).toInt) := xr3_0
  refine lv_istore_n (lv' := [(1, .int r3), (0, .ref (g 11 4))]) hx hb dX8_read_26 rfl hl (by decide) rfl (fun ls hl => ?_)
  refine lv_iconst (v := 0) hx hb dX8_read_27 (by decide) ?_
  refine lv_istore_n (lv' := [(2, .int 0), (1, .int r3), (0, .ref (g 11 4))]) hx hb dX8_read_28 rfl hl (by decide) rfl (fun ls hl => ?_)
  have lp272 : ∀ (nn272 : Nat) (x271_2 : Int32) (x271_1 : Int32) (w271_i_8_5 : Int32) (w271_i_8_4 : Int32) (w271_i_8_3 : Int32) (w271_i_1_8 : Int32) (w271_a_1_2 : Nat → Int32) (w271_a_1_3 : Nat → Int32) (w271_a_1_4 : Nat → Int32) (w271_a_1_5 : Nat → Int32), 0 ≤ x271_2.toInt ∧ x271_2.toInt ≤ 13 → 0 ≤ x271_1.toInt ∧ x271_1.toInt ≤ 1 → 0 ≤ w271_i_8_5.toInt ∧ w271_i_8_5.toInt ≤ 200 → 0 ≤ w271_i_8_4.toInt ∧ w271_i_8_4.toInt ≤ 5 → (-1) ≤ w271_i_8_3.toInt ∧ w271_i_8_3.toInt ≤ 200 → 0 ≤ w271_i_1_8.toInt ∧ w271_i_1_8.toInt ≤ 12 → (∀ j, inb (bA 1 2 j) (w271_a_1_2 j)) → (∀ j, inb (bA 1 3 j) (w271_a_1_3 j)) → (∀ j, inb (bA 1 4 j) (w271_a_1_4 j)) → (∀ j, inb (bA 1 5 j) (w271_a_1_5 j)) → 13 - x271_2.toInt < (nn272 : Int) → ∀ (H : Heap) (locs : List Loc), ∀ (ls : Array Slot), va_P (dC, dI) classes (WX h g ca (u2 (u2 (u2 (u2 iv 8 5 w271_i_8_5) 8 4 w271_i_8_4) 8 3 w271_i_8_3) 1 8 w271_i_1_8) lv (u2 (u2 (u2 (u2 fa 1 2 w271_a_1_2) 1 3 w271_a_1_3) 1 4 w271_a_1_4) 1 5 w271_a_1_5) la) H → va_D A (WX h g ca (u2 (u2 (u2 (u2 iv 8 5 w271_i_8_5) 8 4 w271_i_8_4) 8 3 w271_i_8_3) 1 8 w271_i_1_8) lv (u2 (u2 (u2 (u2 fa 1 2 w271_a_1_2) 1 3 w271_a_1_3) 1 4 w271_a_1_4) 1 5 w271_a_1_5) la) → va_S A s.heap H locs → lv_has ls 3 [(2, .int x271_2), (1, .int x271_1), (0, .ref (g 11 4))] → W p l e ({ frames := 8, cells := 0, slots := 0, locals := 179 } : Room) s m ([.ref (g 11 4)] : List Value).toArray below meth c H locs 0 0 (MQ below (va_Qi (fun r (u : SS) => ∃ (na_1_2 : Nat → Int32) (na_1_3 : Nat → Int32) (na_1_4 : Nat → Int32) (na_1_5 : Nat → Int32) (ni_1_8 : Int32) (ni_8_2 : Int32) (ni_8_3 : Int32) (ni_8_4 : Int32) (ni_8_5 : Int32), inb (bI 1 8) ni_1_8 ∧ inb (bI 8 2) ni_8_2 ∧ inb (bI 8 3) ni_8_3 ∧ inb (bI 8 4) ni_8_4 ∧ inb (bI 8 5) ni_8_5 ∧ (0 ≤ r.toInt ∧ r.toInt ≤ 5) ∧ u = ((u2 (u2 (u2 (u2 (u2 iv 1 8 ni_1_8) 8 2 ni_8_2) 8 3 ni_8_3) 8 4 ni_8_4) 8 5 ni_8_5), lv, (u2 (u2 (u2 (u2 fa 1 2 na_1_2) 1 3 na_1_3) 1 4 na_1_4) 1 5 na_1_5), la)) (bX (dC, dI) h g ca A) A) ([.ref (g 11 4)] : List Value).toArray s 0 0 A) (F0 m 29 ls []) := by
    intro nn272
    induction nn272 with
    | zero => intro x271_2 x271_1 w271_i_8_5 w271_i_8_4 w271_i_8_3 w271_i_1_8 w271_a_1_2 w271_a_1_3 w271_a_1_4 w271_a_1_5 hx271_2 hx271_1 hw271_i_8_5 hw271_i_8_4 hw271_i_8_3 hw271_i_1_8 hw271_a_1_2 hw271_a_1_3 hw271_a_1_4 hw271_a_1_5 hm272; exfalso; omega
    | succ nn272 ih272 =>
      intro x271_2 x271_1 w271_i_8_5 w271_i_8_4 w271_i_8_3 w271_i_1_8 w271_a_1_2 w271_a_1_3 w271_a_1_4 w271_a_1_5 hx271_2 hx271_1 hw271_i_8_5 hw271_i_8_4 hw271_i_8_3 hw271_i_1_8 hw271_a_1_2 hw271_a_1_3 hw271_a_1_4 hw271_a_1_5 hm272 H locs ls hP hD hS hl
      refine lv_iload_n hx hb dX8_read_29 rfl (lv_at hl 1 rfl) ?_
      refine lv_if_eq (tgt := 65) hx hb dX8_read_30 (by decide) (fun c273 => ?_) (fun c273 => ?_)
      · have fc273 := z_eq (rfl : (x271_1).toInt = _) (by decide : (0 : Int32).toInt = 0) c273
        refine lv_aload_n hx hb dX8_read_65 rfl (lv_at hl 2 rfl) ?_
        refine lv_iconst (v := 0) hx hb dX8_read_66 (by decide) ?_
        refine pX_8_2 (v := 0) hx hb ht hown hK hP hD hS m_230 dX8_read_67 (fun H locs hP hD hS => ?_)
        refine lv_aload_n hx hb dX8_read_70 rfl (lv_at hl 2 rfl) ?_
        refine gX_8_4 hx hb ht hown hK hP m_234 (v := w271_i_8_4) rfl dX8_read_71 ?_
        have hP9 : va_P (dC, dI) classes (WX h g ca (u2 (u2 (u2 (u2 (u2 iv 1 8 w271_i_1_8) 8 2 0) 8 3 w271_i_8_3) 8 4 w271_i_8_4) 8 5 w271_i_8_5) lv (u2 (u2 (u2 (u2 fa 1 2 w271_a_1_2) 1 3 w271_a_1_3) 1 4 w271_a_1_4) 1 5 w271_a_1_5) la) H := hP
        have hD9 : va_D A (WX h g ca (u2 (u2 (u2 (u2 (u2 iv 1 8 w271_i_1_8) 8 2 0) 8 3 w271_i_8_3) 8 4 w271_i_8_4) 8 5 w271_i_8_5) lv (u2 (u2 (u2 (u2 fa 1 2 w271_a_1_2) 1 3 w271_a_1_3) 1 4 w271_a_1_4) 1 5 w271_a_1_5) la) := hD
        exact W.iret (v := w271_i_8_4) hx hb hr (fun t ht9 hW => ⟨⟨w271_i_8_4, ((u2 (u2 (u2 (u2 (u2 iv 1 8 w271_i_1_8) 8 2 0) 8 3 w271_i_8_3) 8 4 w271_i_8_4) 8 5 w271_i_8_5), lv, (u2 (u2 (u2 (u2 fa 1 2 w271_a_1_2) 1 3 w271_a_1_3) 1 4 w271_a_1_4) 1 5 w271_a_1_5), la), rfl, ⟨w271_a_1_2, w271_a_1_3, w271_a_1_4, w271_a_1_5, w271_i_1_8, 0, w271_i_8_3, w271_i_8_4, w271_i_8_5, (show inb (0, 12) w271_i_1_8 from ⟨by omega, by omega⟩), (show inb (0, 200) 0 from ⟨by decide, by decide⟩), (show inb ((-1), 200) w271_i_8_3 from ⟨by omega, by omega⟩), (show inb (0, 5) w271_i_8_4 from ⟨by omega, by omega⟩), (show inb (0, 200) w271_i_8_5 from ⟨by omega, by omega⟩), ⟨by omega, by omega⟩, rfl⟩, by rw [ht9]; exact hP9, hD9⟩, hS.F ht9⟩) hS.2.2 dX8_read_74
      · have fc273 := z_ne (rfl : (x271_1).toInt = _) (by decide : (0 : Int32).toInt = 0) c273
        refine lv_iload_n hx hb dX8_read_33 rfl (lv_at hl 0 rfl) ?_
        refine lv_bipush (v := 12) hx hb dX8_read_34 (by decide) ?_
        refine lv_icmp_gt (tgt := 65) hx hb dX8_read_36 (by decide) (fun c274 => ?_) (fun c274 => ?_)
        · have fc274 := z_lt (by decide : (12 : Int32).toInt = 12) (rfl : (x271_2).toInt = _) c274
          refine lv_aload_n hx hb dX8_read_65 rfl (lv_at hl 2 rfl) ?_
          refine lv_iconst (v := 0) hx hb dX8_read_66 (by decide) ?_
          refine pX_8_2 (v := 0) hx hb ht hown hK hP hD hS m_230 dX8_read_67 (fun H locs hP hD hS => ?_)
          refine lv_aload_n hx hb dX8_read_70 rfl (lv_at hl 2 rfl) ?_
          refine gX_8_4 hx hb ht hown hK hP m_234 (v := w271_i_8_4) rfl dX8_read_71 ?_
          have hP9 : va_P (dC, dI) classes (WX h g ca (u2 (u2 (u2 (u2 (u2 iv 1 8 w271_i_1_8) 8 2 0) 8 3 w271_i_8_3) 8 4 w271_i_8_4) 8 5 w271_i_8_5) lv (u2 (u2 (u2 (u2 fa 1 2 w271_a_1_2) 1 3 w271_a_1_3) 1 4 w271_a_1_4) 1 5 w271_a_1_5) la) H := hP
          have hD9 : va_D A (WX h g ca (u2 (u2 (u2 (u2 (u2 iv 1 8 w271_i_1_8) 8 2 0) 8 3 w271_i_8_3) 8 4 w271_i_8_4) 8 5 w271_i_8_5) lv (u2 (u2 (u2 (u2 fa 1 2 w271_a_1_2) 1 3 w271_a_1_3) 1 4 w271_a_1_4) 1 5 w271_a_1_5) la) := hD
          exact W.iret (v := w271_i_8_4) hx hb hr (fun t ht9 hW => ⟨⟨w271_i_8_4, ((u2 (u2 (u2 (u2 (u2 iv 1 8 w271_i_1_8) 8 2 0) 8 3 w271_i_8_3) 8 4 w271_i_8_4) 8 5 w271_i_8_5), lv, (u2 (u2 (u2 (u2 fa 1 2 w271_a_1_2) 1 3 w271_a_1_3) 1 4 w271_a_1_4) 1 5 w271_a_1_5), la), rfl, ⟨w271_a_1_2, w271_a_1_3, w271_a_1_4, w271_a_1_5, w271_i_1_8, 0, w271_i_8_3, w271_i_8_4, w271_i_8_5, (show inb (0, 12) w271_i_1_8 from ⟨by omega, by omega⟩), (show inb (0, 200) 0 from ⟨by decide, by decide⟩), (show inb ((-1), 200) w271_i_8_3 from ⟨by omega, by omega⟩), (show inb (0, 5) w271_i_8_4 from ⟨by omega, by omega⟩), (show inb (0, 200) w271_i_8_5 from ⟨by omega, by omega⟩), ⟨by omega, by omega⟩, rfl⟩, by rw [ht9]; exact hP9, hD9⟩, hS.F ht9⟩) hS.2.2 dX8_read_74
        · have fc274 := z_nlt (by decide : (12 : Int32).toInt = 12) (rfl : (x271_2).toInt = _) c274
          refine lv_aload_n hx hb dX8_read_39 rfl (lv_at hl 2 rfl) ?_
          have hFc := free_all hD hS hA
          refine va_calli (va_runV (As := []) (rest := []) ⟨hx, hb, hml, hown, ht⟩ (c_X8_readClause l dC dI H.size ak av h g ca (u2 (u2 (u2 (u2 iv 8 5 w271_i_8_5) 8 4 w271_i_8_4) 8 3 w271_i_8_3) 1 8 w271_i_1_8) lv (u2 (u2 (u2 (u2 fa 1 2 w271_a_1_2) 1 3 w271_a_1_3) 1 4 w271_a_1_4) 1 5 w271_a_1_5) la (IX_a (c := 1) (k := 5) (IX_a (c := 1) (k := 4) (IX_a (c := 1) (k := 3) (IX_a (c := 1) (k := 2) (IX_i (c := 1) (k := 8) (IX_i (c := 8) (k := 3) (IX_i (c := 8) (k := 4) (IX_i (c := 8) (k := 5) hI (show inb (0, 200) w271_i_8_5 from ⟨by omega, by omega⟩)) (show inb (0, 5) w271_i_8_4 from ⟨by omega, by omega⟩)) (show inb ((-1), 200) w271_i_8_3 from ⟨by omega, by omega⟩)) (show inb (0, 12) w271_i_1_8 from ⟨by omega, by omega⟩)) hw271_a_1_2) hw271_a_1_3) hw271_a_1_4) hw271_a_1_5)) (kV 0 ht m_692 m_694 m_17 m_82 m_695 rfl rfl hd_X8_readClause_v ⟨Nat.le_of_ble_eq_true rfl, Nat.le_of_ble_eq_true rfl⟩) (vWZ hP hK hD ((hZ.kept hS.2.1).narrow (free_all hD hS hA)) (rX_8 hK hP)) rfl rfl hl.1 rfl (lv_room (Nat.le_of_ble_eq_true rfl)) dX8_read_40 ⟨Nat.le_of_ble_eq_true rfl, Nat.le_of_ble_eq_true rfl⟩) hS (fun q _ h => hFc q h) hFc (fun r275 u t H1 locs ht9 hvm hr275 hB hz1 hk1 hS => ?_)
          obtain ⟨n276, n277, n278, n279, n280, n281, n282, n283, hn280, hn281, hn282, hn283, hr275, rfl⟩ := hr275
          have hn276 : ∀ j, inb (bA 1 2 j) (n276 j) := fun j => full_i _
          have hn277 : ∀ j, inb (bA 1 3 j) (n277 j) := fun j => full_i _
          have hn278 : ∀ j, inb (bA 1 4 j) (n278 j) := fun j => full_i _
          have hn279 : ∀ j, inb (bA 1 5 j) (n279 j) := fun j => full_i _
          have hn280 : 0 ≤ n280.toInt ∧ n280.toInt ≤ 12 := hn280
          have hn281 : (-1) ≤ n281.toInt ∧ n281.toInt ≤ 200 := hn281
          have hn282 : 0 ≤ n282.toInt ∧ n282.toInt ≤ 5 := hn282
          have hn283 : 0 ≤ n283.toInt ∧ n283.toInt ≤ 200 := hn283
          obtain ⟨hP, hD⟩ := hB
          rw [ht9] at hP
          generalize H1 = H at hP hS ⊢
          have hP : va_P (dC, dI) classes (WX h g ca (u2 (u2 (u2 (u2 iv 8 5 n283) 8 4 n282) 8 3 n281) 1 8 n280) lv (u2 (u2 (u2 (u2 fa 1 2 n276) 1 3 n277) 1 4 n278) 1 5 n279) la) H := hP
          have hD : va_D A (WX h g ca (u2 (u2 (u2 (u2 iv 8 5 n283) 8 4 n282) 8 3 n281) 1 8 n280) lv (u2 (u2 (u2 (u2 fa 1 2 n276) 1 3 n277) 1 4 n278) 1 5 n279) la) := (show va_D _ (WX h g ca (u2 (u2 (u2 (u2 iv 8 5 n283) 8 4 n282) 8 3 n281) 1 8 n280) lv (u2 (u2 (u2 (u2 fa 1 2 n276) 1 3 n277) 1 4 n278) 1 5 n279) la) from hD).weaken (fun _ _ _ h => hFc _ h)
          refine lv_if_eq (tgt := 57) hx hb dX8_read_43 (by decide) (fun c284 => ?_) (fun c284 => ?_)
          · have fc284 := z_eq (rfl : (r275).toInt = _) (by decide : (0 : Int32).toInt = 0) c284
            refine lv_iconst (v := 0) hx hb dX8_read_57 (by decide) ?_
            refine lv_istore_n (lv' := [(1, .int 0), (2, .int x271_2), (0, .ref (g 11 4))]) hx hb dX8_read_58 rfl hl (by decide) rfl (fun ls hl => ?_)
            obtain ⟨v285, ev285⟩ : ∃ y : Int32, y = x271_2 + 1 := ⟨_, rfl⟩
            have tv285 := z_add ev285 rfl (by decide : (1 : Int32).toInt = 1) (by omega) (by omega)
            refine lv_iinc (v := v285) (lv' := [(2, .int v285), (1, .int 0), (0, .ref (g 11 4))]) hx hb dX8_read_59 hl (k := 1) rfl (by rw [ev285]; rfl) (by decide) rfl (fun ls hl => ?_)
            refine lv_goto (tgt := 29) hx hb dX8_read_62 (by decide) ?_
            exact ih272 v285 0 n283 n282 n281 n280 n276 n277 n278 n279 ⟨by omega, by omega⟩ ⟨by decide, by decide⟩ ⟨by omega, by omega⟩ ⟨by omega, by omega⟩ ⟨by omega, by omega⟩ ⟨by omega, by omega⟩ hn276 hn277 hn278 hn279 (by omega) _ _ ls hP hD hS (lv_sub hl [0, 1, 2] rfl)
          · have fc284 := z_ne (rfl : (r275).toInt = _) (by decide : (0 : Int32).toInt = 0) c284
            refine lv_aload_n hx hb dX8_read_46 rfl (lv_at hl 2 rfl) ?_
            have hFc := free_all hD hS hA
            refine va_calli (va_runV (As := []) (rest := []) ⟨hx, hb, hml, hown, ht⟩ (c_X8_skipBlanks_x l dC dI H.size h g ca (u2 (u2 (u2 (u2 iv 8 5 n283) 8 4 n282) 8 3 n281) 1 8 n280) lv (u2 (u2 (u2 (u2 fa 1 2 n276) 1 3 n277) 1 4 n278) 1 5 n279) la (IX_a (c := 1) (k := 5) (IX_a (c := 1) (k := 4) (IX_a (c := 1) (k := 3) (IX_a (c := 1) (k := 2) (IX_i (c := 1) (k := 8) (IX_i (c := 8) (k := 3) (IX_i (c := 8) (k := 4) (IX_i (c := 8) (k := 5) hI (show inb (0, 200) n283 from ⟨by omega, by omega⟩)) (show inb (0, 5) n282 from ⟨by omega, by omega⟩)) (show inb ((-1), 200) n281 from ⟨by omega, by omega⟩)) (show inb (0, 12) n280 from ⟨by omega, by omega⟩)) hn276) hn277) hn278) hn279)) (kV 0 ht m_688 m_690 m_16 m_82 m_691 rfl rfl hd_X8_skipBlanks_v ⟨Nat.le_of_ble_eq_true rfl, Nat.le_of_ble_eq_true rfl⟩) (vW hP hK hD (rX_8 hK hP)) rfl rfl hl.1 rfl (lv_room (Nat.le_of_ble_eq_true rfl)) dX8_read_47 ⟨Nat.le_of_ble_eq_true rfl, Nat.le_of_ble_eq_true rfl⟩) hS (fun q _ h => hFc q h) hFc (fun r286 u t H1 locs ht9 hvm hr286 hB hz1 hk1 hS => ?_)
            obtain ⟨n287, hn287, xr286_0, hr286, rfl⟩ := hr286
            have hn287 : 0 ≤ n287.toInt ∧ n287.toInt ≤ 200 := hn287
            obtain ⟨hP, hD⟩ := hB
            rw [ht9] at hP
            generalize H1 = H at hP hS ⊢
            have hP : va_P (dC, dI) classes (WX h g ca (u2 (u2 (u2 (u2 iv 8 5 n287) 8 4 n282) 8 3 n281) 1 8 n280) lv (u2 (u2 (u2 (u2 fa 1 2 n276) 1 3 n277) 1 4 n278) 1 5 n279) la) H := hP
            have hD : va_D A (WX h g ca (u2 (u2 (u2 (u2 iv 8 5 n287) 8 4 n282) 8 3 n281) 1 8 n280) lv (u2 (u2 (u2 (u2 fa 1 2 n276) 1 3 n277) 1 4 n278) 1 5 n279) la) := (show va_D _ (WX h g ca (u2 (u2 (u2 (u2 iv 8 5 n287) 8 4 n282) 8 3 n281) 1 8 n280) lv (u2 (u2 (u2 (u2 fa 1 2 n276) 1 3 n277) 1 4 n278) 1 5 n279) la) from hD).weaken (fun _ _ _ h => hFc _ h)
            have xr286_0 : ((r286 : Int32).toInt = 0 ∨ (n287 : Int32).toInt + 1 ≤ ((iv 8 2) : Int32).toInt) := xr286_0
            refine lv_if_eq (tgt := 57) hx hb dX8_read_50 (by decide) (fun c288 => ?_) (fun c288 => ?_)
            · have fc288 := z_eq (rfl : (r286).toInt = _) (by decide : (0 : Int32).toInt = 0) c288
              refine lv_iconst (v := 0) hx hb dX8_read_57 (by decide) ?_
              refine lv_istore_n (lv' := [(1, .int 0), (2, .int x271_2), (0, .ref (g 11 4))]) hx hb dX8_read_58 rfl hl (by decide) rfl (fun ls hl => ?_)
              obtain ⟨v289, ev289⟩ : ∃ y : Int32, y = x271_2 + 1 := ⟨_, rfl⟩
              have tv289 := z_add ev289 rfl (by decide : (1 : Int32).toInt = 1) (by omega) (by omega)
              refine lv_iinc (v := v289) (lv' := [(2, .int v289), (1, .int 0), (0, .ref (g 11 4))]) hx hb dX8_read_59 hl (k := 1) rfl (by rw [ev289]; rfl) (by decide) rfl (fun ls hl => ?_)
              refine lv_goto (tgt := 29) hx hb dX8_read_62 (by decide) ?_
              exact ih272 v289 0 n287 n282 n281 n280 n276 n277 n278 n279 ⟨by omega, by omega⟩ ⟨by decide, by decide⟩ ⟨by omega, by omega⟩ ⟨by omega, by omega⟩ ⟨by omega, by omega⟩ ⟨by omega, by omega⟩ hn276 hn277 hn278 hn279 (by omega) _ _ ls hP hD hS (lv_sub hl [0, 1, 2] rfl)
            · have fc288 := z_ne (rfl : (r286).toInt = _) (by decide : (0 : Int32).toInt = 0) c288
              refine lv_iconst (v := 1) hx hb dX8_read_53 (by decide) ?_
              refine lv_goto (tgt := 58) hx hb dX8_read_54 (by decide) ?_
              refine lv_istore_n (lv' := [(1, .int 1), (2, .int x271_2), (0, .ref (g 11 4))]) hx hb dX8_read_58 rfl hl (by decide) rfl (fun ls hl => ?_)
              obtain ⟨v290, ev290⟩ : ∃ y : Int32, y = x271_2 + 1 := ⟨_, rfl⟩
              have tv290 := z_add ev290 rfl (by decide : (1 : Int32).toInt = 1) (by omega) (by omega)
              refine lv_iinc (v := v290) (lv' := [(2, .int v290), (1, .int 1), (0, .ref (g 11 4))]) hx hb dX8_read_59 hl (k := 1) rfl (by rw [ev290]; rfl) (by decide) rfl (fun ls hl => ?_)
              refine lv_goto (tgt := 29) hx hb dX8_read_62 (by decide) ?_
              exact ih272 v290 1 n287 n282 n281 n280 n276 n277 n278 n279 ⟨by omega, by omega⟩ ⟨by decide, by decide⟩ ⟨by omega, by omega⟩ ⟨by omega, by omega⟩ ⟨by omega, by omega⟩ ⟨by omega, by omega⟩ hn276 hn277 hn278 hn279 (by omega) _ _ ls hP hD hS (lv_sub hl [0, 1, 2] rfl)
  exact lp272 14 0 r3 n4 0 (-1) n2 (fa 1 2) (fa 1 3) (fa 1 4) (fa 1 5) ⟨by decide, by decide⟩ ⟨by omega, by omega⟩ ⟨by omega, by omega⟩ ⟨by decide, by decide⟩ ⟨by decide, by decide⟩ ⟨by omega, by omega⟩ (hI.2 1 2) (hI.2 1 3) (hI.2 1 4) (hI.2 1 5) (by first | decide | omega) _ _ ls hP hD hS (lv_sub hl [0, 1, 2] rfl)
