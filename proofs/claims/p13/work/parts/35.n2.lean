/-! ===== n2 ===== -/
set_option maxRecDepth 100000 in
theorem m_49 : Cond.selects RX12 yX12_isWord yX12_isWord ∈ tb := tb_in 49 (by decide +kernel) rfl
set_option maxRecDepth 100000 in
theorem m_50 : Cond.selects RX12 yX12_want yX12_want ∈ tb := tb_in 50 (by decide +kernel) rfl
theorem m_1177 : Cond.fieldLink RX12 271 "SilkHouseModel" "letters" "I" ∈ tb := mb_5_5 _ (List.mem_of_getElem? (i := 18) rfl)
theorem m_1466 : Cond.constantLong RX12 267 (97) ∈ tb := mb_6_3 _ (List.mem_of_getElem? (i := 22) rfl)
theorem m_1467 : Cond.constantLong RX12 269 (122) ∈ tb := mb_6_3 _ (List.mem_of_getElem? (i := 23) rfl)
theorem m_1468 : Cond.methodLink RX12 282 yX12_isWord ∈ tb := mb_6_4 _ (List.mem_of_getElem? (i := 0) rfl)
theorem m_1470 : Cond.instanceMethod yX12_isWord ∈ tb := mb_6_4 _ (List.mem_of_getElem? (i := 1) rfl)
theorem m_1471 : Cond.code yX12_isWord cX12_isWord 10 (some .boolean) ∈ tb := mb_6_4 _ (List.mem_of_getElem? (i := 2) rfl)
theorem m_1472 : Cond.methodLink RX12 278 yX12_want ∈ tb := mb_6_4 _ (List.mem_of_getElem? (i := 3) rfl)
theorem m_1474 : Cond.instanceMethod yX12_want ∈ tb := mb_6_4 _ (List.mem_of_getElem? (i := 4) rfl)
theorem m_1475 : Cond.code yX12_want cX12_want 4 (some .boolean) ∈ tb := mb_6_4 _ (List.mem_of_getElem? (i := 5) rfl)
theorem m_1494 : Cond.constantLong RX12 274 (48) ∈ tb := mb_6_4 _ (List.mem_of_getElem? (i := 21) rfl)
theorem m_1495 : Cond.constantLong RX12 276 (57) ∈ tb := mb_6_4 _ (List.mem_of_getElem? (i := 22) rfl)
theorem hd_X12_isWord_v : yX12_isWord.cls = RX12 ∧ yX12_isWord.cls ≠ "java/lang/invoke/MethodHandle" ∧ yX12_isWord.cls ≠ "java/lang/invoke/VarHandle" ∧ (parseMethodDescriptor yX12_isWord.desc).map (fun d => d.parameters.length) = some 7 := by decide +kernel
theorem hd_X12_want_v : yX12_want.cls = RX12 ∧ yX12_want.cls ≠ "java/lang/invoke/MethodHandle" ∧ yX12_want.cls ≠ "java/lang/invoke/VarHandle" ∧ (parseMethodDescriptor yX12_want.desc).map (fun d => d.parameters.length) = some 3 := by decide +kernel
set_option maxRecDepth 100000 in
theorem dvX12_feed_12 : ([(12, .ldc 178, 2), (14, .ireturn, 1), (27, .ldc 182, 2), (29, .ireturn, 1), (61, .aload_n 0, 1), (62, .dup, 1), (63, .getfield 249, 3), (66, .iconst 1, 1), (67, .iadd, 1), (68, .putfield 249, 3), (71, .iinc 4 (-1), 3), (74, .goto (-39), 3), (77, .aload_n 0, 1), (78, .getfield 249, 3), (81, .ireturn, 1)] : List (Nat × Instr × Nat)).all (fun q => decide (decode cX12_feed q.1 = .ok (q.2.1, q.2.2))) = true := by decide +kernel
theorem dX12_feed_12 : decode cX12_feed 12 = .ok (.ldc 178, 2) := all_at dvX12_feed_12 0 rfl
theorem dX12_feed_14 : decode cX12_feed 14 = .ok (.ireturn, 1) := all_at dvX12_feed_12 1 rfl
theorem dX12_feed_27 : decode cX12_feed 27 = .ok (.ldc 182, 2) := all_at dvX12_feed_12 2 rfl
theorem dX12_feed_29 : decode cX12_feed 29 = .ok (.ireturn, 1) := all_at dvX12_feed_12 3 rfl
theorem dX12_feed_61 : decode cX12_feed 61 = .ok (.aload_n 0, 1) := all_at dvX12_feed_12 4 rfl
theorem dX12_feed_62 : decode cX12_feed 62 = .ok (.dup, 1) := all_at dvX12_feed_12 5 rfl
theorem dX12_feed_63 : decode cX12_feed 63 = .ok (.getfield 249, 3) := all_at dvX12_feed_12 6 rfl
theorem dX12_feed_66 : decode cX12_feed 66 = .ok (.iconst 1, 1) := all_at dvX12_feed_12 7 rfl
theorem dX12_feed_67 : decode cX12_feed 67 = .ok (.iadd, 1) := all_at dvX12_feed_12 8 rfl
theorem dX12_feed_68 : decode cX12_feed 68 = .ok (.putfield 249, 3) := all_at dvX12_feed_12 9 rfl
theorem dX12_feed_71 : decode cX12_feed 71 = .ok (.iinc 4 (-1), 3) := all_at dvX12_feed_12 10 rfl
theorem dX12_feed_74 : decode cX12_feed 74 = .ok (.goto (-39), 3) := all_at dvX12_feed_12 11 rfl
theorem dX12_feed_77 : decode cX12_feed 77 = .ok (.aload_n 0, 1) := all_at dvX12_feed_12 12 rfl
theorem dX12_feed_78 : decode cX12_feed 78 = .ok (.getfield 249, 3) := all_at dvX12_feed_12 13 rfl
theorem dX12_feed_81 : decode cX12_feed 81 = .ok (.ireturn, 1) := all_at dvX12_feed_12 14 rfl
set_option maxRecDepth 100000 in
theorem dvX12_isWord_0 : ([(0, .aload_n 0, 1), (1, .getfield 271, 3), (4, .iload_n 1, 1), (5, .if_icmp .ne 7, 3), (8, .iconst 1, 1), (9, .goto 4, 3), (12, .iconst 0, 1), (13, .istore 8, 2), (15, .iconst 0, 1), (16, .istore 9, 2), (18, .iload 9, 2), (20, .iload_n 1, 1), (21, .if_icmp .ge 90, 3), (24, .iload 8, 2), (26, .ifCond .eq 85, 3), (29, .aload_n 0, 1), (30, .getfield 83, 3), (33, .aload_n 0, 1), (34, .getfield 264, 3), (37, .iload 9, 2), (39, .iadd, 1), (40, .iaload, 1), (41, .iload 9, 2), (43, .ifCond .ne 7, 3)] : List (Nat × Instr × Nat)).all (fun q => decide (decode cX12_isWord q.1 = .ok (q.2.1, q.2.2))) = true := by decide +kernel
theorem dX12_isWord_0 : decode cX12_isWord 0 = .ok (.aload_n 0, 1) := all_at dvX12_isWord_0 0 rfl
theorem dX12_isWord_1 : decode cX12_isWord 1 = .ok (.getfield 271, 3) := all_at dvX12_isWord_0 1 rfl
theorem dX12_isWord_4 : decode cX12_isWord 4 = .ok (.iload_n 1, 1) := all_at dvX12_isWord_0 2 rfl
theorem dX12_isWord_5 : decode cX12_isWord 5 = .ok (.if_icmp .ne 7, 3) := all_at dvX12_isWord_0 3 rfl
theorem dX12_isWord_8 : decode cX12_isWord 8 = .ok (.iconst 1, 1) := all_at dvX12_isWord_0 4 rfl
theorem dX12_isWord_9 : decode cX12_isWord 9 = .ok (.goto 4, 3) := all_at dvX12_isWord_0 5 rfl
theorem dX12_isWord_12 : decode cX12_isWord 12 = .ok (.iconst 0, 1) := all_at dvX12_isWord_0 6 rfl
theorem dX12_isWord_13 : decode cX12_isWord 13 = .ok (.istore 8, 2) := all_at dvX12_isWord_0 7 rfl
theorem dX12_isWord_15 : decode cX12_isWord 15 = .ok (.iconst 0, 1) := all_at dvX12_isWord_0 8 rfl
theorem dX12_isWord_16 : decode cX12_isWord 16 = .ok (.istore 9, 2) := all_at dvX12_isWord_0 9 rfl
theorem dX12_isWord_18 : decode cX12_isWord 18 = .ok (.iload 9, 2) := all_at dvX12_isWord_0 10 rfl
theorem dX12_isWord_20 : decode cX12_isWord 20 = .ok (.iload_n 1, 1) := all_at dvX12_isWord_0 11 rfl
theorem dX12_isWord_21 : decode cX12_isWord 21 = .ok (.if_icmp .ge 90, 3) := all_at dvX12_isWord_0 12 rfl
theorem dX12_isWord_24 : decode cX12_isWord 24 = .ok (.iload 8, 2) := all_at dvX12_isWord_0 13 rfl
theorem dX12_isWord_26 : decode cX12_isWord 26 = .ok (.ifCond .eq 85, 3) := all_at dvX12_isWord_0 14 rfl
theorem dX12_isWord_29 : decode cX12_isWord 29 = .ok (.aload_n 0, 1) := all_at dvX12_isWord_0 15 rfl
theorem dX12_isWord_30 : decode cX12_isWord 30 = .ok (.getfield 83, 3) := all_at dvX12_isWord_0 16 rfl
theorem dX12_isWord_33 : decode cX12_isWord 33 = .ok (.aload_n 0, 1) := all_at dvX12_isWord_0 17 rfl
theorem dX12_isWord_34 : decode cX12_isWord 34 = .ok (.getfield 264, 3) := all_at dvX12_isWord_0 18 rfl
theorem dX12_isWord_37 : decode cX12_isWord 37 = .ok (.iload 9, 2) := all_at dvX12_isWord_0 19 rfl
theorem dX12_isWord_39 : decode cX12_isWord 39 = .ok (.iadd, 1) := all_at dvX12_isWord_0 20 rfl
theorem dX12_isWord_40 : decode cX12_isWord 40 = .ok (.iaload, 1) := all_at dvX12_isWord_0 21 rfl
theorem dX12_isWord_41 : decode cX12_isWord 41 = .ok (.iload 9, 2) := all_at dvX12_isWord_0 22 rfl
theorem dX12_isWord_43 : decode cX12_isWord 43 = .ok (.ifCond .ne 7, 3) := all_at dvX12_isWord_0 23 rfl
set_option maxRecDepth 100000 in
theorem dvX12_isWord_46 : ([(46, .iload_n 2, 1), (47, .goto 48, 3), (50, .iload 9, 2), (52, .iconst 1, 1), (53, .if_icmp .ne 7, 3), (56, .iload_n 3, 1), (57, .goto 38, 3), (60, .iload 9, 2), (62, .iconst 2, 1), (63, .if_icmp .ne 8, 3), (66, .iload 4, 2), (68, .goto 27, 3), (71, .iload 9, 2), (73, .iconst 3, 1), (74, .if_icmp .ne 8, 3), (77, .iload 5, 2), (79, .goto 16, 3), (82, .iload 9, 2), (84, .iconst 4, 1), (85, .if_icmp .ne 8, 3), (88, .iload 6, 2), (90, .goto 5, 3), (93, .iload 7, 2), (95, .if_icmp .ne 7, 3)] : List (Nat × Instr × Nat)).all (fun q => decide (decode cX12_isWord q.1 = .ok (q.2.1, q.2.2))) = true := by decide +kernel
theorem dX12_isWord_46 : decode cX12_isWord 46 = .ok (.iload_n 2, 1) := all_at dvX12_isWord_46 0 rfl
theorem dX12_isWord_47 : decode cX12_isWord 47 = .ok (.goto 48, 3) := all_at dvX12_isWord_46 1 rfl
theorem dX12_isWord_50 : decode cX12_isWord 50 = .ok (.iload 9, 2) := all_at dvX12_isWord_46 2 rfl
theorem dX12_isWord_52 : decode cX12_isWord 52 = .ok (.iconst 1, 1) := all_at dvX12_isWord_46 3 rfl
theorem dX12_isWord_53 : decode cX12_isWord 53 = .ok (.if_icmp .ne 7, 3) := all_at dvX12_isWord_46 4 rfl
theorem dX12_isWord_56 : decode cX12_isWord 56 = .ok (.iload_n 3, 1) := all_at dvX12_isWord_46 5 rfl
theorem dX12_isWord_57 : decode cX12_isWord 57 = .ok (.goto 38, 3) := all_at dvX12_isWord_46 6 rfl
theorem dX12_isWord_60 : decode cX12_isWord 60 = .ok (.iload 9, 2) := all_at dvX12_isWord_46 7 rfl
theorem dX12_isWord_62 : decode cX12_isWord 62 = .ok (.iconst 2, 1) := all_at dvX12_isWord_46 8 rfl
theorem dX12_isWord_63 : decode cX12_isWord 63 = .ok (.if_icmp .ne 8, 3) := all_at dvX12_isWord_46 9 rfl
theorem dX12_isWord_66 : decode cX12_isWord 66 = .ok (.iload 4, 2) := all_at dvX12_isWord_46 10 rfl
theorem dX12_isWord_68 : decode cX12_isWord 68 = .ok (.goto 27, 3) := all_at dvX12_isWord_46 11 rfl
theorem dX12_isWord_71 : decode cX12_isWord 71 = .ok (.iload 9, 2) := all_at dvX12_isWord_46 12 rfl
theorem dX12_isWord_73 : decode cX12_isWord 73 = .ok (.iconst 3, 1) := all_at dvX12_isWord_46 13 rfl
theorem dX12_isWord_74 : decode cX12_isWord 74 = .ok (.if_icmp .ne 8, 3) := all_at dvX12_isWord_46 14 rfl
theorem dX12_isWord_77 : decode cX12_isWord 77 = .ok (.iload 5, 2) := all_at dvX12_isWord_46 15 rfl
theorem dX12_isWord_79 : decode cX12_isWord 79 = .ok (.goto 16, 3) := all_at dvX12_isWord_46 16 rfl
theorem dX12_isWord_82 : decode cX12_isWord 82 = .ok (.iload 9, 2) := all_at dvX12_isWord_46 17 rfl
theorem dX12_isWord_84 : decode cX12_isWord 84 = .ok (.iconst 4, 1) := all_at dvX12_isWord_46 18 rfl
theorem dX12_isWord_85 : decode cX12_isWord 85 = .ok (.if_icmp .ne 8, 3) := all_at dvX12_isWord_46 19 rfl
theorem dX12_isWord_88 : decode cX12_isWord 88 = .ok (.iload 6, 2) := all_at dvX12_isWord_46 20 rfl
theorem dX12_isWord_90 : decode cX12_isWord 90 = .ok (.goto 5, 3) := all_at dvX12_isWord_46 21 rfl
theorem dX12_isWord_93 : decode cX12_isWord 93 = .ok (.iload 7, 2) := all_at dvX12_isWord_46 22 rfl
theorem dX12_isWord_95 : decode cX12_isWord 95 = .ok (.if_icmp .ne 7, 3) := all_at dvX12_isWord_46 23 rfl
set_option maxRecDepth 100000 in
theorem dvX12_isWord_98 : ([(98, .iconst 1, 1), (99, .goto 4, 3), (102, .iconst 0, 1), (103, .istore 8, 2), (105, .iinc 9 1, 3), (108, .goto (-90), 3), (111, .iload 8, 2), (113, .ireturn, 1)] : List (Nat × Instr × Nat)).all (fun q => decide (decode cX12_isWord q.1 = .ok (q.2.1, q.2.2))) = true := by decide +kernel
theorem dX12_isWord_98 : decode cX12_isWord 98 = .ok (.iconst 1, 1) := all_at dvX12_isWord_98 0 rfl
theorem dX12_isWord_99 : decode cX12_isWord 99 = .ok (.goto 4, 3) := all_at dvX12_isWord_98 1 rfl
theorem dX12_isWord_102 : decode cX12_isWord 102 = .ok (.iconst 0, 1) := all_at dvX12_isWord_98 2 rfl
theorem dX12_isWord_103 : decode cX12_isWord 103 = .ok (.istore 8, 2) := all_at dvX12_isWord_98 3 rfl
theorem dX12_isWord_105 : decode cX12_isWord 105 = .ok (.iinc 9 1, 3) := all_at dvX12_isWord_98 4 rfl
theorem dX12_isWord_108 : decode cX12_isWord 108 = .ok (.goto (-90), 3) := all_at dvX12_isWord_98 5 rfl
theorem dX12_isWord_111 : decode cX12_isWord 111 = .ok (.iload 8, 2) := all_at dvX12_isWord_98 6 rfl
theorem dX12_isWord_113 : decode cX12_isWord 113 = .ok (.ireturn, 1) := all_at dvX12_isWord_98 7 rfl
set_option maxRecDepth 100000 in
theorem dvX12_letOf_0 : ([(0, .aload_n 0, 1), (1, .iconst 5, 1), (2, .bipush 119, 2), (4, .bipush 97, 2), (6, .bipush 116, 2), (8, .bipush 101, 2), (10, .bipush 114, 2), (12, .iconst 0, 1), (13, .invokevirtual 282, 3), (16, .ifCond .eq 5, 3), (19, .iconst 0, 1), (20, .ireturn, 1), (21, .aload_n 0, 1), (22, .bipush 6, 2), (24, .bipush 115, 2), (26, .bipush 107, 2), (28, .bipush 101, 2), (30, .bipush 105, 2), (32, .bipush 110, 2), (34, .bipush 115, 2), (36, .invokevirtual 282, 3), (39, .ifCond .eq 5, 3), (42, .iconst 1, 1), (43, .ireturn, 1)] : List (Nat × Instr × Nat)).all (fun q => decide (decode cX12_letOf q.1 = .ok (q.2.1, q.2.2))) = true := by decide +kernel
theorem dX12_letOf_0 : decode cX12_letOf 0 = .ok (.aload_n 0, 1) := all_at dvX12_letOf_0 0 rfl
theorem dX12_letOf_1 : decode cX12_letOf 1 = .ok (.iconst 5, 1) := all_at dvX12_letOf_0 1 rfl
theorem dX12_letOf_2 : decode cX12_letOf 2 = .ok (.bipush 119, 2) := all_at dvX12_letOf_0 2 rfl
theorem dX12_letOf_4 : decode cX12_letOf 4 = .ok (.bipush 97, 2) := all_at dvX12_letOf_0 3 rfl
theorem dX12_letOf_6 : decode cX12_letOf 6 = .ok (.bipush 116, 2) := all_at dvX12_letOf_0 4 rfl
theorem dX12_letOf_8 : decode cX12_letOf 8 = .ok (.bipush 101, 2) := all_at dvX12_letOf_0 5 rfl
theorem dX12_letOf_10 : decode cX12_letOf 10 = .ok (.bipush 114, 2) := all_at dvX12_letOf_0 6 rfl
theorem dX12_letOf_12 : decode cX12_letOf 12 = .ok (.iconst 0, 1) := all_at dvX12_letOf_0 7 rfl
theorem dX12_letOf_13 : decode cX12_letOf 13 = .ok (.invokevirtual 282, 3) := all_at dvX12_letOf_0 8 rfl
theorem dX12_letOf_16 : decode cX12_letOf 16 = .ok (.ifCond .eq 5, 3) := all_at dvX12_letOf_0 9 rfl
theorem dX12_letOf_19 : decode cX12_letOf 19 = .ok (.iconst 0, 1) := all_at dvX12_letOf_0 10 rfl
theorem dX12_letOf_20 : decode cX12_letOf 20 = .ok (.ireturn, 1) := all_at dvX12_letOf_0 11 rfl
theorem dX12_letOf_21 : decode cX12_letOf 21 = .ok (.aload_n 0, 1) := all_at dvX12_letOf_0 12 rfl
theorem dX12_letOf_22 : decode cX12_letOf 22 = .ok (.bipush 6, 2) := all_at dvX12_letOf_0 13 rfl
theorem dX12_letOf_24 : decode cX12_letOf 24 = .ok (.bipush 115, 2) := all_at dvX12_letOf_0 14 rfl
theorem dX12_letOf_26 : decode cX12_letOf 26 = .ok (.bipush 107, 2) := all_at dvX12_letOf_0 15 rfl
theorem dX12_letOf_28 : decode cX12_letOf 28 = .ok (.bipush 101, 2) := all_at dvX12_letOf_0 16 rfl
theorem dX12_letOf_30 : decode cX12_letOf 30 = .ok (.bipush 105, 2) := all_at dvX12_letOf_0 17 rfl
theorem dX12_letOf_32 : decode cX12_letOf 32 = .ok (.bipush 110, 2) := all_at dvX12_letOf_0 18 rfl
theorem dX12_letOf_34 : decode cX12_letOf 34 = .ok (.bipush 115, 2) := all_at dvX12_letOf_0 19 rfl
theorem dX12_letOf_36 : decode cX12_letOf 36 = .ok (.invokevirtual 282, 3) := all_at dvX12_letOf_0 20 rfl
theorem dX12_letOf_39 : decode cX12_letOf 39 = .ok (.ifCond .eq 5, 3) := all_at dvX12_letOf_0 21 rfl
theorem dX12_letOf_42 : decode cX12_letOf 42 = .ok (.iconst 1, 1) := all_at dvX12_letOf_0 22 rfl
theorem dX12_letOf_43 : decode cX12_letOf 43 = .ok (.ireturn, 1) := all_at dvX12_letOf_0 23 rfl
set_option maxRecDepth 100000 in
theorem dvX12_letOf_44 : ([(44, .aload_n 0, 1), (45, .iconst 4, 1), (46, .bipush 112, 2), (48, .bipush 97, 2), (50, .bipush 114, 2), (52, .bipush 116, 2), (54, .iconst 0, 1), (55, .iconst 0, 1), (56, .invokevirtual 282, 3), (59, .ifCond .eq 5, 3), (62, .iconst 2, 1), (63, .ireturn, 1), (64, .aload_n 0, 1), (65, .iconst 5, 1), (66, .bipush 108, 2), (68, .bipush 111, 2), (70, .bipush 111, 2), (72, .bipush 107, 2), (74, .bipush 115, 2), (76, .iconst 0, 1), (77, .invokevirtual 282, 3), (80, .ifCond .eq 5, 3), (83, .iconst 3, 1), (84, .ireturn, 1)] : List (Nat × Instr × Nat)).all (fun q => decide (decode cX12_letOf q.1 = .ok (q.2.1, q.2.2))) = true := by decide +kernel
theorem dX12_letOf_44 : decode cX12_letOf 44 = .ok (.aload_n 0, 1) := all_at dvX12_letOf_44 0 rfl
theorem dX12_letOf_45 : decode cX12_letOf 45 = .ok (.iconst 4, 1) := all_at dvX12_letOf_44 1 rfl
theorem dX12_letOf_46 : decode cX12_letOf 46 = .ok (.bipush 112, 2) := all_at dvX12_letOf_44 2 rfl
theorem dX12_letOf_48 : decode cX12_letOf 48 = .ok (.bipush 97, 2) := all_at dvX12_letOf_44 3 rfl
theorem dX12_letOf_50 : decode cX12_letOf 50 = .ok (.bipush 114, 2) := all_at dvX12_letOf_44 4 rfl
theorem dX12_letOf_52 : decode cX12_letOf 52 = .ok (.bipush 116, 2) := all_at dvX12_letOf_44 5 rfl
theorem dX12_letOf_54 : decode cX12_letOf 54 = .ok (.iconst 0, 1) := all_at dvX12_letOf_44 6 rfl
theorem dX12_letOf_55 : decode cX12_letOf 55 = .ok (.iconst 0, 1) := all_at dvX12_letOf_44 7 rfl
theorem dX12_letOf_56 : decode cX12_letOf 56 = .ok (.invokevirtual 282, 3) := all_at dvX12_letOf_44 8 rfl
theorem dX12_letOf_59 : decode cX12_letOf 59 = .ok (.ifCond .eq 5, 3) := all_at dvX12_letOf_44 9 rfl
theorem dX12_letOf_62 : decode cX12_letOf 62 = .ok (.iconst 2, 1) := all_at dvX12_letOf_44 10 rfl
theorem dX12_letOf_63 : decode cX12_letOf 63 = .ok (.ireturn, 1) := all_at dvX12_letOf_44 11 rfl
theorem dX12_letOf_64 : decode cX12_letOf 64 = .ok (.aload_n 0, 1) := all_at dvX12_letOf_44 12 rfl
theorem dX12_letOf_65 : decode cX12_letOf 65 = .ok (.iconst 5, 1) := all_at dvX12_letOf_44 13 rfl
theorem dX12_letOf_66 : decode cX12_letOf 66 = .ok (.bipush 108, 2) := all_at dvX12_letOf_44 14 rfl
theorem dX12_letOf_68 : decode cX12_letOf 68 = .ok (.bipush 111, 2) := all_at dvX12_letOf_44 15 rfl
theorem dX12_letOf_70 : decode cX12_letOf 70 = .ok (.bipush 111, 2) := all_at dvX12_letOf_44 16 rfl
theorem dX12_letOf_72 : decode cX12_letOf 72 = .ok (.bipush 107, 2) := all_at dvX12_letOf_44 17 rfl
theorem dX12_letOf_74 : decode cX12_letOf 74 = .ok (.bipush 115, 2) := all_at dvX12_letOf_44 18 rfl
theorem dX12_letOf_76 : decode cX12_letOf 76 = .ok (.iconst 0, 1) := all_at dvX12_letOf_44 19 rfl
theorem dX12_letOf_77 : decode cX12_letOf 77 = .ok (.invokevirtual 282, 3) := all_at dvX12_letOf_44 20 rfl
theorem dX12_letOf_80 : decode cX12_letOf 80 = .ok (.ifCond .eq 5, 3) := all_at dvX12_letOf_44 21 rfl
theorem dX12_letOf_83 : decode cX12_letOf 83 = .ok (.iconst 3, 1) := all_at dvX12_letOf_44 22 rfl
theorem dX12_letOf_84 : decode cX12_letOf 84 = .ok (.ireturn, 1) := all_at dvX12_letOf_44 23 rfl
set_option maxRecDepth 100000 in
theorem dvX12_letOf_85 : ([(85, .aload_n 0, 1), (86, .iconst 3, 1), (87, .bipush 102, 2), (89, .bipush 101, 2), (91, .bipush 101, 2), (93, .iconst 0, 1), (94, .iconst 0, 1), (95, .iconst 0, 1), (96, .invokevirtual 282, 3), (99, .ifCond .eq 7, 3), (102, .iconst 4, 1), (103, .goto 4, 3), (106, .iconst (-1), 1), (107, .ireturn, 1)] : List (Nat × Instr × Nat)).all (fun q => decide (decode cX12_letOf q.1 = .ok (q.2.1, q.2.2))) = true := by decide +kernel
theorem dX12_letOf_85 : decode cX12_letOf 85 = .ok (.aload_n 0, 1) := all_at dvX12_letOf_85 0 rfl
theorem dX12_letOf_86 : decode cX12_letOf 86 = .ok (.iconst 3, 1) := all_at dvX12_letOf_85 1 rfl
theorem dX12_letOf_87 : decode cX12_letOf 87 = .ok (.bipush 102, 2) := all_at dvX12_letOf_85 2 rfl
theorem dX12_letOf_89 : decode cX12_letOf 89 = .ok (.bipush 101, 2) := all_at dvX12_letOf_85 3 rfl
theorem dX12_letOf_91 : decode cX12_letOf 91 = .ok (.bipush 101, 2) := all_at dvX12_letOf_85 4 rfl
theorem dX12_letOf_93 : decode cX12_letOf 93 = .ok (.iconst 0, 1) := all_at dvX12_letOf_85 5 rfl
theorem dX12_letOf_94 : decode cX12_letOf 94 = .ok (.iconst 0, 1) := all_at dvX12_letOf_85 6 rfl
theorem dX12_letOf_95 : decode cX12_letOf 95 = .ok (.iconst 0, 1) := all_at dvX12_letOf_85 7 rfl
theorem dX12_letOf_96 : decode cX12_letOf 96 = .ok (.invokevirtual 282, 3) := all_at dvX12_letOf_85 8 rfl
theorem dX12_letOf_99 : decode cX12_letOf 99 = .ok (.ifCond .eq 7, 3) := all_at dvX12_letOf_85 9 rfl
theorem dX12_letOf_102 : decode cX12_letOf 102 = .ok (.iconst 4, 1) := all_at dvX12_letOf_85 10 rfl
theorem dX12_letOf_103 : decode cX12_letOf 103 = .ok (.goto 4, 3) := all_at dvX12_letOf_85 11 rfl
theorem dX12_letOf_106 : decode cX12_letOf 106 = .ok (.iconst (-1), 1) := all_at dvX12_letOf_85 12 rfl
theorem dX12_letOf_107 : decode cX12_letOf 107 = .ok (.ireturn, 1) := all_at dvX12_letOf_85 13 rfl
set_option maxRecDepth 100000 in
theorem dvX12_takeNumber_0 : ([(0, .aload_n 0, 1), (1, .invokevirtual 260, 3), (4, .istore_n 3, 1), (5, .aload_n 0, 1), (6, .aload_n 0, 1), (7, .getfield 254, 3), (10, .putfield 264, 3), (13, .aload_n 0, 1), (14, .iload_n 3, 1), (15, .i2l, 1), (16, .ldc2_w 274, 3), (19, .ldc2_w 276, 3), (22, .invokestatic 167, 3), (25, .iconst 1, 1), (26, .aload_n 0, 1), (27, .getfield 254, 3), (30, .invokevirtual 278, 3), (33, .ifCond .ne 5, 3), (36, .iconst 0, 1), (37, .ireturn, 1), (38, .iconst 0, 1), (39, .istore 4, 2), (41, .aload_n 0, 1), (42, .getfield 254, 3)] : List (Nat × Instr × Nat)).all (fun q => decide (decode cX12_takeNumber q.1 = .ok (q.2.1, q.2.2))) = true := by decide +kernel
theorem dX12_takeNumber_0 : decode cX12_takeNumber 0 = .ok (.aload_n 0, 1) := all_at dvX12_takeNumber_0 0 rfl
theorem dX12_takeNumber_1 : decode cX12_takeNumber 1 = .ok (.invokevirtual 260, 3) := all_at dvX12_takeNumber_0 1 rfl
theorem dX12_takeNumber_4 : decode cX12_takeNumber 4 = .ok (.istore_n 3, 1) := all_at dvX12_takeNumber_0 2 rfl
theorem dX12_takeNumber_5 : decode cX12_takeNumber 5 = .ok (.aload_n 0, 1) := all_at dvX12_takeNumber_0 3 rfl
theorem dX12_takeNumber_6 : decode cX12_takeNumber 6 = .ok (.aload_n 0, 1) := all_at dvX12_takeNumber_0 4 rfl
theorem dX12_takeNumber_7 : decode cX12_takeNumber 7 = .ok (.getfield 254, 3) := all_at dvX12_takeNumber_0 5 rfl
theorem dX12_takeNumber_10 : decode cX12_takeNumber 10 = .ok (.putfield 264, 3) := all_at dvX12_takeNumber_0 6 rfl
theorem dX12_takeNumber_13 : decode cX12_takeNumber 13 = .ok (.aload_n 0, 1) := all_at dvX12_takeNumber_0 7 rfl
theorem dX12_takeNumber_14 : decode cX12_takeNumber 14 = .ok (.iload_n 3, 1) := all_at dvX12_takeNumber_0 8 rfl
theorem dX12_takeNumber_15 : decode cX12_takeNumber 15 = .ok (.i2l, 1) := all_at dvX12_takeNumber_0 9 rfl
theorem dX12_takeNumber_16 : decode cX12_takeNumber 16 = .ok (.ldc2_w 274, 3) := all_at dvX12_takeNumber_0 10 rfl
theorem dX12_takeNumber_19 : decode cX12_takeNumber 19 = .ok (.ldc2_w 276, 3) := all_at dvX12_takeNumber_0 11 rfl
theorem dX12_takeNumber_22 : decode cX12_takeNumber 22 = .ok (.invokestatic 167, 3) := all_at dvX12_takeNumber_0 12 rfl
theorem dX12_takeNumber_25 : decode cX12_takeNumber 25 = .ok (.iconst 1, 1) := all_at dvX12_takeNumber_0 13 rfl
theorem dX12_takeNumber_26 : decode cX12_takeNumber 26 = .ok (.aload_n 0, 1) := all_at dvX12_takeNumber_0 14 rfl
theorem dX12_takeNumber_27 : decode cX12_takeNumber 27 = .ok (.getfield 254, 3) := all_at dvX12_takeNumber_0 15 rfl
theorem dX12_takeNumber_30 : decode cX12_takeNumber 30 = .ok (.invokevirtual 278, 3) := all_at dvX12_takeNumber_0 16 rfl
theorem dX12_takeNumber_33 : decode cX12_takeNumber 33 = .ok (.ifCond .ne 5, 3) := all_at dvX12_takeNumber_0 17 rfl
theorem dX12_takeNumber_36 : decode cX12_takeNumber 36 = .ok (.iconst 0, 1) := all_at dvX12_takeNumber_0 18 rfl
theorem dX12_takeNumber_37 : decode cX12_takeNumber 37 = .ok (.ireturn, 1) := all_at dvX12_takeNumber_0 19 rfl
theorem dX12_takeNumber_38 : decode cX12_takeNumber 38 = .ok (.iconst 0, 1) := all_at dvX12_takeNumber_0 20 rfl
theorem dX12_takeNumber_39 : decode cX12_takeNumber 39 = .ok (.istore 4, 2) := all_at dvX12_takeNumber_0 21 rfl
theorem dX12_takeNumber_41 : decode cX12_takeNumber 41 = .ok (.aload_n 0, 1) := all_at dvX12_takeNumber_0 22 rfl
theorem dX12_takeNumber_42 : decode cX12_takeNumber 42 = .ok (.getfield 254, 3) := all_at dvX12_takeNumber_0 23 rfl
set_option maxRecDepth 100000 in
theorem dvX12_takeNumber_45 : ([(45, .aload_n 0, 1), (46, .getfield 249, 3), (49, .if_icmp .ge 71, 3), (52, .aload_n 0, 1), (53, .getfield 83, 3), (56, .aload_n 0, 1), (57, .getfield 254, 3), (60, .iaload, 1), (61, .i2l, 1), (62, .ldc2_w 274, 3), (65, .ldc2_w 276, 3), (68, .invokestatic 167, 3), (71, .ifCond .eq 49, 3), (74, .iload 4, 2), (76, .sipush 9999, 3), (79, .if_icmp .le 8, 3), (82, .iload 4, 2), (84, .goto 21, 3), (87, .bipush 10, 2), (89, .iload 4, 2), (91, .imul, 1), (92, .aload_n 0, 1), (93, .getfield 83, 3), (96, .aload_n 0, 1)] : List (Nat × Instr × Nat)).all (fun q => decide (decode cX12_takeNumber q.1 = .ok (q.2.1, q.2.2))) = true := by decide +kernel
theorem dX12_takeNumber_45 : decode cX12_takeNumber 45 = .ok (.aload_n 0, 1) := all_at dvX12_takeNumber_45 0 rfl
theorem dX12_takeNumber_46 : decode cX12_takeNumber 46 = .ok (.getfield 249, 3) := all_at dvX12_takeNumber_45 1 rfl
theorem dX12_takeNumber_49 : decode cX12_takeNumber 49 = .ok (.if_icmp .ge 71, 3) := all_at dvX12_takeNumber_45 2 rfl
theorem dX12_takeNumber_52 : decode cX12_takeNumber 52 = .ok (.aload_n 0, 1) := all_at dvX12_takeNumber_45 3 rfl
theorem dX12_takeNumber_53 : decode cX12_takeNumber 53 = .ok (.getfield 83, 3) := all_at dvX12_takeNumber_45 4 rfl
theorem dX12_takeNumber_56 : decode cX12_takeNumber 56 = .ok (.aload_n 0, 1) := all_at dvX12_takeNumber_45 5 rfl
theorem dX12_takeNumber_57 : decode cX12_takeNumber 57 = .ok (.getfield 254, 3) := all_at dvX12_takeNumber_45 6 rfl
theorem dX12_takeNumber_60 : decode cX12_takeNumber 60 = .ok (.iaload, 1) := all_at dvX12_takeNumber_45 7 rfl
theorem dX12_takeNumber_61 : decode cX12_takeNumber 61 = .ok (.i2l, 1) := all_at dvX12_takeNumber_45 8 rfl
theorem dX12_takeNumber_62 : decode cX12_takeNumber 62 = .ok (.ldc2_w 274, 3) := all_at dvX12_takeNumber_45 9 rfl
theorem dX12_takeNumber_65 : decode cX12_takeNumber 65 = .ok (.ldc2_w 276, 3) := all_at dvX12_takeNumber_45 10 rfl
theorem dX12_takeNumber_68 : decode cX12_takeNumber 68 = .ok (.invokestatic 167, 3) := all_at dvX12_takeNumber_45 11 rfl
theorem dX12_takeNumber_71 : decode cX12_takeNumber 71 = .ok (.ifCond .eq 49, 3) := all_at dvX12_takeNumber_45 12 rfl
theorem dX12_takeNumber_74 : decode cX12_takeNumber 74 = .ok (.iload 4, 2) := all_at dvX12_takeNumber_45 13 rfl
theorem dX12_takeNumber_76 : decode cX12_takeNumber 76 = .ok (.sipush 9999, 3) := all_at dvX12_takeNumber_45 14 rfl
theorem dX12_takeNumber_79 : decode cX12_takeNumber 79 = .ok (.if_icmp .le 8, 3) := all_at dvX12_takeNumber_45 15 rfl
theorem dX12_takeNumber_82 : decode cX12_takeNumber 82 = .ok (.iload 4, 2) := all_at dvX12_takeNumber_45 16 rfl
theorem dX12_takeNumber_84 : decode cX12_takeNumber 84 = .ok (.goto 21, 3) := all_at dvX12_takeNumber_45 17 rfl
theorem dX12_takeNumber_87 : decode cX12_takeNumber 87 = .ok (.bipush 10, 2) := all_at dvX12_takeNumber_45 18 rfl
theorem dX12_takeNumber_89 : decode cX12_takeNumber 89 = .ok (.iload 4, 2) := all_at dvX12_takeNumber_45 19 rfl
theorem dX12_takeNumber_91 : decode cX12_takeNumber 91 = .ok (.imul, 1) := all_at dvX12_takeNumber_45 20 rfl
theorem dX12_takeNumber_92 : decode cX12_takeNumber 92 = .ok (.aload_n 0, 1) := all_at dvX12_takeNumber_45 21 rfl
theorem dX12_takeNumber_93 : decode cX12_takeNumber 93 = .ok (.getfield 83, 3) := all_at dvX12_takeNumber_45 22 rfl
theorem dX12_takeNumber_96 : decode cX12_takeNumber 96 = .ok (.aload_n 0, 1) := all_at dvX12_takeNumber_45 23 rfl
set_option maxRecDepth 100000 in
theorem dvX12_takeNumber_97 : ([(97, .getfield 254, 3), (100, .iaload, 1), (101, .iadd, 1), (102, .bipush 48, 2), (104, .isub, 1), (105, .istore 4, 2), (107, .aload_n 0, 1), (108, .dup, 1), (109, .getfield 254, 3), (112, .iconst 1, 1), (113, .iadd, 1), (114, .putfield 254, 3), (117, .goto (-76), 3), (120, .aload_n 0, 1), (121, .aload_n 0, 1), (122, .getfield 254, 3), (125, .aload_n 0, 1), (126, .getfield 264, 3), (129, .isub, 1), (130, .iconst 5, 1), (131, .if_icmp .ge 20, 3), (134, .iload 4, 2), (136, .i2l, 1), (137, .iload_n 1, 1)] : List (Nat × Instr × Nat)).all (fun q => decide (decode cX12_takeNumber q.1 = .ok (q.2.1, q.2.2))) = true := by decide +kernel
theorem dX12_takeNumber_97 : decode cX12_takeNumber 97 = .ok (.getfield 254, 3) := all_at dvX12_takeNumber_97 0 rfl
theorem dX12_takeNumber_100 : decode cX12_takeNumber 100 = .ok (.iaload, 1) := all_at dvX12_takeNumber_97 1 rfl
theorem dX12_takeNumber_101 : decode cX12_takeNumber 101 = .ok (.iadd, 1) := all_at dvX12_takeNumber_97 2 rfl
theorem dX12_takeNumber_102 : decode cX12_takeNumber 102 = .ok (.bipush 48, 2) := all_at dvX12_takeNumber_97 3 rfl
theorem dX12_takeNumber_104 : decode cX12_takeNumber 104 = .ok (.isub, 1) := all_at dvX12_takeNumber_97 4 rfl
theorem dX12_takeNumber_105 : decode cX12_takeNumber 105 = .ok (.istore 4, 2) := all_at dvX12_takeNumber_97 5 rfl
theorem dX12_takeNumber_107 : decode cX12_takeNumber 107 = .ok (.aload_n 0, 1) := all_at dvX12_takeNumber_97 6 rfl
theorem dX12_takeNumber_108 : decode cX12_takeNumber 108 = .ok (.dup, 1) := all_at dvX12_takeNumber_97 7 rfl
theorem dX12_takeNumber_109 : decode cX12_takeNumber 109 = .ok (.getfield 254, 3) := all_at dvX12_takeNumber_97 8 rfl
theorem dX12_takeNumber_112 : decode cX12_takeNumber 112 = .ok (.iconst 1, 1) := all_at dvX12_takeNumber_97 9 rfl
theorem dX12_takeNumber_113 : decode cX12_takeNumber 113 = .ok (.iadd, 1) := all_at dvX12_takeNumber_97 10 rfl
theorem dX12_takeNumber_114 : decode cX12_takeNumber 114 = .ok (.putfield 254, 3) := all_at dvX12_takeNumber_97 11 rfl
theorem dX12_takeNumber_117 : decode cX12_takeNumber 117 = .ok (.goto (-76), 3) := all_at dvX12_takeNumber_97 12 rfl
theorem dX12_takeNumber_120 : decode cX12_takeNumber 120 = .ok (.aload_n 0, 1) := all_at dvX12_takeNumber_97 13 rfl
theorem dX12_takeNumber_121 : decode cX12_takeNumber 121 = .ok (.aload_n 0, 1) := all_at dvX12_takeNumber_97 14 rfl
theorem dX12_takeNumber_122 : decode cX12_takeNumber 122 = .ok (.getfield 254, 3) := all_at dvX12_takeNumber_97 15 rfl
theorem dX12_takeNumber_125 : decode cX12_takeNumber 125 = .ok (.aload_n 0, 1) := all_at dvX12_takeNumber_97 16 rfl
theorem dX12_takeNumber_126 : decode cX12_takeNumber 126 = .ok (.getfield 264, 3) := all_at dvX12_takeNumber_97 17 rfl
theorem dX12_takeNumber_129 : decode cX12_takeNumber 129 = .ok (.isub, 1) := all_at dvX12_takeNumber_97 18 rfl
theorem dX12_takeNumber_130 : decode cX12_takeNumber 130 = .ok (.iconst 5, 1) := all_at dvX12_takeNumber_97 19 rfl
theorem dX12_takeNumber_131 : decode cX12_takeNumber 131 = .ok (.if_icmp .ge 20, 3) := all_at dvX12_takeNumber_97 20 rfl
theorem dX12_takeNumber_134 : decode cX12_takeNumber 134 = .ok (.iload 4, 2) := all_at dvX12_takeNumber_97 21 rfl
theorem dX12_takeNumber_136 : decode cX12_takeNumber 136 = .ok (.i2l, 1) := all_at dvX12_takeNumber_97 22 rfl
theorem dX12_takeNumber_137 : decode cX12_takeNumber 137 = .ok (.iload_n 1, 1) := all_at dvX12_takeNumber_97 23 rfl
set_option maxRecDepth 100000 in
theorem dvX12_takeNumber_138 : ([(138, .i2l, 1), (139, .iload_n 2, 1), (140, .i2l, 1), (141, .invokestatic 167, 3), (144, .ifCond .eq 7, 3), (147, .iconst 1, 1), (148, .goto 4, 3), (151, .iconst 0, 1), (152, .iconst 2, 1), (153, .aload_n 0, 1), (154, .getfield 264, 3), (157, .invokevirtual 278, 3), (160, .istore 5, 2), (162, .iload 4, 2), (164, .ireturn, 1)] : List (Nat × Instr × Nat)).all (fun q => decide (decode cX12_takeNumber q.1 = .ok (q.2.1, q.2.2))) = true := by decide +kernel
theorem dX12_takeNumber_138 : decode cX12_takeNumber 138 = .ok (.i2l, 1) := all_at dvX12_takeNumber_138 0 rfl
theorem dX12_takeNumber_139 : decode cX12_takeNumber 139 = .ok (.iload_n 2, 1) := all_at dvX12_takeNumber_138 1 rfl
theorem dX12_takeNumber_140 : decode cX12_takeNumber 140 = .ok (.i2l, 1) := all_at dvX12_takeNumber_138 2 rfl
theorem dX12_takeNumber_141 : decode cX12_takeNumber 141 = .ok (.invokestatic 167, 3) := all_at dvX12_takeNumber_138 3 rfl
theorem dX12_takeNumber_144 : decode cX12_takeNumber 144 = .ok (.ifCond .eq 7, 3) := all_at dvX12_takeNumber_138 4 rfl
theorem dX12_takeNumber_147 : decode cX12_takeNumber 147 = .ok (.iconst 1, 1) := all_at dvX12_takeNumber_138 5 rfl
theorem dX12_takeNumber_148 : decode cX12_takeNumber 148 = .ok (.goto 4, 3) := all_at dvX12_takeNumber_138 6 rfl
theorem dX12_takeNumber_151 : decode cX12_takeNumber 151 = .ok (.iconst 0, 1) := all_at dvX12_takeNumber_138 7 rfl
theorem dX12_takeNumber_152 : decode cX12_takeNumber 152 = .ok (.iconst 2, 1) := all_at dvX12_takeNumber_138 8 rfl
theorem dX12_takeNumber_153 : decode cX12_takeNumber 153 = .ok (.aload_n 0, 1) := all_at dvX12_takeNumber_138 9 rfl
theorem dX12_takeNumber_154 : decode cX12_takeNumber 154 = .ok (.getfield 264, 3) := all_at dvX12_takeNumber_138 10 rfl
theorem dX12_takeNumber_157 : decode cX12_takeNumber 157 = .ok (.invokevirtual 278, 3) := all_at dvX12_takeNumber_138 11 rfl
theorem dX12_takeNumber_160 : decode cX12_takeNumber 160 = .ok (.istore 5, 2) := all_at dvX12_takeNumber_138 12 rfl
theorem dX12_takeNumber_162 : decode cX12_takeNumber 162 = .ok (.iload 4, 2) := all_at dvX12_takeNumber_138 13 rfl
theorem dX12_takeNumber_164 : decode cX12_takeNumber 164 = .ok (.ireturn, 1) := all_at dvX12_takeNumber_138 14 rfl
set_option maxRecDepth 100000 in
theorem dvX12_takeWord_24 : ([(24, .aload_n 0, 1), (25, .getfield 83, 3), (28, .aload_n 0, 1), (29, .getfield 254, 3), (32, .iaload, 1), (33, .i2l, 1), (34, .ldc2_w 267, 3), (37, .ldc2_w 269, 3), (40, .invokestatic 167, 3), (43, .ifCond .eq 16, 3), (46, .aload_n 0, 1), (47, .dup, 1), (48, .getfield 254, 3), (51, .iconst 1, 1), (52, .iadd, 1), (53, .putfield 254, 3), (56, .goto (-43), 3), (72, .return_, 1)] : List (Nat × Instr × Nat)).all (fun q => decide (decode cX12_takeWord q.1 = .ok (q.2.1, q.2.2))) = true := by decide +kernel
theorem dX12_takeWord_24 : decode cX12_takeWord 24 = .ok (.aload_n 0, 1) := all_at dvX12_takeWord_24 0 rfl
theorem dX12_takeWord_25 : decode cX12_takeWord 25 = .ok (.getfield 83, 3) := all_at dvX12_takeWord_24 1 rfl
theorem dX12_takeWord_28 : decode cX12_takeWord 28 = .ok (.aload_n 0, 1) := all_at dvX12_takeWord_24 2 rfl
theorem dX12_takeWord_29 : decode cX12_takeWord 29 = .ok (.getfield 254, 3) := all_at dvX12_takeWord_24 3 rfl
theorem dX12_takeWord_32 : decode cX12_takeWord 32 = .ok (.iaload, 1) := all_at dvX12_takeWord_24 4 rfl
theorem dX12_takeWord_33 : decode cX12_takeWord 33 = .ok (.i2l, 1) := all_at dvX12_takeWord_24 5 rfl
theorem dX12_takeWord_34 : decode cX12_takeWord 34 = .ok (.ldc2_w 267, 3) := all_at dvX12_takeWord_24 6 rfl
theorem dX12_takeWord_37 : decode cX12_takeWord 37 = .ok (.ldc2_w 269, 3) := all_at dvX12_takeWord_24 7 rfl
theorem dX12_takeWord_40 : decode cX12_takeWord 40 = .ok (.invokestatic 167, 3) := all_at dvX12_takeWord_24 8 rfl
theorem dX12_takeWord_43 : decode cX12_takeWord 43 = .ok (.ifCond .eq 16, 3) := all_at dvX12_takeWord_24 9 rfl
theorem dX12_takeWord_46 : decode cX12_takeWord 46 = .ok (.aload_n 0, 1) := all_at dvX12_takeWord_24 10 rfl
theorem dX12_takeWord_47 : decode cX12_takeWord 47 = .ok (.dup, 1) := all_at dvX12_takeWord_24 11 rfl
theorem dX12_takeWord_48 : decode cX12_takeWord 48 = .ok (.getfield 254, 3) := all_at dvX12_takeWord_24 12 rfl
theorem dX12_takeWord_51 : decode cX12_takeWord 51 = .ok (.iconst 1, 1) := all_at dvX12_takeWord_24 13 rfl
theorem dX12_takeWord_52 : decode cX12_takeWord 52 = .ok (.iadd, 1) := all_at dvX12_takeWord_24 14 rfl
theorem dX12_takeWord_53 : decode cX12_takeWord 53 = .ok (.putfield 254, 3) := all_at dvX12_takeWord_24 15 rfl
theorem dX12_takeWord_56 : decode cX12_takeWord 56 = .ok (.goto (-43), 3) := all_at dvX12_takeWord_24 16 rfl
theorem dX12_takeWord_72 : decode cX12_takeWord 72 = .ok (.return_, 1) := all_at dvX12_takeWord_24 17 rfl
set_option maxHeartbeats 4000000 in
set_option maxRecDepth 100000 in
/-- X12_want -/
theorem c_X12_want_1 (l : Launch) (dC : Nat → ClassId) (dI : Nat → Nat → Nat) (h : Nat) (g : Nat → Nat → Nat) (ca : Nat → Nat → ClassId) (iv : Nat → Nat → Int32) (lv : Nat → Nat → Int64) (fa : Nat → Nat → Nat → Int32) (la : Nat → Nat → Nat → Int64) (hI : IX iv fa) (b : Int32) (d : Int32) : Met l yX12_want (wc yX12_want cX12_want 4 (some .boolean)) ({ frames := 0, cells := 0, slots := 0, locals := 0 } : Room) (pR (dC, dI) classes (WM h g ca iv lv fa la) (TM ca) [.ref h, .int 1, .int b, .int d]) (vp_Si (fun r => (r = 1 ∧ ((iv 12 35).toInt = 0)) ∨ (r = 0 ∧ ¬ ((iv 12 35).toInt = 0)))) 0 0 (fun _ => False) := by
  refine Met.ofW (cc := cX12_want) (maxL := 4) (ret := (some .boolean)) (by decide) rfl ?_
  intro p e s m args below meth c s₁ B hml hv
  obtain ⟨rfl, hP, hK⟩ := hv
  have hx := B.exec
  have hb := B.bytes
  have hr := B.returns
  have ht := tb_tl (atoms_spec (ws := wc yX12_want cX12_want 4 (some .boolean)) B.pre)
  have hown : s.vm.findClass RX12 = some m.cls := findClass_of_methodNamed B.named
  have hlocks := B.notSynchronized
  have hl := lv_entry [.ref h, .int 1, .int b, .int d] (n := 4) (Nat.le_of_ble_eq_true rfl)
  rw [lg_entry_eq]
  generalize (lg_sl [.ref h, .int 1, .int b, .int d] ++ List.replicate (4 - (lg_sl [.ref h, .int 1, .int b, .int d]).length) Slot.unset).toArray = ls at hl ⊢
  have hl : lv_has ls 4 [(0, .ref h), (1, .int 1), (2, .int b), (3, .int d)] := hl
  refine lv_iload_n hx hb dX12_want_0 rfl (lv_at hl 1 rfl) ?_
  refine lv_if_ne (tgt := 21) hx hb dX12_want_1 (by decide) (fun c1 => ?_) (fun c1 => ?_)
  · skip
    refine lv_aload_n hx hb dX12_want_21 rfl (lv_at hl 0 rfl) ?_
    have i_12_35 : 0 ≤ (iv 12 35).toInt ∧ (iv 12 35).toInt ≤ 5 := hI.1 12 35
    refine gM_12_35 hx hb ht hown hK hP m_1174 (v := (iv 12 35)) rfl dX12_want_22 ?_
    refine lv_if_ne (tgt := 32) hx hb dX12_want_25 (by decide) (fun c2 => ?_) (fun c2 => ?_)
    · have fc2 := z_ne (rfl : ((iv 12 35)).toInt = _) (by decide : (0 : Int32).toInt = 0) c2
      refine lv_iconst (v := 0) hx hb dX12_want_32 (by decide) ?_
      exact W.zret (v := 0) hx hb hr rfl (fun t ht9 hW => ⟨0, rfl, Or.inr ⟨rfl, by omega⟩, ht9⟩) (fun q hq => by cases hq) dX12_want_33
    · have fc2 := z_eq (rfl : ((iv 12 35)).toInt = _) (by decide : (0 : Int32).toInt = 0) c2
      refine lv_iconst (v := 1) hx hb dX12_want_28 (by decide) ?_
      refine lv_goto (tgt := 33) hx hb dX12_want_29 (by decide) ?_
      exact W.zret (v := 1) hx hb hr rfl (fun t ht9 hW => ⟨1, rfl, Or.inl ⟨rfl, by omega⟩, ht9⟩) (fun q hq => by cases hq) dX12_want_33
  · exact absurd c1 (by decide)
