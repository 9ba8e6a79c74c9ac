/-! ===== n2 ===== -/
set_option maxRecDepth 100000 in
theorem m_49 : Cond.selects RX12 yX12_isWord yX12_isWord ∈ tb := tb_in 49 (by decide +kernel) rfl
set_option maxRecDepth 100000 in
theorem m_50 : Cond.selects RX12 yX12_want yX12_want ∈ tb := tb_in 50 (by decide +kernel) rfl
theorem m_1177 : Cond.fieldLink RX12 271 "SilkHouseModel" "letters" "I" ∈ tb := mb_5_5 _ (List.mem_of_getElem? (i := 18) rfl)
theorem m_1466 : Cond.constantLong RX12 267 (97) ∈ tb := mb_6_3 _ (List.mem_of_getElem? (i := 22) rfl)
theorem m_1467 : Cond.constantLong RX12 269 (122) ∈ tb := mb_6_3 _ (List.mem_of_getElem? (i := 23) rfl)
theorem m_1468 : Cond.methodLink RX12 282 yX12_isWord ∈ tb := mb_6_4 _ (List.mem_of_getElem? (i := 0) rfl)
theorem m_1470 : Cond.instanceMethod yX12_isWord ∈ tb := mb_6_4 _ (List.mem_of_getElem? (i := 1) rfl)
theorem m_1471 : Cond.code yX12_isWord cX12_isWord 10 (some .boolean) ∈ tb := mb_6_4 _ (List.mem_of_getElem? (i := 2) rfl)
theorem m_1472 : Cond.methodLink RX12 278 yX12_want ∈ tb := mb_6_4 _ (List.mem_of_getElem? (i := 3) rfl)
theorem m_1474 : Cond.instanceMethod yX12_want ∈ tb := mb_6_4 _ (List.mem_of_getElem? (i := 4) rfl)
theorem m_1475 : Cond.code yX12_want cX12_want 4 (some .boolean) ∈ tb := mb_6_4 _ (List.mem_of_getElem? (i := 5) rfl)
theorem m_1494 : Cond.constantLong RX12 274 (48) ∈ tb := mb_6_4 _ (List.mem_of_getElem? (i := 21) rfl)
theorem m_1495 : Cond.constantLong RX12 276 (57) ∈ tb := mb_6_4 _ (List.mem_of_getElem? (i := 22) rfl)
theorem hd_X12_isWord_v : yX12_isWord.cls = RX12 ∧ yX12_isWord.cls ≠ "java/lang/invoke/MethodHandle" ∧ yX12_isWord.cls ≠ "java/lang/invoke/VarHandle" ∧ (parseMethodDescriptor yX12_isWord.desc).map (fun d => d.parameters.length) = some 7 := by decide +kernel
theorem hd_X12_want_v : yX12_want.cls = RX12 ∧ yX12_want.cls ≠ "java/lang/invoke/MethodHandle" ∧ yX12_want.cls ≠ "java/lang/invoke/VarHandle" ∧ (parseMethodDescriptor yX12_want.desc).map (fun d => d.parameters.length) = some 3 := by decide +kernel
set_option maxRecDepth 100000 in
theorem dvX12_feed_12 : ([(12, .ldc 178, 2), (14, .ireturn, 1), (27, .ldc 182, 2), (29, .ireturn, 1), (61, .aload_n 0, 1), (62, .dup, 1), (63, .getfield 249, 3), (66, .iconst 1, 1), (67, .iadd, 1), (68, .putfield 249, 3), (71, .iinc 4 (-1), 3), (74, .goto (-39), 3), (77, .aload_n 0, 1), (78, .getfield 249, 3), (81, .ireturn, 1)] : List (Nat × Instr × Nat)).all (fun q => decide (decode cX12_feed q.1 = .ok (q.2.1, q.2.2))) = true := by decide +kernel
theorem dX12_feed_12 : decode cX12_feed 12 = .ok (.ldc 178, 2) := all_at dvX12_feed_12 0 rfl
theorem dX12_feed_14 : decode cX12_feed 14 = .ok (.ireturn, 1) := all_at dvX12_feed_12 1 rfl
theorem dX12_feed_27 : decode cX12_feed 27 = .ok (.ldc 182, 2) := all_at dvX12_feed_12 2 rfl
theorem dX12_feed_29 : decode cX12_feed 29 = .ok (.ireturn, 1) := all_at dvX12_feed_12 3 rfl
theorem dX12_feed_61 : decode cX12_feed 61 = .ok (.aload_n 0, 1) := all_at dvX12_feed_12 4 rfl
theorem dX12_feed_62 : decode cX12_feed 62 = .ok (.dup, 1) := all_at dvX12_feed_12 5 rfl
theorem dX12_feed_63 : decode cX12_feed 63 = .ok (.getfield 249, 3) := all_at dvX12_feed_12 6 rfl
theorem dX12_feed_66 : decode cX12_feed 66 = .ok (.iconst 1, 1) := all_at dvX12_feed_12 7 rfl
theorem dX12_feed_67 : decode cX12_feed 67 = .ok (.iadd, 1) := all_at dvX12_feed_12 8 rfl
theorem dX12_feed_68 : decode cX12_feed 68 = .ok (.putfield 249, 3) := all_at dvX12_feed_12 9 rfl
theorem dX12_feed_71 : decode cX12_feed 71 = .ok (.iinc 4 (-1), 3) := all_at dvX12_feed_12 10 rfl
theorem dX12_feed_74 : decode cX12_feed 74 = .ok (.goto (-39), 3) := all_at dvX12_feed_12 11 rfl
theorem dX12_feed_77 : decode cX12_feed 77 = .ok (.aload_n 0, 1) := all_at dvX12_feed_12 12 rfl
theorem dX12_feed_78 : decode cX12_feed 78 = .ok (.getfield 249, 3) := all_at dvX12_feed_12 13 rfl
theorem dX12_feed_81 : decode cX12_feed 81 = .ok (.ireturn, 1) := all_at dvX12_feed_12 14 rfl
set_option maxRecDepth 100000 in
theorem dvX12_isWord_0 : ([(0, .aload_n 0, 1), (1, .getfield 271, 3), (4, .iload_n 1, 1), (5, .if_icmp .ne 7, 3), (8, .iconst 1, 1), (9, .goto 4, 3), (12, .iconst 0, 1), (13, .istore 8, 2), (15, .iconst 0, 1), (16, .istore 9, 2), (18, .iload 9, 2), (20, .iload_n 1, 1), (21, .if_icmp .ge 90, 3), (24, .iload 8, 2), (26, .ifCond .eq 85, 3), (29, .aload_n 0, 1), (30, .getfield 83, 3), (33, .aload_n 0, 1), (34, .getfield 264, 3), (37, .iload 9, 2), (39, .iadd, 1), (40, .iaload, 1), (41, .iload 9, 2), (43, .ifCond .ne 7, 3)] : List (Nat × Instr × Nat)).all (fun q => decide (decode cX12_isWord q.1 = .ok (q.2.1, q.2.2))) = true := by decide +kernel
theorem dX12_isWord_0 : decode cX12_isWord 0 = .ok (.aload_n 0, 1) := all_at dvX12_isWord_0 0 rfl
theorem dX12_isWord_1 : decode cX12_isWord 1 = .ok (.getfield 271, 3) := all_at dvX12_isWord_0 1 rfl
theorem dX12_isWord_4 : decode cX12_isWord 4 = .ok (.iload_n 1, 1) := all_at dvX12_isWord_0 2 rfl
theorem dX12_isWord_5 : decode cX12_isWord 5 = .ok (.if_icmp .ne 7, 3) := all_at dvX12_isWord_0 3 rfl
theorem dX12_isWord_8 : decode cX12_isWord 8 = .ok (.iconst 1, 1) := all_at dvX12_isWord_0 4 rfl
theorem dX12_isWord_9 : decode cX12_isWord 9 = .ok (.goto 4, 3) := all_at dvX12_isWord_0 5 rfl
theorem dX12_isWord_12 : decode cX12_isWord 12 = .ok (.iconst 0, 1) := all_at dvX12_isWord_0 6 rfl
theorem dX12_isWord_13 : decode cX12_isWord 13 = .ok (.istore 8, 2) := all_at dvX12_isWord_0 7 rfl
theorem dX12_isWord_15 : decode cX12_isWord 15 = .ok (.iconst 0, 1) := all_at dvX12_isWord_0 8 rfl
theorem dX12_isWord_16 : decode cX12_isWord 16 = .ok (.istore 9, 2) := all_at dvX12_isWord_0 9 rfl
theorem dX12_isWord_18 : decode cX12_isWord 18 = .ok (.iload 9, 2) := all_at dvX12_isWord_0 10 rfl
theorem dX12_isWord_20 : decode cX12_isWord 20 = .ok (.iload_n 1, 1) := all_at dvX12_isWord_0 11 rfl
theorem dX12_isWord_21 : decode cX12_isWord 21 = .ok (.if_icmp .ge 90, 3) := all_at dvX12_isWord_0 12 rfl
theorem dX12_isWord_24 : decode cX12_isWord 24 = .ok (.iload 8, 2) := all_at dvX12_isWord_0 13 rfl
theorem dX12_isWord_26 : decode cX12_isWord 26 = .ok (.ifCond .eq 85, 3) := all_at dvX12_isWord_0 14 rfl
theorem dX12_isWord_29 : decode cX12_isWord 29 = .ok (.aload_n 0, 1) := all_at dvX12_isWord_0 15 rfl
theorem dX12_isWord_30 : decode cX12_isWord 30 = .ok (.getfield 83, 3) := all_at dvX12_isWord_0 16 rfl
theorem dX12_isWord_33 : decode cX12_isWord 33 = .ok (.aload_n 0, 1) := all_at dvX12_isWord_0 17 rfl
theorem dX12_isWord_34 : decode cX12_isWord 34 = .ok (.getfield 264, 3) := all_at dvX12_isWord_0 18 rfl
theorem dX12_isWord_37 : decode cX12_isWord 37 = .ok (.iload 9, 2) := all_at dvX12_isWord_0 19 rfl
theorem dX12_isWord_39 : decode cX12_isWord 39 = .ok (.iadd, 1) := all_at dvX12_isWord_0 20 rfl
theorem dX12_isWord_40 : decode cX12_isWord 40 = .ok (.iaload, 1) := all_at dvX12_isWord_0 21 rfl
theorem dX12_isWord_41 : decode cX12_isWord 41 = .ok (.iload 9, 2) := all_at dvX12_isWord_0 22 rfl
theorem dX12_isWord_43 : decode cX12_isWord 43 = .ok (.ifCond .ne 7, 3) := all_at dvX12_isWord_0 23 rfl
set_option maxRecDepth 100000 in
theorem dvX12_isWord_46 : ([(46, .iload_n 2, 1), (47, .goto 48, 3), (50, .iload 9, 2), (52, .iconst 1, 1), (53, .if_icmp .ne 7, 3), (56, .iload_n 3, 1), (57, .goto 38, 3), (60, .iload 9, 2), (62, .iconst 2, 1), (63, .if_icmp .ne 8, 3), (66, .iload 4, 2), (68, .goto 27, 3), (71, .iload 9, 2), (73, .iconst 3, 1), (74, .if_icmp .ne 8, 3), (77, .iload 5, 2), (79, .goto 16, 3), (82, .iload 9, 2), (84, .iconst 4, 1), (85, .if_icmp .ne 8, 3), (88, .iload 6, 2), (90, .goto 5, 3), (93, .iload 7, 2), (95, .if_icmp .ne 7, 3)] : List (Nat × Instr × Nat)).all (fun q => decide (decode cX12_isWord q.1 = .ok (q.2.1, q.2.2))) = true := by decide +kernel
theorem dX12_isWord_46 : decode cX12_isWord 46 = .ok (.iload_n 2, 1) := all_at dvX12_isWord_46 0 rfl
theorem dX12_isWord_47 : decode cX12_isWord 47 = .ok (.goto 48, 3) := all_at dvX12_isWord_46 1 rfl
theorem dX12_isWord_50 : decode cX12_isWord 50 = .ok (.iload 9, 2) := all_at dvX12_isWord_46 2 rfl
theorem dX12_isWord_52 : decode cX12_isWord 52 = .ok (.iconst 1, 1) := all_at dvX12_isWord_46 3 rfl
theorem dX12_isWord_53 : decode cX12_isWord 53 = .ok (.if_icmp .ne 7, 3) := all_at dvX12_isWord_46 4 rfl
theorem dX12_isWord_56 : decode cX12_isWord 56 = .ok (.iload_n 3, 1) := all_at dvX12_isWord_46 5 rfl
theorem dX12_isWord_57 : decode cX12_isWord 57 = .ok (.goto 38, 3) := all_at dvX12_isWord_46 6 rfl
theorem dX12_isWord_60 : decode cX12_isWord 60 = .ok (.iload 9, 2) := all_at dvX12_isWord_46 7 rfl
theorem dX12_isWord_62 : decode cX12_isWord 62 = .ok (.iconst 2, 1) := all_at dvX12_isWord_46 8 rfl
theorem dX12_isWord_63 : decode cX12_isWord 63 = .ok (.if_icmp .ne 8, 3) := all_at dvX12_isWord_46 9 rfl
theorem dX12_isWord_66 : decode cX12_isWord 66 = .ok (.iload 4, 2) := all_at dvX12_isWord_46 10 rfl
theorem dX12_isWord_68 : decode cX12_isWord 68 = .ok (.goto 27, 3) := all_at dvX12_isWord_46 11 rfl
theorem dX12_isWord_71 : decode cX12_isWord 71 = .ok (.iload 9, 2) := all_at dvX12_isWord_46 12 rfl
theorem dX12_isWord_73 : decode cX12_isWord 73 = .ok (.iconst 3, 1) := all_at dvX12_isWord_46 13 rfl
theorem dX12_isWord_74 : decode cX12_isWord 74 = .ok (.if_icmp .ne 8, 3) := all_at dvX12_isWord_46 14 rfl
theorem dX12_isWord_77 : decode cX12_isWord 77 = .ok (.iload 5, 2) := all_at dvX12_isWord_46 15 rfl
theorem dX12_isWord_79 : decode cX12_isWord 79 = .ok (.goto 16, 3) := all_at dvX12_isWord_46 16 rfl
theorem dX12_isWord_82 : decode cX12_isWord 82 = .ok (.iload 9, 2) := all_at dvX12_isWord_46 17 rfl
theorem dX12_isWord_84 : decode cX12_isWord 84 = .ok (.iconst 4, 1) := all_at dvX12_isWord_46 18 rfl
theorem dX12_isWord_85 : decode cX12_isWord 85 = .ok (.if_icmp .ne 8, 3) := all_at dvX12_isWord_46 19 rfl
theorem dX12_isWord_88 : decode cX12_isWord 88 = .ok (.iload 6, 2) := all_at dvX12_isWord_46 20 rfl
theorem dX12_isWord_90 : decode cX12_isWord 90 = .ok (.goto 5, 3) := all_at dvX12_isWord_46 21 rfl
theorem dX12_isWord_93 : decode cX12_isWord 93 = .ok (.iload 7, 2) := all_at dvX12_isWord_46 22 rfl
theorem dX12_isWord_95 : decode cX12_isWord 95 = .ok (.if_icmp .ne 7, 3) := all_at dvX12_isWord_46 23 rfl
set_option maxRecDepth 100000 in
theorem dvX12_isWord_98 : ([(98, .iconst 1, 1), (99, .goto 4, 3), (102, .iconst 0, 1), (103, .istore 8, 2), (105, .iinc 9 1, 3), (108, .goto (-90), 3), (111, .iload 8, 2), (113, .ireturn, 1)] : List (Nat × Instr × Nat)).all (fun q => decide (decode cX12_isWord q.1 = .ok (q.2.1, q.2.2))) = true := by decide +kernel
theorem dX12_isWord_98 : decode cX12_isWord 98 = .ok (.iconst 1, 1) := all_at dvX12_isWord_98 0 rfl
theorem dX12_isWord_99 : decode cX12_isWord 99 = .ok (.goto 4, 3) := all_at dvX12_isWord_98 1 rfl
theorem dX12_isWord_102 : decode cX12_isWord 102 = .ok (.iconst 0, 1) := all_at dvX12_isWord_98 2 rfl
theorem dX12_isWord_103 : decode cX12_isWord 103 = .ok (.istore 8, 2) := all_at dvX12_isWord_98 3 rfl
theorem dX12_isWord_105 : decode cX12_isWord 105 = .ok (.iinc 9 1, 3) := all_at dvX12_isWord_98 4 rfl
theorem dX12_isWord_108 : decode cX12_isWord 108 = .ok (.goto (-90), 3) := all_at dvX12_isWord_98 5 rfl
theorem dX12_isWord_111 : decode cX12_isWord 111 = .ok (.iload 8, 2) := all_at dvX12_isWord_98 6 rfl
theorem dX12_isWord_113 : decode cX12_isWord 113 = .ok (.ireturn, 1) := all_at dvX12_isWord_98 7 rfl
set_option maxRecDepth 100000 in
theorem dvX12_letOf_0 : ([(0, .aload_n 0, 1), (1, .iconst 5, 1), (2, .bipush 119, 2), (4, .bipush 97, 2), (6, .bipush 116, 2), (8, .bipush 101, 2), (10, .bipush 114, 2), (12, .iconst 0, 1), (13, .invokevirtual 282, 3), (16, .ifCond .eq 5, 3), (19, .iconst 0, 1), (20, .ireturn, 1), (21, .aload_n 0, 1), (22, .bipush 6, 2), (24, .bipush 115, 2), (26, .bipush 107, 2), (28, .bipush 101, 2), (30, .bipush 105, 2), (32, .bipush 110, 2), (34, .bipush 115, 2), (36, .invokevirtual 282, 3), (39, .ifCond .eq 5, 3), (42, .iconst 1, 1), (43, .ireturn, 1)] : List (Nat × Instr × Nat)).all (fun q => decide (decode cX12_letOf q.1 = .ok (q.2.1, q.2.2))) = true := by decide +kernel
theorem dX12_letOf_0 : decode cX12_letOf 0 = .ok (.aload_n 0, 1) := all_at dvX12_letOf_0 0 rfl
theorem dX12_letOf_1 : decode cX12_letOf 1 = .ok (.iconst 5, 1) := all_at dvX12_letOf_0 1 rfl
theorem dX12_letOf_2 : decode cX12_letOf 2 = .ok (.bipush 119, 2) := all_at dvX12_letOf_0 2 rfl
theorem dX12_letOf_4 : decode cX12_letOf 4 = .ok (.bipush 97, 2) := all_at dvX12_letOf_0 3 rfl
theorem dX12_letOf_6 : decode cX12_letOf 6 = .ok (.bipush 116, 2) := all_at dvX12_letOf_0 4 rfl
theorem dX12_letOf_8 : decode cX12_letOf 8 = .ok (.bipush 101, 2) := all_at dvX12_letOf_0 5 rfl
theorem dX12_letOf_10 : decode cX12_letOf 10 = .ok (.bipush 114, 2) := all_at dvX12_letOf_0 6 rfl
theorem dX12_letOf_12 : decode cX12_letOf 12 = .ok (.iconst 0, 1) := all_at dvX12_letOf_0 7 rfl
theorem dX12_letOf_13 : decode cX12_letOf 13 = .ok (.invokevirtual 282, 3) := all_at dvX12_letOf_0 8 rfl
theorem dX12_letOf_16 : decode cX12_letOf 16 = .ok (.ifCond .eq 5, 3) := all_at dvX12_letOf_0 9 rfl
theorem dX12_letOf_19 : decode cX12_letOf 19 = .ok (.iconst 0, 1) := all_at dvX12_letOf_0 10 rfl
theorem dX12_letOf_20 : decode cX12_letOf 20 = .ok (.ireturn, 1) := all_at dvX12_letOf_0 11 rfl
theorem dX12_letOf_21 : decode cX12_letOf 21 = .ok (.aload_n 0, 1) := all_at dvX12_letOf_0 12 rfl
theorem dX12_letOf_22 : decode cX12_letOf 22 = .ok (.bipush 6, 2) := all_at dvX12_letOf_0 13 rfl
theorem dX12_letOf_24 : decode cX12_letOf 24 = .ok (.bipush 115, 2) := all_at dvX12_letOf_0 14 rfl
theorem dX12_letOf_26 : decode cX12_letOf 26 = .ok (.bipush 107, 2) := all_at dvX12_letOf_0 15 rfl
theorem dX12_letOf_28 : decode cX12_letOf 28 = .ok (.bipush 101, 2) := all_at dvX12_letOf_0 16 rfl
theorem dX12_letOf_30 : decode cX12_letOf 30 = .ok (.bipush 105, 2) := all_at dvX12_letOf_0 17 rfl
theorem dX12_letOf_32 : decode cX12_letOf 32 = .ok (.bipush 110, 2) := all_at dvX12_letOf_0 18 rfl
theorem dX12_letOf_34 : decode cX12_letOf 34 = .ok (.bipush 115, 2) := all_at dvX12_letOf_0 19 rfl
theorem dX12_letOf_36 : decode cX12_letOf 36 = .ok (.invokevirtual 282, 3) := all_at dvX12_letOf_0 20 rfl
theorem dX12_letOf_39 : decode cX12_letOf 39 = .ok (.ifCond .eq 5, 3) := all_at dvX12_letOf_0 21 rfl
theorem dX12_letOf_42 : decode cX12_letOf 42 = .ok (.iconst 1, 1) := all_at dvX12_letOf_0 22 rfl
theorem dX12_letOf_43 : decode cX12_letOf 43 = .ok (.ireturn, 1) := all_at dvX12_letOf_0 23 rfl
set_option maxRecDepth 100000 in
theorem dvX12_letOf_44 : ([(44, .aload_n 0, 1), (45, .iconst 4, 1), (46, .bipush 112, 2), (48, .bipush 97, 2), (50, .bipush 114, 2), (52, .bipush 116, 2), (54, .iconst 0, 1), (55, .iconst 0, 1), (56, .invokevirtual 282, 3), (59, .ifCond .eq 5, 3), (62, .iconst 2, 1), (63, .ireturn, 1), (64, .aload_n 0, 1), (65, .iconst 5, 1), (66, .bipush 108, 2), (68, .bipush 111, 2), (70, .bipush 111, 2), (72, .bipush 107, 2), (74, .bipush 115, 2), (76, .iconst 0, 1), (77, .invokevirtual 282, 3), (80, .ifCond .eq 5, 3), (83, .iconst 3, 1), (84, .ireturn, 1)] : List (Nat × Instr × Nat)).all (fun q => decide (decode cX12_letOf q.1 = .ok (q.2.1, q.2.2))) = true := by decide +kernel
theorem dX12_letOf_44 : decode cX12_letOf 44 = .ok (.aload_n 0, 1) := all_at dvX12_letOf_44 0 rfl
theorem dX12_letOf_45 : decode cX12_letOf 45 = .ok (.iconst 4, 1) := all_at dvX12_letOf_44 1 rfl
theorem dX12_letOf_46 : decode cX12_letOf 46 = .ok (.bipush 112, 2) := all_at dvX12_letOf_44 2 rfl
theorem dX12_letOf_48 : decode cX12_letOf 48 = .ok (.bipush 97, 2) := all_at dvX12_letOf_44 3 rfl
theorem dX12_letOf_50 : decode cX12_letOf 50 = .ok (.bipush 114, 2) := all_at dvX12_letOf_44 4 rfl
theorem dX12_letOf_52 : decode cX12_letOf 52 = .ok (.bipush 116, 2) := all_at dvX12_letOf_44 5 rfl
theorem dX12_letOf_54 : decode cX12_letOf 54 = .ok (.iconst 0, 1) := all_at dvX12_letOf_44 6 rfl
theorem dX12_letOf_55 : decode cX12_letOf 55 = .ok (.iconst 0, 1) := all_at dvX12_letOf_44 7 rfl
theorem dX12_letOf_56 : decode cX12_letOf 56 = .ok (.invokevirtual 282, 3) := all_at dvX12_letOf_44 8 rfl
theorem dX12_letOf_59 : decode cX12_letOf 59 = .ok (.ifCond .eq 5, 3) := all_at dvX12_letOf_44 9 rfl
theorem dX12_letOf_62 : decode cX12_letOf 62 = .ok (.iconst 2, 1) := all_at dvX12_letOf_44 10 rfl
theorem dX12_letOf_63 : decode cX12_letOf 63 = .ok (.ireturn, 1) := all_at dvX12_letOf_44 11 rfl
theorem dX12_letOf_64 : decode cX12_letOf 64 = .ok (.aload_n 0, 1) := all_at dvX12_letOf_44 12 rfl
theorem dX12_letOf_65 : decode cX12_letOf 65 = .ok (.iconst 5, 1) := all_at dvX12_letOf_44 13 rfl
theorem dX12_letOf_66 : decode cX12_letOf 66 = .ok (.bipush 108, 2) := all_at dvX12_letOf_44 14 rfl
theorem dX12_letOf_68 : decode cX12_letOf 68 = .ok (.bipush 111, 2) := all_at dvX12_letOf_44 15 rfl
theorem dX12_letOf_70 : decode cX12_letOf 70 = .ok (.bipush 111, 2) := all_at dvX12_letOf_44 16 rfl
theorem dX12_letOf_72 : decode cX12_letOf 72 = .ok (.bipush 107, 2) := all_at dvX12_letOf_44 17 rfl
theorem dX12_letOf_74 : decode cX12_letOf 74 = .ok (.bipush 115, 2) := all_at dvX12_letOf_44 18 rfl
theorem dX12_letOf_76 : decode cX12_letOf 76 = .ok (.iconst 0, 1) := all_at dvX12_letOf_44 19 rfl
theorem dX12_letOf_77 : decode cX12_letOf 77 = .ok (.invokevirtual 282, 3) := all_at dvX12_letOf_44 20 rfl
theorem dX12_letOf_80 : decode cX12_letOf 80 = .ok (.ifCond .eq 5, 3) := all_at dvX12_letOf_44 21 rfl
theorem dX12_letOf_83 : decode cX12_letOf 83 = .ok (.iconst 3, 1) := all_at dvX12_letOf_44 22 rfl
theorem dX12_letOf_84 : decode cX12_letOf 84 = .ok (.ireturn, 1) := all_at dvX12_letOf_44 23 rfl
set_option maxRecDepth 100000 in
theorem dvX12_letOf_85 : ([(85, .aload_n 0, 1), (86, .iconst 3, 1), (87, .bipush 102, 2), (89, .bipush 101, 2), (91, .bipush 101, 2), (93, .iconst 0, 1), (94, .iconst 0, 1), (95, .iconst 0, 1), (96, .invokevirtual 282, 3), (99, .ifCond .eq 7, 3), (102, .iconst 4, 1), (103, .goto 4, 3), (106, .iconst (-1), 1), (107, .ireturn, 1)] : List (Nat × Instr × Nat)).all (fun q => decide (decode cX12_letOf q.1 = .ok (q.2.1, q.2.2))) = true := by decide +kernel
theorem dX12_letOf_85 : decode cX12_letOf 85 = .ok (.aload_n 0, 1) := all_at dvX12_letOf_85 0 rfl
theorem dX12_letOf_86 : decode cX12_letOf 86 = .ok (.iconst 3, 1) := all_at dvX12_letOf_85 1 rfl
theorem dX12_letOf_87 : decode cX12_letOf 87 = .ok (.bipush 102, 2) := all_at dvX12_letOf_85 2 rfl
theorem dX12_letOf_89 : decode cX12_letOf 89 = .ok (.bipush 101, 2) := all_at dvX12_letOf_85 3 rfl
theorem dX12_letOf_91 : decode cX12_letOf 91 = .ok (.bipush 101, 2) := all_at dvX12_letOf_85 4 rfl
theorem dX12_letOf_93 : decode cX12_letOf 93 = .ok (.iconst 0, 1) := all_at dvX12_letOf_85 5 rfl
theorem dX12_letOf_94 : decode cX12_letOf 94 = .ok (.iconst 0, 1) := all_at dvX12_letOf_85 6 rfl
theorem dX12_letOf_95 : decode cX12_letOf 95 = .ok (.iconst 0, 1) := all_at dvX12_letOf_85 7 rfl
theorem dX12_letOf_96 : decode cX12_letOf 96 = .ok (.invokevirtual 282, 3) := all_at dvX12_letOf_85 8 rfl
theorem dX12_letOf_99 : decode cX12_letOf 99 = .ok (.ifCond .eq 7, 3) := all_at dvX12_letOf_85 9 rfl
theorem dX12_letOf_102 : decode cX12_letOf 102 = .ok (.iconst 4, 1) := all_at dvX12_letOf_85 10 rfl
theorem dX12_letOf_103 : decode cX12_letOf 103 = .ok (.goto 4, 3) := all_at dvX12_letOf_85 11 rfl
theorem dX12_letOf_106 : decode cX12_letOf 106 = .ok (.iconst (-1), 1) := all_at dvX12_letOf_85 12 rfl
theorem dX12_letOf_107 : decode cX12_letOf 107 = .ok (.ireturn, 1) := all_at dvX12_letOf_85 13 rfl
set_option maxRecDepth 100000 in
theorem dvX12_takeNumber_0 : ([(0, .aload_n 0, 1), (1, .invokevirtual 260, 3), (4, .istore_n 3, 1), (5, .aload_n 0, 1), (6, .aload_n 0, 1), (7, .getfield 254, 3), (10, .putfield 264, 3), (13, .aload_n 0, 1), (14, .iload_n 3, 1), (15, .i2l, 1), (16, .ldc2_w 274, 3), (19, .ldc2_w 276, 3), (22, .invokestatic 167, 3), (25, .iconst 1, 1), (26, .aload_n 0, 1), (27, .getfield 254, 3), (30, .invokevirtual 278, 3), (33, .ifCond .ne 5, 3), (36, .iconst 0, 1), (37, .ireturn, 1), (38, .iconst 0, 1), (39, .istore 4, 2), (41, .aload_n 0, 1), (42, .getfield 254, 3)] : List (Nat × Instr × Nat)).all (fun q => decide (decode cX12_takeNumber q.1 = .ok (q.2.1, q.2.2))) = true := by decide +kernel
theorem dX12_takeNumber_0 : decode cX12_takeNumber 0 = .ok (.aload_n 0, 1) := all_at dvX12_takeNumber_0 0 rfl
theorem dX12_takeNumber_1 : decode cX12_takeNumber 1 = .ok (.invokevirtual 260, 3) := all_at dvX12_takeNumber_0 1 rfl
theorem dX12_takeNumber_4 : decode cX12_takeNumber 4 = .ok (.istore_n 3, 1) := all_at dvX12_takeNumber_0 2 rfl
theorem dX12_takeNumber_5 : decode cX12_takeNumber 5 = .ok (.aload_n 0, 1) := all_at dvX12_takeNumber_0 3 rfl
theorem dX12_takeNumber_6 : decode cX12_takeNumber 6 = .ok (.aload_n 0, 1) := all_at dvX12_takeNumber_0 4 rfl
theorem dX12_takeNumber_7 : decode cX12_takeNumber 7 = .ok (.getfield 254, 3) := all_at dvX12_takeNumber_0 5 rfl
theorem dX12_takeNumber_10 : decode cX12_takeNumber 10 = .ok (.putfield 264, 3) := all_at dvX12_takeNumber_0 6 rfl
theorem dX12_takeNumber_13 : decode cX12_takeNumber 13 = .ok (.aload_n 0, 1) := all_at dvX12_takeNumber_0 7 rfl
theorem dX12_takeNumber_14 : decode cX12_takeNumber 14 = .ok (.iload_n 3, 1) := all_at dvX12_takeNumber_0 8 rfl
theorem dX12_takeNumber_15 : decode cX12_takeNumber 15 = .ok (.i2l, 1) := all_at dvX12_takeNumber_0 9 rfl
theorem dX12_takeNumber_16 : decode cX12_takeNumber 16 = .ok (.ldc2_w 274, 3) := all_at dvX12_takeNumber_0 10 rfl
theorem dX12_takeNumber_19 : decode cX12_takeNumber 19 = .ok (.ldc2_w 276, 3) := all_at dvX12_takeNumber_0 11 rfl
theorem dX12_takeNumber_22 : decode cX12_takeNumber 22 = .ok (.invokestatic 167, 3) := all_at dvX12_takeNumber_0 12 rfl
theorem dX12_takeNumber_25 : decode cX12_takeNumber 25 = .ok (.iconst 1, 1) := all_at dvX12_takeNumber_0 13 rfl
theorem dX12_takeNumber_26 : decode cX12_takeNumber 26 = .ok (.aload_n 0, 1) := all_at dvX12_takeNumber_0 14 rfl
theorem dX12_takeNumber_27 : decode cX12_takeNumber 27 = .ok (.getfield 254, 3) := all_at dvX12_takeNumber_0 15 rfl
theorem dX12_takeNumber_30 : decode cX12_takeNumber 30 = .ok (.invokevirtual 278, 3) := all_at dvX12_takeNumber_0 16 rfl
theorem dX12_takeNumber_33 : decode cX12_takeNumber 33 = .ok (.ifCond .ne 5, 3) := all_at dvX12_takeNumber_0 17 rfl
theorem dX12_takeNumber_36 : decode cX12_takeNumber 36 = .ok (.iconst 0, 1) := all_at dvX12_takeNumber_0 18 rfl
theorem dX12_takeNumber_37 : decode cX12_takeNumber 37 = .ok (.ireturn, 1) := all_at dvX12_takeNumber_0 19 rfl
theorem dX12_takeNumber_38 : decode cX12_takeNumber 38 = .ok (.iconst 0, 1) := all_at dvX12_takeNumber_0 20 rfl
theorem dX12_takeNumber_39 : decode cX12_takeNumber 39 = .ok (.istore 4, 2) := all_at dvX12_takeNumber_0 21 rfl
theorem dX12_takeNumber_41 : decode cX12_takeNumber 41 = .ok (.aload_n 0, 1) := all_at dvX12_takeNumber_0 22 rfl
theorem dX12_takeNumber_42 : decode cX12_takeNumber 42 = .ok (.getfield 254, 3) := all_at dvX12_takeNumber_0 23 rfl
set_option maxRecDepth 100000 in
theorem dvX12_takeNumber_45 : ([(45, .aload_n 0, 1), (46, .getfield 249, 3), (49, .if_icmp .ge 71, 3), (52, .aload_n 0, 1), (53, .getfield 83, 3), (56, .aload_n 0, 1), (57, .getfield 254, 3), (60, .iaload, 1), (61, .i2l, 1), (62, .ldc2_w 274, 3), (65, .ldc2_w 276, 3), (68, .invokestatic 167, 3), (71, .ifCond .eq 49, 3), (74, .iload 4, 2), (76, .sipush 9999, 3), (79, .if_icmp .le 8, 3), (82, .iload 4, 2), (84, .goto 21, 3), (87, .bipush 10, 2), (89, .iload 4, 2), (91, .imul, 1), (92, .aload_n 0, 1), (93, .getfield 83, 3), (96, .aload_n 0, 1)] : List (Nat × Instr × Nat)).all (fun q => decide (decode cX12_takeNumber q.1 = .ok (q.2.1, q.2.2))) = true := by decide +kernel
theorem dX12_takeNumber_45 : decode cX12_takeNumber 45 = .ok (.aload_n 0, 1) := all_at dvX12_takeNumber_45 0 rfl
theorem dX12_takeNumber_46 : decode cX12_takeNumber 46 = .ok (.getfield 249, 3) := all_at dvX12_takeNumber_45 1 rfl
theorem dX12_takeNumber_49 : decode cX12_takeNumber 49 = .ok (.if_icmp .ge 71, 3) := all_at dvX12_takeNumber_45 2 rfl
theorem dX12_takeNumber_52 : decode cX12_takeNumber 52 = .ok (.aload_n 0, 1) := all_at dvX12_takeNumber_45 3 rfl
theorem dX12_takeNumber_53 : decode cX12_takeNumber 53 = .ok (.getfield 83, 3) := all_at dvX12_takeNumber_45 4 rfl
theorem dX12_takeNumber_56 : decode cX12_takeNumber 56 = .ok (.aload_n 0, 1) := all_at dvX12_takeNumber_45 5 rfl
theorem dX12_takeNumber_57 : decode cX12_takeNumber 57 = .ok (.getfield 254, 3) := all_at dvX12_takeNumber_45 6 rfl
theorem dX12_takeNumber_60 : decode cX12_takeNumber 60 = .ok (.iaload, 1) := all_at dvX12_takeNumber_45 7 rfl
theorem dX12_takeNumber_61 : decode cX12_takeNumber 61 = .ok (.i2l, 1) := all_at dvX12_takeNumber_45 8 rfl
theorem dX12_takeNumber_62 : decode cX12_takeNumber 62 = .ok (.ldc2_w 274, 3) := all_at dvX12_takeNumber_45 9 rfl
theorem dX12_takeNumber_65 : decode cX12_takeNumber 65 = .ok (.ldc2_w 276, 3) := all_at dvX12_takeNumber_45 10 rfl
theorem dX12_takeNumber_68 : decode cX12_takeNumber 68 = .ok (.invokestatic 167, 3) := all_at dvX12_takeNumber_45 11 rfl
theorem dX12_takeNumber_71 : decode cX12_takeNumber 71 = .ok (.ifCond .eq 49, 3) := all_at dvX12_takeNumber_45 12 rfl
theorem dX12_takeNumber_74 : decode cX12_takeNumber 74 = .ok (.iload 4, 2) := all_at dvX12_takeNumber_45 13 rfl
theorem dX12_takeNumber_76 : decode cX12_takeNumber 76 = .ok (.sipush 9999, 3) := all_at dvX12_takeNumber_45 14 rfl
theorem dX12_takeNumber_79 : decode cX12_takeNumber 79 = .ok (.if_icmp .le 8, 3) := all_at dvX12_takeNumber_45 15 rfl
theorem dX12_takeNumber_82 : decode cX12_takeNumber 82 = .ok (.iload 4, 2) := all_at dvX12_takeNumber_45 16 rfl
theorem dX12_takeNumber_84 : decode cX12_takeNumber 84 = .ok (.goto 21, 3) := all_at dvX12_takeNumber_45 17 rfl
theorem dX12_takeNumber_87 : decode cX12_takeNumber 87 = .ok (.bipush 10, 2) := all_at dvX12_takeNumber_45 18 rfl
theorem dX12_takeNumber_89 : decode cX12_takeNumber 89 = .ok (.iload 4, 2) := all_at dvX12_takeNumber_45 19 rfl
theorem dX12_takeNumber_91 : decode cX12_takeNumber 91 = .ok (.imul, 1) := all_at dvX12_takeNumber_45 20 rfl
theorem dX12_takeNumber_92 : decode cX12_takeNumber 92 = .ok (.aload_n 0, 1) := all_at dvX12_takeNumber_45 21 rfl
theorem dX12_takeNumber_93 : decode cX12_takeNumber 93 = .ok (.getfield 83, 3) := all_at dvX12_takeNumber_45 22 rfl
theorem dX12_takeNumber_96 : decode cX12_takeNumber 96 = .ok (.aload_n 0, 1) := all_at dvX12_takeNumber_45 23 rfl
set_option maxRecDepth 100000 in
theorem dvX12_takeNumber_97 : ([(97, .getfield 254, 3), (100, .iaload, 1), (101, .iadd, 1), (102, .bipush 48, 2), (104, .isub, 1), (105, .istore 4, 2), (107, .aload_n 0, 1), (108, .dup, 1), (109, .getfield 254, 3), (112, .iconst 1, 1), (113, .iadd, 1), (114, .putfield 254, 3), (117, .goto (-76), 3), (120, .aload_n 0, 1), (121, .aload_n 0, 1), (122, .getfield 254, 3), (125, .aload_n 0, 1), (126, .getfield 264, 3), (129, .isub, 1), (130, .iconst 5, 1), (131, .if_icmp .ge 20, 3), (134, .iload 4, 2), (136, .i2l, 1), (137, .iload_n 1, 1)] : List (Nat × Instr × Nat)).all (fun q => decide (decode cX12_takeNumber q.1 = .ok (q.2.1, q.2.2))) = true := by decide +kernel
theorem dX12_takeNumber_97 : decode cX12_takeNumber 97 = .ok (.getfield 254, 3) := all_at dvX12_takeNumber_97 0 rfl
theorem dX12_takeNumber_100 : decode cX12_takeNumber 100 = .ok (.iaload, 1) := all_at dvX12_takeNumber_97 1 rfl
theorem dX12_takeNumber_101 : decode cX12_takeNumber 101 = .ok (.iadd, 1) := all_at dvX12_takeNumber_97 2 rfl
theorem dX12_takeNumber_102 : decode cX12_takeNumber 102 = .ok (.bipush 48, 2) := all_at dvX12_takeNumber_97 3 rfl
theorem dX12_takeNumber_104 : decode cX12_takeNumber 104 = .ok (.isub, 1) := all_at dvX12_takeNumber_97 4 rfl
theorem dX12_takeNumber_105 : decode cX12_takeNumber 105 = .ok (.istore 4, 2) := all_at dvX12_takeNumber_97 5 rfl
theorem dX12_takeNumber_107 : decode cX12_takeNumber 107 = .ok (.aload_n 0, 1) := all_at dvX12_takeNumber_97 6 rfl
theorem dX12_takeNumber_108 : decode cX12_takeNumber 108 = .ok (.dup, 1) := all_at dvX12_takeNumber_97 7 rfl
theorem dX12_takeNumber_109 : decode cX12_takeNumber 109 = .ok (.getfield 254, 3) := all_at dvX12_takeNumber_97 8 rfl
theorem dX12_takeNumber_112 : decode cX12_takeNumber 112 = .ok (.iconst 1, 1) := all_at dvX12_takeNumber_97 9 rfl
theorem dX12_takeNumber_113 : decode cX12_takeNumber 113 = .ok (.iadd, 1) := all_at dvX12_takeNumber_97 10 rfl
theorem dX12_takeNumber_114 : decode cX12_takeNumber 114 = .ok (.putfield 254, 3) := all_at dvX12_takeNumber_97 11 rfl
theorem dX12_takeNumber_117 : decode cX12_takeNumber 117 = .ok (.goto (-76), 3) := all_at dvX12_takeNumber_97 12 rfl
theorem dX12_takeNumber_120 : decode cX12_takeNumber 120 = .ok (.aload_n 0, 1) := all_at dvX12_takeNumber_97 13 rfl
theorem dX12_takeNumber_121 : decode cX12_takeNumber 121 = .ok (.aload_n 0, 1) := all_at dvX12_takeNumber_97 14 rfl
theorem dX12_takeNumber_122 : decode cX12_takeNumber 122 = .ok (.getfield 254, 3) := all_at dvX12_takeNumber_97 15 rfl
theorem dX12_takeNumber_125 : decode cX12_takeNumber 125 = .ok (.aload_n 0, 1) := all_at dvX12_takeNumber_97 16 rfl
theorem dX12_takeNumber_126 : decode cX12_takeNumber 126 = .ok (.getfield 264, 3) := all_at dvX12_takeNumber_97 17 rfl
theorem dX12_takeNumber_129 : decode cX12_takeNumber 129 = .ok (.isub, 1) := all_at dvX12_takeNumber_97 18 rfl
theorem dX12_takeNumber_130 : decode cX12_takeNumber 130 = .ok (.iconst 5, 1) := all_at dvX12_takeNumber_97 19 rfl
theorem dX12_takeNumber_131 : decode cX12_takeNumber 131 = .ok (.if_icmp .ge 20, 3) := all_at dvX12_takeNumber_97 20 rfl
theorem dX12_takeNumber_134 : decode cX12_takeNumber 134 = .ok (.iload 4, 2) := all_at dvX12_takeNumber_97 21 rfl
theorem dX12_takeNumber_136 : decode cX12_takeNumber 136 = .ok (.i2l, 1) := all_at dvX12_takeNumber_97 22 rfl
theorem dX12_takeNumber_137 : decode cX12_takeNumber 137 = .ok (.iload_n 1, 1) := all_at dvX12_takeNumber_97 23 rfl
set_option maxRecDepth 100000 in
theorem dvX12_takeNumber_138 : ([(138, .i2l, 1), (139, .iload_n 2, 1), (140, .i2l, 1), (141, .invokestatic 167, 3), (144, .ifCond .eq 7, 3), (147, .iconst 1, 1), (148, .goto 4, 3), (151, .iconst 0, 1), (152, .iconst 2, 1), (153, .aload_n 0, 1), (154, .getfield 264, 3), (157, .invokevirtual 278, 3), (160, .istore 5, 2), (162, .iload 4, 2), (164, .ireturn, 1)] : List (Nat × Instr × Nat)).all (fun q => decide (decode cX12_takeNumber q.1 = .ok (q.2.1, q.2.2))) = true := by decide +kernel
theorem dX12_takeNumber_138 : decode cX12_takeNumber 138 = .ok (.i2l, 1) := all_at dvX12_takeNumber_138 0 rfl
theorem dX12_takeNumber_139 : decode cX12_takeNumber 139 = .ok (.iload_n 2, 1) := all_at dvX12_takeNumber_138 1 rfl
theorem dX12_takeNumber_140 : decode cX12_takeNumber 140 = .ok (.i2l, 1) := all_at dvX12_takeNumber_138 2 rfl
theorem dX12_takeNumber_141 : decode cX12_takeNumber 141 = .ok (.invokestatic 167, 3) := all_at dvX12_takeNumber_138 3 rfl
theorem dX12_takeNumber_144 : decode cX12_takeNumber 144 = .ok (.ifCond .eq 7, 3) := all_at dvX12_takeNumber_138 4 rfl
theorem dX12_takeNumber_147 : decode cX12_takeNumber 147 = .ok (.iconst 1, 1) := all_at dvX12_takeNumber_138 5 rfl
theorem dX12_takeNumber_148 : decode cX12_takeNumber 148 = .ok (.goto 4, 3) := all_at dvX12_takeNumber_138 6 rfl
theorem dX12_takeNumber_151 : decode cX12_takeNumber 151 = .ok (.iconst 0, 1) := all_at dvX12_takeNumber_138 7 rfl
theorem dX12_takeNumber_152 : decode cX12_takeNumber 152 = .ok (.iconst 2, 1) := all_at dvX12_takeNumber_138 8 rfl
theorem dX12_takeNumber_153 : decode cX12_takeNumber 153 = .ok (.aload_n 0, 1) := all_at dvX12_takeNumber_138 9 rfl
theorem dX12_takeNumber_154 : decode cX12_takeNumber 154 = .ok (.getfield 264, 3) := all_at dvX12_takeNumber_138 10 rfl
theorem dX12_takeNumber_157 : decode cX12_takeNumber 157 = .ok (.invokevirtual 278, 3) := all_at dvX12_takeNumber_138 11 rfl
theorem dX12_takeNumber_160 : decode cX12_takeNumber 160 = .ok (.istore 5, 2) := all_at dvX12_takeNumber_138 12 rfl
theorem dX12_takeNumber_162 : decode cX12_takeNumber 162 = .ok (.iload 4, 2) := all_at dvX12_takeNumber_138 13 rfl
theorem dX12_takeNumber_164 : decode cX12_takeNumber 164 = .ok (.ireturn, 1) := all_at dvX12_takeNumber_138 14 rfl
set_option maxRecDepth 100000 in
theorem dvX12_takeWord_24 : ([(24, .aload_n 0, 1), (25, .getfield 83, 3), (28, .aload_n 0, 1), (29, .getfield 254, 3), (32, .iaload, 1), (33, .i2l, 1), (34, .ldc2_w 267, 3), (37, .ldc2_w 269, 3), (40, .invokestatic 167, 3), (43, .ifCond .eq 16, 3), (46, .aload_n 0, 1), (47, .dup, 1), (48, .getfield 254, 3), (51, .iconst 1, 1), (52, .iadd, 1), (53, .putfield 254, 3), (56, .goto (-43), 3), (72, .return_, 1)] : List (Nat × Instr × Nat)).all (fun q => decide (decode cX12_takeWord q.1 = .ok (q.2.1, q.2.2))) = true := by decide +kernel
theorem dX12_takeWord_24 : decode cX12_takeWord 24 = .ok (.aload_n 0, 1) := all_at dvX12_takeWord_24 0 rfl
theorem dX12_takeWord_25 : decode cX12_takeWord 25 = .ok (.getfield 83, 3) := all_at dvX12_takeWord_24 1 rfl
theorem dX12_takeWord_28 : decode cX12_takeWord 28 = .ok (.aload_n 0, 1) := all_at dvX12_takeWord_24 2 rfl
theorem dX12_takeWord_29 : decode cX12_takeWord 29 = .ok (.getfield 254, 3) := all_at dvX12_takeWord_24 3 rfl
theorem dX12_takeWord_32 : decode cX12_takeWord 32 = .ok (.iaload, 1) := all_at dvX12_takeWord_24 4 rfl
theorem dX12_takeWord_33 : decode cX12_takeWord 33 = .ok (.i2l, 1) := all_at dvX12_takeWord_24 5 rfl
theorem dX12_takeWord_34 : decode cX12_takeWord 34 = .ok (.ldc2_w 267, 3) := all_at dvX12_takeWord_24 6 rfl
theorem dX12_takeWord_37 : decode cX12_takeWord 37 = .ok (.ldc2_w 269, 3) := all_at dvX12_takeWord_24 7 rfl
theorem dX12_takeWord_40 : decode cX12_takeWord 40 = .ok (.invokestatic 167, 3) := all_at dvX12_takeWord_24 8 rfl
theorem dX12_takeWord_43 : decode cX12_takeWord 43 = .ok (.ifCond .eq 16, 3) := all_at dvX12_takeWord_24 9 rfl
theorem dX12_takeWord_46 : decode cX12_takeWord 46 = .ok (.aload_n 0, 1) := all_at dvX12_takeWord_24 10 rfl
theorem dX12_takeWord_47 : decode cX12_takeWord 47 = .ok (.dup, 1) := all_at dvX12_takeWord_24 11 rfl
theorem dX12_takeWord_48 : decode cX12_takeWord 48 = .ok (.getfield 254, 3) := all_at dvX12_takeWord_24 12 rfl
theorem dX12_takeWord_51 : decode cX12_takeWord 51 = .ok (.iconst 1, 1) := all_at dvX12_takeWord_24 13 rfl
theorem dX12_takeWord_52 : decode cX12_takeWord 52 = .ok (.iadd, 1) := all_at dvX12_takeWord_24 14 rfl
theorem dX12_takeWord_53 : decode cX12_takeWord 53 = .ok (.putfield 254, 3) := all_at dvX12_takeWord_24 15 rfl
theorem dX12_takeWord_56 : decode cX12_takeWord 56 = .ok (.goto (-43), 3) := all_at dvX12_takeWord_24 16 rfl
theorem dX12_takeWord_72 : decode cX12_takeWord 72 = .ok (.return_, 1) := all_at dvX12_takeWord_24 17 rfl
set_option maxHeartbeats 4000000 in
set_option maxRecDepth 100000 in
/-- X12_want -/
theorem c_X12_want_0 (l : Launch) (dC : Nat → ClassId) (dI : Nat → Nat → Nat) (sz : Nat) (h : Nat) (g : Nat → Nat → Nat) (ca : Nat → Nat → ClassId) (iv : Nat → Nat → Int32) (lv : Nat → Nat → Int64) (fa : Nat → Nat → Nat → Int32) (la : Nat → Nat → Nat → Int64) (hI : IX iv fa) (b : Int32) (d : Int32) (h_b : 1 ≤ b.toInt ∧ b.toInt ≤ 5) : Met l yX12_want (wc yX12_want cX12_want 4 (some .boolean)) ({ frames := 0, cells := 0, slots := 0, locals := 0 } : Room) (pW (dC, dI) classes (WM h g ca iv lv fa la) (TM ca) sz [.ref h, .int 0, .int b, .int d]) (va_Qi (fun r (u : SS) => ∃ (ni_12_35 : Int32) (ni_12_36 : Int32), inb (bI 12 35) ni_12_35 ∧ (1 ≤ (ni_12_35).toInt) ∧ (r = 0) ∧ u = ((u2 (u2 iv 12 35 ni_12_35) 12 36 ni_12_36), lv, fa, la)) (bM (dC, dI) h g ca (va_A (WM h g ca iv lv fa la) sz)) (va_A (WM h g ca iv lv fa la) sz)) 0 0 (va_A (WM h g ca iv lv fa la) sz) := by
  refine Met.ofW (cc := cX12_want) (maxL := 4) (ret := (some .boolean)) (by decide) rfl ?_
  intro p e s m args below meth c s₁ B hml hv
  obtain ⟨rfl, hsz, hP, hK, hD0⟩ := hv
  have hx := B.exec
  have hb := B.bytes
  have hr := B.returns
  have ht := tb_tl (atoms_spec (ws := wc yX12_want cX12_want 4 (some .boolean)) B.pre)
  have hown : s.vm.findClass RX12 = some m.cls := findClass_of_methodNamed B.named
  have hlocks := B.notSynchronized
  subst hsz
  have hD := hD0.self (sz := s.heap.size)
  generalize hAe : va_A (WM h g ca iv lv fa la) s.heap.size = A at hD ⊢
  have hA : ∀ q : Nat, s.heap.size ≤ q → A q := fun q h => by rw [← hAe]; exact Or.inr h
  have hS : va_S A s.heap s.heap [] := va_S.rf
  have hl := lv_entry [.ref h, .int 0, .int b, .int d] (n := 4) (Nat.le_of_ble_eq_true rfl)
  rw [lg_entry_eq]
  generalize (lg_sl [.ref h, .int 0, .int b, .int d] ++ List.replicate (4 - (lg_sl [.ref h, .int 0, .int b, .int d]).length) Slot.unset).toArray = ls at hl ⊢
  have hl : lv_has ls 4 [(0, .ref h), (1, .int 0), (2, .int b), (3, .int d)] := hl
  refine lv_iload_n hx hb dX12_want_0 rfl (lv_at hl 1 rfl) ?_
  refine lv_if_ne (tgt := 21) hx hb dX12_want_1 (by decide) (fun c1 => ?_) (fun c1 => ?_)
  · exact absurd rfl c1
  · skip
    refine lv_aload_n hx hb dX12_want_4 rfl (lv_at hl 0 rfl) ?_
    have i_12_35 : 0 ≤ (iv 12 35).toInt ∧ (iv 12 35).toInt ≤ 5 := hI.1 12 35
    refine gM_12_35 hx hb ht hown hK hP m_1174 (v := (iv 12 35)) rfl dX12_want_5 ?_
    refine lv_if_ne (tgt := 21) hx hb dX12_want_8 (by decide) (fun c2 => ?_) (fun c2 => ?_)
    · have fc2 := z_ne (rfl : ((iv 12 35)).toInt = _) (by decide : (0 : Int32).toInt = 0) c2
      refine lv_aload_n hx hb dX12_want_21 rfl (lv_at hl 0 rfl) ?_
      refine gM_12_35 hx hb ht hown hK hP m_1174 (v := (iv 12 35)) rfl dX12_want_22 ?_
      refine lv_if_ne (tgt := 32) hx hb dX12_want_25 (by decide) (fun c3 => ?_) (fun c3 => ?_)
      · skip
        refine lv_iconst (v := 0) hx hb dX12_want_32 (by decide) ?_
        have hP9 : va_P (dC, dI) classes (WM h g ca (u2 (u2 iv 12 35 (iv 12 35)) 12 36 (iv 12 36)) lv fa la) s.heap := hP
        have hD9 : va_D A (WM h g ca (u2 (u2 iv 12 35 (iv 12 35)) 12 36 (iv 12 36)) lv fa la) := hD
        exact W.zret (v := 0) hx hb hr rfl (fun t ht9 hW => ⟨⟨0, ((u2 (u2 iv 12 35 (iv 12 35)) 12 36 (iv 12 36)), lv, fa, la), rfl, ⟨(iv 12 35), (iv 12 36), (hI.1 12 35), (show 1 ≤ ((iv 12 35) : Int32).toInt from by omega), rfl, rfl⟩, by rw [ht9]; exact hP9, hD9⟩, hS.F ht9⟩) hS.2.2 dX12_want_33
      · have fc3 := z_eq (rfl : ((iv 12 35)).toInt = _) (by decide : (0 : Int32).toInt = 0) c3; exfalso; omega
    · have fc2 := z_eq (rfl : ((iv 12 35)).toInt = _) (by decide : (0 : Int32).toInt = 0) c2
      refine lv_aload_n hx hb dX12_want_11 rfl (lv_at hl 0 rfl) ?_
      refine lv_iload_n hx hb dX12_want_12 rfl (lv_at hl 2 rfl) ?_
      refine pM_12_35 (v := b) hx hb ht hown hK hP hD hS m_1174 dX12_want_13 (fun H locs hP hD hS => ?_)
      refine lv_aload_n hx hb dX12_want_16 rfl (lv_at hl 0 rfl) ?_
      refine lv_iload_n hx hb dX12_want_17 rfl (lv_at hl 3 rfl) ?_
      refine pM_12_36 (v := d) hx hb ht hown hK hP hD hS m_1175 dX12_want_18 (fun H locs hP hD hS => ?_)
      refine lv_aload_n hx hb dX12_want_21 rfl (lv_at hl 0 rfl) ?_
      refine gM_12_35 hx hb ht hown hK hP m_1174 (v := b) rfl dX12_want_22 ?_
      refine lv_if_ne (tgt := 32) hx hb dX12_want_25 (by decide) (fun c4 => ?_) (fun c4 => ?_)
      · skip
        refine lv_iconst (v := 0) hx hb dX12_want_32 (by decide) ?_
        have hP9 : va_P (dC, dI) classes (WM h g ca (u2 (u2 iv 12 35 b) 12 36 d) lv fa la) H := hP
        have hD9 : va_D A (WM h g ca (u2 (u2 iv 12 35 b) 12 36 d) lv fa la) := hD
        exact W.zret (v := 0) hx hb hr rfl (fun t ht9 hW => ⟨⟨0, ((u2 (u2 iv 12 35 b) 12 36 d), lv, fa, la), rfl, ⟨b, d, (show inb (0, 5) b from ⟨by omega, by omega⟩), (show 1 ≤ (b : Int32).toInt from by omega), rfl, rfl⟩, by rw [ht9]; exact hP9, hD9⟩, hS.F ht9⟩) hS.2.2 dX12_want_33
      · have fc4 := z_eq (rfl : (b).toInt = _) (by decide : (0 : Int32).toInt = 0) c4; exfalso; omega
set_option maxHeartbeats 4000000 in
set_option maxRecDepth 100000 in
/-- X12_want -/
theorem c_X12_want_1 (l : Launch) (dC : Nat → ClassId) (dI : Nat → Nat → Nat) (h : Nat) (g : Nat → Nat → Nat) (ca : Nat → Nat → ClassId) (iv : Nat → Nat → Int32) (lv : Nat → Nat → Int64) (fa : Nat → Nat → Nat → Int32) (la : Nat → Nat → Nat → Int64) (hI : IX iv fa) (b : Int32) (d : Int32) : Met l yX12_want (wc yX12_want cX12_want 4 (some .boolean)) ({ frames := 0, cells := 0, slots := 0, locals := 0 } : Room) (pR (dC, dI) classes (WM h g ca iv lv fa la) (TM ca) [.ref h, .int 1, .int b, .int d]) (vp_Si (fun r => (r = 1 ∧ ((iv 12 35).toInt = 0)) ∨ (r = 0 ∧ ¬ ((iv 12 35).toInt = 0)))) 0 0 (fun _ => False) := by
  refine Met.ofW (cc := cX12_want) (maxL := 4) (ret := (some .boolean)) (by decide) rfl ?_
  intro p e s m args below meth c s₁ B hml hv
  obtain ⟨rfl, hP, hK⟩ := hv
  have hx := B.exec
  have hb := B.bytes
  have hr := B.returns
  have ht := tb_tl (atoms_spec (ws := wc yX12_want cX12_want 4 (some .boolean)) B.pre)
  have hown : s.vm.findClass RX12 = some m.cls := findClass_of_methodNamed B.named
  have hlocks := B.notSynchronized
  have hl := lv_entry [.ref h, .int 1, .int b, .int d] (n := 4) (Nat.le_of_ble_eq_true rfl)
  rw [lg_entry_eq]
  generalize (lg_sl [.ref h, .int 1, .int b, .int d] ++ List.replicate (4 - (lg_sl [.ref h, .int 1, .int b, .int d]).length) Slot.unset).toArray = ls at hl ⊢
  have hl : lv_has ls 4 [(0, .ref h), (1, .int 1), (2, .int b), (3, .int d)] := hl
  refine lv_iload_n hx hb dX12_want_0 rfl (lv_at hl 1 rfl) ?_
  refine lv_if_ne (tgt := 21) hx hb dX12_want_1 (by decide) (fun c1 => ?_) (fun c1 => ?_)
  · skip
    refine lv_aload_n hx hb dX12_want_21 rfl (lv_at hl 0 rfl) ?_
    have i_12_35 : 0 ≤ (iv 12 35).toInt ∧ (iv 12 35).toInt ≤ 5 := hI.1 12 35
    refine gM_12_35 hx hb ht hown hK hP m_1174 (v := (iv 12 35)) rfl dX12_want_22 ?_
    refine lv_if_ne (tgt := 32) hx hb dX12_want_25 (by decide) (fun c2 => ?_) (fun c2 => ?_)
    · have fc2 := z_ne (rfl : ((iv 12 35)).toInt = _) (by decide : (0 : Int32).toInt = 0) c2
      refine lv_iconst (v := 0) hx hb dX12_want_32 (by decide) ?_
      exact W.zret (v := 0) hx hb hr rfl (fun t ht9 hW => ⟨0, rfl, Or.inr ⟨rfl, by omega⟩, ht9⟩) (fun q hq => by cases hq) dX12_want_33
    · have fc2 := z_eq (rfl : ((iv 12 35)).toInt = _) (by decide : (0 : Int32).toInt = 0) c2
      refine lv_iconst (v := 1) hx hb dX12_want_28 (by decide) ?_
      refine lv_goto (tgt := 33) hx hb dX12_want_29 (by decide) ?_
      exact W.zret (v := 1) hx hb hr rfl (fun t ht9 hW => ⟨1, rfl, Or.inl ⟨rfl, by omega⟩, ht9⟩) (fun q hq => by cases hq) dX12_want_33
  · exact absurd c1 (by decide)
set_option maxHeartbeats 4000000 in
set_option maxRecDepth 100000 in
/-- X12_here -/
theorem c_X12_here_x (l : Launch) (dC : Nat → ClassId) (dI : Nat → Nat → Nat) (sz : Nat) (h : Nat) (g : Nat → Nat → Nat) (ca : Nat → Nat → ClassId) (iv : Nat → Nat → Int32) (lv : Nat → Nat → Int64) (fa : Nat → Nat → Nat → Int32) (la : Nat → Nat → Nat → Int64) (hI : IX iv fa) : Met l yX12_here (wc yX12_here cX12_here 1 (some .int)) ({ frames := 0, cells := 0, slots := 0, locals := 0 } : Room) (pW (dC, dI) classes (WM h g ca iv lv fa la) (TM ca) sz [.ref h]) (va_Qi (fun r (u : SS) => ∃ (ni_12_34 : Int32), inb (bI 12 34) ni_12_34 ∧ ((iv 12 34).toInt ≤ (ni_12_34).toInt) ∧ ((r.toInt = -1 ∨ (ni_12_34).toInt + 1 ≤ (iv 12 33).toInt)) ∧ (True) ∧ u = ((u2 iv 12 34 ni_12_34), lv, fa, la)) (bM (dC, dI) h g ca (va_A (WM h g ca iv lv fa la) sz)) (va_A (WM h g ca iv lv fa la) sz)) 0 0 (va_A (WM h g ca iv lv fa la) sz) := by
  refine Met.ofW (cc := cX12_here) (maxL := 1) (ret := (some .int)) (by decide) rfl ?_
  intro p e s m args below meth c s₁ B hml hv
  obtain ⟨rfl, hsz, hP, hK, hD0⟩ := hv
  have hx := B.exec
  have hb := B.bytes
  have hr := B.returns
  have ht := tb_tl (atoms_spec (ws := wc yX12_here cX12_here 1 (some .int)) B.pre)
  have hown : s.vm.findClass RX12 = some m.cls := findClass_of_methodNamed B.named
  have hlocks := B.notSynchronized
  subst hsz
  have hD := hD0.self (sz := s.heap.size)
  generalize hAe : va_A (WM h g ca iv lv fa la) s.heap.size = A at hD ⊢
  have hA : ∀ q : Nat, s.heap.size ≤ q → A q := fun q h => by rw [← hAe]; exact Or.inr h
  have hS : va_S A s.heap s.heap [] := va_S.rf
  have hl := lv_entry [.ref h] (n := 1) (Nat.le_of_ble_eq_true rfl)
  rw [lg_entry_eq]
  generalize (lg_sl [.ref h] ++ List.replicate (1 - (lg_sl [.ref h]).length) Slot.unset).toArray = ls at hl ⊢
  have hl : lv_has ls 1 [(0, .ref h)] := hl
  have lp20 : ∀ (nn20 : Nat) (w19_i_12_34 : Int32), 0 ≤ w19_i_12_34.toInt ∧ w19_i_12_34.toInt ≤ 200 → (iv 12 34).toInt ≤ (w19_i_12_34 : Int32).toInt → 200 - w19_i_12_34.toInt < (nn20 : Int) → ∀ (H : Heap) (locs : List Loc), ∀ (ls : Array Slot), va_P (dC, dI) classes (WM h g ca (u2 iv 12 34 w19_i_12_34) lv fa la) H → va_D A (WM h g ca (u2 iv 12 34 w19_i_12_34) lv fa la) → va_S A s.heap H locs → lv_has ls 1 [(0, .ref h)] → W p l e ({ frames := 0, cells := 0, slots := 0, locals := 0 } : Room) s m ([.ref h] : List Value).toArray below meth c H locs 0 0 (MQ below (va_Qi (fun r (u : SS) => ∃ (ni_12_34 : Int32), inb (bI 12 34) ni_12_34 ∧ ((iv 12 34).toInt ≤ (ni_12_34).toInt) ∧ ((r.toInt = -1 ∨ (ni_12_34).toInt + 1 ≤ (iv 12 33).toInt)) ∧ (True) ∧ u = ((u2 iv 12 34 ni_12_34), lv, fa, la)) (bM (dC, dI) h g ca A) A) ([.ref h] : List Value).toArray s 0 0 A) (F0 m 0 ls []) := by
    intro nn20
    induction nn20 with
    | zero => intro w19_i_12_34 hw19_i_12_34 hq20_0 hm20; exfalso; omega
    | succ nn20 ih20 =>
      intro w19_i_12_34 hw19_i_12_34 hq20_0 hm20 H locs ls hP hD hS hl
      refine lv_aload_n hx hb dX12_here_0 rfl (lv_at hl 0 rfl) ?_
      refine gM_12_34 hx hb ht hown hK hP m_1173 (v := w19_i_12_34) rfl dX12_here_1 ?_
      refine lv_aload_n hx hb dX12_here_4 rfl (lv_at hl 0 rfl) ?_
      have i_12_33 : 0 ≤ (iv 12 33).toInt ∧ (iv 12 33).toInt ≤ 200 := hI.1 12 33
      refine gM_12_33 hx hb ht hown hK hP m_1172 (v := (iv 12 33)) rfl dX12_here_5 ?_
      refine lv_icmp_ge (tgt := 38) hx hb dX12_here_8 (by decide) (fun c21 => ?_) (fun c21 => ?_)
      · have fc21 := z_le (rfl : ((iv 12 33)).toInt = _) (rfl : (w19_i_12_34).toInt = _) c21
        refine lv_aload_n hx hb dX12_here_38 rfl (lv_at hl 0 rfl) ?_
        refine gM_12_34 hx hb ht hown hK hP m_1173 (v := w19_i_12_34) rfl dX12_here_39 ?_
        refine lv_aload_n hx hb dX12_here_42 rfl (lv_at hl 0 rfl) ?_
        refine gM_12_33 hx hb ht hown hK hP m_1172 (v := (iv 12 33)) rfl dX12_here_43 ?_
        refine lv_icmp_ge (tgt := 61) hx hb dX12_here_46 (by decide) (fun c22 => ?_) (fun c22 => ?_)
        · have fc22 := z_le (rfl : ((iv 12 33)).toInt = _) (rfl : (w19_i_12_34).toInt = _) c22
          refine lv_iconst (v := (-1)) hx hb dX12_here_61 (by decide) ?_
          have : ((-1) : Int32).toInt = (-1) := (by decide)
          have hP9 : va_P (dC, dI) classes (WM h g ca (u2 iv 12 34 w19_i_12_34) lv fa la) H := hP
          have hD9 : va_D A (WM h g ca (u2 iv 12 34 w19_i_12_34) lv fa la) := hD
          exact W.iret (v := (-1)) hx hb hr (fun t ht9 hW => ⟨⟨(-1), ((u2 iv 12 34 w19_i_12_34), lv, fa, la), rfl, ⟨w19_i_12_34, (show inb (0, 200) w19_i_12_34 from ⟨by omega, by omega⟩), (show (iv 12 34).toInt ≤ (w19_i_12_34 : Int32).toInt from by omega), (show (((-1) : Int32).toInt = -1 ∨ (w19_i_12_34 : Int32).toInt + 1 ≤ ((iv 12 33) : Int32).toInt) from by omega), trivial, rfl⟩, by rw [ht9]; exact hP9, hD9⟩, hS.F ht9⟩) hS.2.2 dX12_here_62
        · have fc22 := z_nle (rfl : ((iv 12 33)).toInt = _) (rfl : (w19_i_12_34).toInt = _) c22
          refine lv_aload_n hx hb dX12_here_49 rfl (lv_at hl 0 rfl) ?_
          refine gM_12_32 hx hb ht hown hK hP m_1171 dX12_here_50 ?_
          refine lv_aload_n hx hb dX12_here_53 rfl (lv_at hl 0 rfl) ?_
          refine gM_12_34 hx hb ht hown hK hP m_1173 (v := w19_i_12_34) rfl dX12_here_54 ?_
          refine lM_12_32 hx hb hK hP (f := (fa 12 32)) rfl (vp_in_iff.mpr ⟨by omega, by omega⟩) dX12_here_57 ?_
          refine lv_topi (fun v23 ev23 => ?_)
          refine lv_goto (tgt := 62) hx hb dX12_here_58 (by decide) ?_
          have hP9 : va_P (dC, dI) classes (WM h g ca (u2 iv 12 34 w19_i_12_34) lv fa la) H := hP
          have hD9 : va_D A (WM h g ca (u2 iv 12 34 w19_i_12_34) lv fa la) := hD
          exact W.iret (v := v23) hx hb hr (fun t ht9 hW => ⟨⟨v23, ((u2 iv 12 34 w19_i_12_34), lv, fa, la), rfl, ⟨w19_i_12_34, (show inb (0, 200) w19_i_12_34 from ⟨by omega, by omega⟩), (show (iv 12 34).toInt ≤ (w19_i_12_34 : Int32).toInt from by omega), (show ((v23 : Int32).toInt = -1 ∨ (w19_i_12_34 : Int32).toInt + 1 ≤ ((iv 12 33) : Int32).toInt) from by omega), trivial, rfl⟩, by rw [ht9]; exact hP9, hD9⟩, hS.F ht9⟩) hS.2.2 dX12_here_62
      · have fc21 := z_nle (rfl : ((iv 12 33)).toInt = _) (rfl : (w19_i_12_34).toInt = _) c21
        refine lv_aload_n hx hb dX12_here_11 rfl (lv_at hl 0 rfl) ?_
        refine gM_12_32 hx hb ht hown hK hP m_1171 dX12_here_12 ?_
        refine lv_aload_n hx hb dX12_here_15 rfl (lv_at hl 0 rfl) ?_
        refine gM_12_34 hx hb ht hown hK hP m_1173 (v := w19_i_12_34) rfl dX12_here_16 ?_
        refine lM_12_32 hx hb hK hP (f := (fa 12 32)) rfl (vp_in_iff.mpr ⟨by omega, by omega⟩) dX12_here_19 ?_
        refine lv_topi (fun v24 ev24 => ?_)
        refine lv_bipush (v := 32) hx hb dX12_here_20 (by decide) ?_
        refine lv_icmp_ne (tgt := 38) hx hb dX12_here_22 (by decide) (fun c25 => ?_) (fun c25 => ?_)
        · have fc25 := z_ne (rfl : (v24).toInt = _) (by decide : (32 : Int32).toInt = 32) c25
          refine lv_aload_n hx hb dX12_here_38 rfl (lv_at hl 0 rfl) ?_
          refine gM_12_34 hx hb ht hown hK hP m_1173 (v := w19_i_12_34) rfl dX12_here_39 ?_
          refine lv_aload_n hx hb dX12_here_42 rfl (lv_at hl 0 rfl) ?_
          refine gM_12_33 hx hb ht hown hK hP m_1172 (v := (iv 12 33)) rfl dX12_here_43 ?_
          refine lv_icmp_ge (tgt := 61) hx hb dX12_here_46 (by decide) (fun c26 => ?_) (fun c26 => ?_)
          · have fc26 := z_le (rfl : ((iv 12 33)).toInt = _) (rfl : (w19_i_12_34).toInt = _) c26
            refine lv_iconst (v := (-1)) hx hb dX12_here_61 (by decide) ?_
            have : ((-1) : Int32).toInt = (-1) := (by decide)
            have hP9 : va_P (dC, dI) classes (WM h g ca (u2 iv 12 34 w19_i_12_34) lv fa la) H := hP
            have hD9 : va_D A (WM h g ca (u2 iv 12 34 w19_i_12_34) lv fa la) := hD
            exact W.iret (v := (-1)) hx hb hr (fun t ht9 hW => ⟨⟨(-1), ((u2 iv 12 34 w19_i_12_34), lv, fa, la), rfl, ⟨w19_i_12_34, (show inb (0, 200) w19_i_12_34 from ⟨by omega, by omega⟩), (show (iv 12 34).toInt ≤ (w19_i_12_34 : Int32).toInt from by omega), (show (((-1) : Int32).toInt = -1 ∨ (w19_i_12_34 : Int32).toInt + 1 ≤ ((iv 12 33) : Int32).toInt) from by omega), trivial, rfl⟩, by rw [ht9]; exact hP9, hD9⟩, hS.F ht9⟩) hS.2.2 dX12_here_62
          · have fc26 := z_nle (rfl : ((iv 12 33)).toInt = _) (rfl : (w19_i_12_34).toInt = _) c26
            refine lv_aload_n hx hb dX12_here_49 rfl (lv_at hl 0 rfl) ?_
            refine gM_12_32 hx hb ht hown hK hP m_1171 dX12_here_50 ?_
            refine lv_aload_n hx hb dX12_here_53 rfl (lv_at hl 0 rfl) ?_
            refine gM_12_34 hx hb ht hown hK hP m_1173 (v := w19_i_12_34) rfl dX12_here_54 ?_
            refine lM_12_32 hx hb hK hP (f := (fa 12 32)) rfl (vp_in_iff.mpr ⟨by omega, by omega⟩) dX12_here_57 ?_
            refine lv_topi (fun v27 ev27 => ?_)
            obtain rfl : v24 = v27 := ev24.trans ev27.symm
            refine lv_goto (tgt := 62) hx hb dX12_here_58 (by decide) ?_
            have hP9 : va_P (dC, dI) classes (WM h g ca (u2 iv 12 34 w19_i_12_34) lv fa la) H := hP
            have hD9 : va_D A (WM h g ca (u2 iv 12 34 w19_i_12_34) lv fa la) := hD
            exact W.iret (v := v24) hx hb hr (fun t ht9 hW => ⟨⟨v24, ((u2 iv 12 34 w19_i_12_34), lv, fa, la), rfl, ⟨w19_i_12_34, (show inb (0, 200) w19_i_12_34 from ⟨by omega, by omega⟩), (show (iv 12 34).toInt ≤ (w19_i_12_34 : Int32).toInt from by omega), (show ((v24 : Int32).toInt = -1 ∨ (w19_i_12_34 : Int32).toInt + 1 ≤ ((iv 12 33) : Int32).toInt) from by omega), trivial, rfl⟩, by rw [ht9]; exact hP9, hD9⟩, hS.F ht9⟩) hS.2.2 dX12_here_62
        · have fc25 := z_eq (rfl : (v24).toInt = _) (by decide : (32 : Int32).toInt = 32) c25
          refine lv_aload_n hx hb dX12_here_25 rfl (lv_at hl 0 rfl) ?_
          refine lv_dup hx hb dX12_here_26 rfl ?_
          refine gM_12_34 hx hb ht hown hK hP m_1173 (v := w19_i_12_34) rfl dX12_here_27 ?_
          refine lv_iconst (v := 1) hx hb dX12_here_30 (by decide) ?_
          refine lv_iadd hx hb dX12_here_31 ?_
          refine lv_topi (fun v28 ev28 => ?_)
          have tv28 := z_add ev28 (rfl : (w19_i_12_34).toInt = _) (by decide : (1 : Int32).toInt = 1) (by omega) (by omega)
          refine pM_12_34 (v := v28) hx hb ht hown hK hP hD hS m_1173 dX12_here_32 (fun H locs hP hD hS => ?_)
          have hP : va_P (dC, dI) classes (WM h g ca (u2 iv 12 34 v28) lv fa la) H := hP
          have hD : va_D A (WM h g ca (u2 iv 12 34 v28) lv fa la) := hD
          refine lv_goto (tgt := 0) hx hb dX12_here_35 (by decide) ?_
          exact ih20 v28 ⟨by omega, by omega⟩ (show (iv 12 34).toInt ≤ (v28 : Int32).toInt from by omega) (by omega) _ _ ls hP hD hS (lv_sub hl [0] rfl)
  have i_12_34 : 0 ≤ (iv 12 34).toInt ∧ (iv 12 34).toInt ≤ 200 := hI.1 12 34
  exact lp20 201 (iv 12 34) ⟨by omega, by omega⟩ (show (iv 12 34).toInt ≤ ((iv 12 34) : Int32).toInt from by omega) (by first | decide | omega) _ _ ls hP hD hS (lv_sub hl [0] rfl)
set_option maxHeartbeats 4000000 in
set_option maxRecDepth 100000 in
/-- X12_takeWord -/
theorem c_X12_takeWord (l : Launch) (dC : Nat → ClassId) (dI : Nat → Nat → Nat) (sz : Nat) (h : Nat) (g : Nat → Nat → Nat) (ca : Nat → Nat → ClassId) (iv : Nat → Nat → Int32) (lv : Nat → Nat → Int64) (fa : Nat → Nat → Nat → Int32) (la : Nat → Nat → Nat → Int64) (hI : IX iv fa) : Met l yX12_takeWord (wc yX12_takeWord cX12_takeWord 2 none) ({ frames := 1, cells := 0, slots := 0, locals := 25 } : Room) (pW (dC, dI) classes (WM h g ca iv lv fa la) (TM ca) sz [.ref h]) (va_Qv (fun (u : SS) => ∃ (ni_12_34 : Int32) (ni_12_37 : Int32) (ni_12_38 : Int32), inb (bI 12 34) ni_12_34 ∧ inb (bI 12 37) ni_12_37 ∧ inb (bI 12 38) ni_12_38 ∧ ((iv 12 34).toInt ≤ (ni_12_37).toInt) ∧ ((ni_12_37).toInt + (ni_12_38).toInt = (ni_12_34).toInt) ∧ u = ((u2 (u2 (u2 iv 12 34 ni_12_34) 12 37 ni_12_37) 12 38 ni_12_38), lv, fa, la)) (bM (dC, dI) h g ca (va_A (WM h g ca iv lv fa la) sz)) (va_A (WM h g ca iv lv fa la) sz)) 0 0 (va_A (WM h g ca iv lv fa la) sz) := by
  refine Met.ofW (cc := cX12_takeWord) (maxL := 2) (ret := none) (by decide) rfl ?_
  intro p e s m args below meth c s₁ B hml hv
  obtain ⟨rfl, hsz, hP, hK, hD0⟩ := hv
  have hx := B.exec
  have hb := B.bytes
  have hr := B.returns
  have ht := tb_tl (atoms_spec (ws := wc yX12_takeWord cX12_takeWord 2 none) B.pre)
  have hown : s.vm.findClass RX12 = some m.cls := findClass_of_methodNamed B.named
  have hlocks := B.notSynchronized
  subst hsz
  have hD := hD0.self (sz := s.heap.size)
  generalize hAe : va_A (WM h g ca iv lv fa la) s.heap.size = A at hD ⊢
  have hA : ∀ q : Nat, s.heap.size ≤ q → A q := fun q h => by rw [← hAe]; exact Or.inr h
  have hS : va_S A s.heap s.heap [] := va_S.rf
  have hl := lv_entry [.ref h] (n := 2) (Nat.le_of_ble_eq_true rfl)
  rw [lg_entry_eq]
  generalize (lg_sl [.ref h] ++ List.replicate (2 - (lg_sl [.ref h]).length) Slot.unset).toArray = ls at hl ⊢
  have hl : lv_has ls 2 [(0, .ref h)] := hl
  refine lv_aload_n hx hb dX12_takeWord_0 rfl (lv_at hl 0 rfl) ?_
  have i_12_34 : 0 ≤ (iv 12 34).toInt ∧ (iv 12 34).toInt ≤ 200 := hI.1 12 34
  have hFc := free_all hD hS hA
  refine va_calli (va_runV (As := []) (rest := []) ⟨hx, hb, hml, hown, ht⟩ (c_X12_here_x l dC dI s.heap.size h g ca iv lv fa la hI) (kV 0 ht m_1458 m_1460 m_47 m_89 m_1461 rfl rfl hd_X12_here_v ⟨Nat.le_of_ble_eq_true rfl, Nat.le_of_ble_eq_true rfl⟩) (vW hP hK hD (rM_12 hK hP)) rfl rfl hl.1 rfl (lv_room (Nat.le_of_ble_eq_true rfl)) dX12_takeWord_1 ⟨Nat.le_of_ble_eq_true rfl, Nat.le_of_ble_eq_true rfl⟩) hS (fun q _ h => hFc q h) hFc (fun r1 u t H1 locs ht9 hvm hr1 hB hz1 hk1 hS => ?_)
  obtain ⟨n2, hn2, xr1_0, xr1_1, hr1, rfl⟩ := hr1
  have hn2 : 0 ≤ n2.toInt ∧ n2.toInt ≤ 200 := hn2
  obtain ⟨hP, hD⟩ := hB
  rw [ht9] at hP
  generalize H1 = H at hP hS ⊢
  have hP : va_P (dC, dI) classes (WM h g ca (u2 iv 12 34 n2) lv fa la) H := hP
  have hD : va_D A (WM h g ca (u2 iv 12 34 n2) lv fa la) := (show va_D _ (WM h g ca (u2 iv 12 34 n2) lv fa la) from hD).weaken (fun _ _ _ h => hFc _ h)
  have xr1_0 : ((iv 12 34) : Int32).toInt ≤ (n2 : Int32).toInt := xr1_0
  have i_12_33 : 0 ≤ (iv 12 33).toInt ∧ (iv 12 33).toInt ≤ 200 := hI.1 12 33
  have xr1_1 : ((r1 : Int32).toInt = -1 ∨ (n2 : Int32).toInt + 1 ≤ ((iv 12 33) : Int32).toInt) := xr1_1
  refine lv_istore_n (lv' := [(1, .int r1), (0, .ref h)]) hx hb dX12_takeWord_4 rfl hl (by decide) rfl (fun ls hl => ?_)
  refine lv_aload_n hx hb dX12_takeWord_5 rfl (lv_at hl 1 rfl) ?_
  refine lv_aload_n hx hb dX12_takeWord_6 rfl (lv_at hl 1 rfl) ?_
  refine gM_12_34 hx hb ht hown hK hP m_1173 (v := n2) rfl dX12_takeWord_7 ?_
  refine pM_12_37 (v := n2) hx hb ht hown hK hP hD hS m_1176 dX12_takeWord_10 (fun H locs hP hD hS => ?_)
  have lp22 : ∀ (nn22 : Nat) (w21_i_12_34 : Int32), 0 ≤ w21_i_12_34.toInt ∧ w21_i_12_34.toInt ≤ 200 → (iv 12 34).toInt ≤ (n2 : Int32).toInt → (n2 : Int32).toInt ≤ (w21_i_12_34 : Int32).toInt → 200 - w21_i_12_34.toInt < (nn22 : Int) → ∀ (H : Heap) (locs : List Loc), ∀ (ls : Array Slot), va_P (dC, dI) classes (WM h g ca (u2 (u2 iv 12 34 w21_i_12_34) 12 37 n2) lv fa la) H → va_D A (WM h g ca (u2 (u2 iv 12 34 w21_i_12_34) 12 37 n2) lv fa la) → va_S A s.heap H locs → lv_has ls 2 [(1, .int r1), (0, .ref h)] → W p l e ({ frames := 1, cells := 0, slots := 0, locals := 25 } : Room) s m ([.ref h] : List Value).toArray below meth c H locs 0 0 (MQ below (va_Qv (fun (u : SS) => ∃ (ni_12_34 : Int32) (ni_12_37 : Int32) (ni_12_38 : Int32), inb (bI 12 34) ni_12_34 ∧ inb (bI 12 37) ni_12_37 ∧ inb (bI 12 38) ni_12_38 ∧ ((iv 12 34).toInt ≤ (ni_12_37).toInt) ∧ ((ni_12_37).toInt + (ni_12_38).toInt = (ni_12_34).toInt) ∧ u = ((u2 (u2 (u2 iv 12 34 ni_12_34) 12 37 ni_12_37) 12 38 ni_12_38), lv, fa, la)) (bM (dC, dI) h g ca A) A) ([.ref h] : List Value).toArray s 0 0 A) (F0 m 13 ls []) := by
    intro nn22
    induction nn22 with
    | zero => intro w21_i_12_34 hw21_i_12_34 hq22_0 hq22_1 hm22; exfalso; omega
    | succ nn22 ih22 =>
      intro w21_i_12_34 hw21_i_12_34 hq22_0 hq22_1 hm22 H locs ls hP hD hS hl
      refine lv_aload_n hx hb dX12_takeWord_13 rfl (lv_at hl 1 rfl) ?_
      refine gM_12_34 hx hb ht hown hK hP m_1173 (v := w21_i_12_34) rfl dX12_takeWord_14 ?_
      refine lv_aload_n hx hb dX12_takeWord_17 rfl (lv_at hl 1 rfl) ?_
      refine gM_12_33 hx hb ht hown hK hP m_1172 (v := (iv 12 33)) rfl dX12_takeWord_18 ?_
      refine lv_icmp_ge (tgt := 59) hx hb dX12_takeWord_21 (by decide) (fun c23 => ?_) (fun c23 => ?_)
      · have fc23 := z_le (rfl : ((iv 12 33)).toInt = _) (rfl : (w21_i_12_34).toInt = _) c23
        refine lv_aload_n hx hb dX12_takeWord_59 rfl (lv_at hl 1 rfl) ?_
        refine lv_aload_n hx hb dX12_takeWord_60 rfl (lv_at hl 1 rfl) ?_
        refine gM_12_34 hx hb ht hown hK hP m_1173 (v := w21_i_12_34) rfl dX12_takeWord_61 ?_
        refine lv_aload_n hx hb dX12_takeWord_64 rfl (lv_at hl 1 rfl) ?_
        refine gM_12_37 hx hb ht hown hK hP m_1176 (v := n2) rfl dX12_takeWord_65 ?_
        refine lv_isub hx hb dX12_takeWord_68 ?_
        refine lv_topi (fun v24 ev24 => ?_)
        have tv24 := z_sub ev24 (rfl : (w21_i_12_34).toInt = _) (rfl : (n2).toInt = _) (by omega) (by omega)
        have : 0 ≤ (v24 : Int32).toInt ∧ (v24 : Int32).toInt ≤ 200 := ⟨by omega, by omega⟩
        refine pM_12_38 (v := v24) hx hb ht hown hK hP hD hS m_1177 dX12_takeWord_69 (fun H locs hP hD hS => ?_)
        have hP9 : va_P (dC, dI) classes (WM h g ca (u2 (u2 (u2 iv 12 34 w21_i_12_34) 12 37 n2) 12 38 v24) lv fa la) H := hP
        have hD9 : va_D A (WM h g ca (u2 (u2 (u2 iv 12 34 w21_i_12_34) 12 37 n2) 12 38 v24) lv fa la) := hD
        exact W.vret hx hb hr (fun t ht9 hW => ⟨⟨((u2 (u2 (u2 iv 12 34 w21_i_12_34) 12 37 n2) 12 38 v24), lv, fa, la), rfl, ⟨w21_i_12_34, n2, v24, (show inb (0, 200) w21_i_12_34 from ⟨by omega, by omega⟩), (show inb (0, 200) n2 from ⟨by omega, by omega⟩), (show inb (0, 200) v24 from ⟨by omega, by omega⟩), (show (iv 12 34).toInt ≤ (n2 : Int32).toInt from by omega), (show (n2 : Int32).toInt + (v24 : Int32).toInt = (w21_i_12_34 : Int32).toInt from by omega), rfl⟩, by rw [ht9]; exact hP9, hD9⟩, hS.F ht9⟩) hS.2.2 dX12_takeWord_72
      · have fc23 := z_nle (rfl : ((iv 12 33)).toInt = _) (rfl : (w21_i_12_34).toInt = _) c23
        refine lv_aload_n hx hb dX12_takeWord_24 rfl (lv_at hl 1 rfl) ?_
        refine gM_12_32 hx hb ht hown hK hP m_1171 dX12_takeWord_25 ?_
        refine lv_aload_n hx hb dX12_takeWord_28 rfl (lv_at hl 1 rfl) ?_
        refine gM_12_34 hx hb ht hown hK hP m_1173 (v := w21_i_12_34) rfl dX12_takeWord_29 ?_
        refine lM_12_32 hx hb hK hP (f := (fa 12 32)) rfl (vp_in_iff.mpr ⟨by omega, by omega⟩) dX12_takeWord_32 ?_
        refine lv_topi (fun v25 ev25 => ?_)
        refine lv_i2l (v := (v25.toInt64)) hx hb dX12_takeWord_33 rfl ?_
        refine lv_ldc2 hx hb hown (ht _ m_1466) dX12_takeWord_34 ?_
        refine lv_ldc2 hx hb hown (ht _ m_1467) dX12_takeWord_37 ?_
        refine vp_callSi (W.runS (As := [.long (v25.toInt64), .long 97, .long 122]) (rest := []) ⟨hx, hb, hml, hown, ht⟩ (c_X12_in l dC dI (v25.toInt64) 97 122 (v25.toInt) (97) (122) ((Int32.toInt_toInt64 v25).trans rfl) (by decide : (97 : Int64).toInt = 97) (by decide : (122 : Int64).toInt = 122)) (kS 3 ht m_1370 m_1371 m_89 m_1372 rfl rfl hd_X12_in_v ⟨Nat.le_of_ble_eq_true rfl, Nat.le_of_ble_eq_true rfl⟩) (sR noP (hK.sub (tys' := []) [] rfl)) rfl rfl hl.1 rfl (lv_room (Nat.le_of_ble_eq_true rfl)) dX12_takeWord_40 ⟨Nat.le_of_ble_eq_true rfl, Nat.le_of_ble_eq_true rfl⟩) (fun r26 hr26 => ?_)
        rcases hr26 with ⟨rfl, fr26⟩ | ⟨rfl, fr26⟩
        · skip
          refine lv_if_eq (tgt := 59) hx hb dX12_takeWord_43 (by decide) (fun c27 => ?_) (fun c27 => ?_)
          · exact absurd c27 (by decide)
          · skip
            refine lv_aload_n hx hb dX12_takeWord_46 rfl (lv_at hl 1 rfl) ?_
            refine lv_dup hx hb dX12_takeWord_47 rfl ?_
            refine gM_12_34 hx hb ht hown hK hP m_1173 (v := w21_i_12_34) rfl dX12_takeWord_48 ?_
            refine lv_iconst (v := 1) hx hb dX12_takeWord_51 (by decide) ?_
            refine lv_iadd hx hb dX12_takeWord_52 ?_
            refine lv_topi (fun v28 ev28 => ?_)
            have tv28 := z_add ev28 (rfl : (w21_i_12_34).toInt = _) (by decide : (1 : Int32).toInt = 1) (by omega) (by omega)
            refine pM_12_34 (v := v28) hx hb ht hown hK hP hD hS m_1173 dX12_takeWord_53 (fun H locs hP hD hS => ?_)
            have hP : va_P (dC, dI) classes (WM h g ca (u2 (u2 iv 12 34 v28) 12 37 n2) lv fa la) H := hP
            have hD : va_D A (WM h g ca (u2 (u2 iv 12 34 v28) 12 37 n2) lv fa la) := hD
            refine lv_goto (tgt := 13) hx hb dX12_takeWord_56 (by decide) ?_
            exact ih22 v28 ⟨by omega, by omega⟩ (show (iv 12 34).toInt ≤ (n2 : Int32).toInt from by omega) (show (n2 : Int32).toInt ≤ (v28 : Int32).toInt from by omega) (by omega) _ _ ls hP hD hS (lv_sub hl [0, 1] rfl)
        · skip
          refine lv_if_eq (tgt := 59) hx hb dX12_takeWord_43 (by decide) (fun c29 => ?_) (fun c29 => ?_)
          · skip
            refine lv_aload_n hx hb dX12_takeWord_59 rfl (lv_at hl 1 rfl) ?_
            refine lv_aload_n hx hb dX12_takeWord_60 rfl (lv_at hl 1 rfl) ?_
            refine gM_12_34 hx hb ht hown hK hP m_1173 (v := w21_i_12_34) rfl dX12_takeWord_61 ?_
            refine lv_aload_n hx hb dX12_takeWord_64 rfl (lv_at hl 1 rfl) ?_
            refine gM_12_37 hx hb ht hown hK hP m_1176 (v := n2) rfl dX12_takeWord_65 ?_
            refine lv_isub hx hb dX12_takeWord_68 ?_
            refine lv_topi (fun v30 ev30 => ?_)
            have tv30 := z_sub ev30 (rfl : (w21_i_12_34).toInt = _) (rfl : (n2).toInt = _) (by omega) (by omega)
            have : 0 ≤ (v30 : Int32).toInt ∧ (v30 : Int32).toInt ≤ 200 := ⟨by omega, by omega⟩
            refine pM_12_38 (v := v30) hx hb ht hown hK hP hD hS m_1177 dX12_takeWord_69 (fun H locs hP hD hS => ?_)
            have hP9 : va_P (dC, dI) classes (WM h g ca (u2 (u2 (u2 iv 12 34 w21_i_12_34) 12 37 n2) 12 38 v30) lv fa la) H := hP
            have hD9 : va_D A (WM h g ca (u2 (u2 (u2 iv 12 34 w21_i_12_34) 12 37 n2) 12 38 v30) lv fa la) := hD
            exact W.vret hx hb hr (fun t ht9 hW => ⟨⟨((u2 (u2 (u2 iv 12 34 w21_i_12_34) 12 37 n2) 12 38 v30), lv, fa, la), rfl, ⟨w21_i_12_34, n2, v30, (show inb (0, 200) w21_i_12_34 from ⟨by omega, by omega⟩), (show inb (0, 200) n2 from ⟨by omega, by omega⟩), (show inb (0, 200) v30 from ⟨by omega, by omega⟩), (show (iv 12 34).toInt ≤ (n2 : Int32).toInt from by omega), (show (n2 : Int32).toInt + (v30 : Int32).toInt = (w21_i_12_34 : Int32).toInt from by omega), rfl⟩, by rw [ht9]; exact hP9, hD9⟩, hS.F ht9⟩) hS.2.2 dX12_takeWord_72
          · exact absurd rfl c29
  exact lp22 201 n2 ⟨by omega, by omega⟩ (show (iv 12 34).toInt ≤ (n2 : Int32).toInt from by omega) (show (n2 : Int32).toInt ≤ (n2 : Int32).toInt from by omega) (by first | decide | omega) _ _ ls hP hD hS (lv_sub hl [0, 1] rfl)
set_option maxHeartbeats 4000000 in
set_option maxRecDepth 100000 in
/-- X12_isWord -/
theorem c_X12_isWord (l : Launch) (dC : Nat → ClassId) (dI : Nat → Nat → Nat) (h : Nat) (g : Nat → Nat → Nat) (ca : Nat → Nat → ClassId) (iv : Nat → Nat → Int32) (lv : Nat → Nat → Int64) (fa : Nat → Nat → Nat → Int32) (la : Nat → Nat → Nat → Int64) (hI : IX iv fa) (mm : Int32) (a : Int32) (b : Int32) (d : Int32) (k : Int32) (n : Int32) (q : Int32) (h_mm : 2 ≤ mm.toInt ∧ mm.toInt ≤ 6) (p_0 : (iv 12 37).toInt + (iv 12 38).toInt ≤ 200) : Met l yX12_isWord (wc yX12_isWord cX12_isWord 10 (some .boolean)) ({ frames := 0, cells := 0, slots := 0, locals := 0 } : Room) (pR (dC, dI) classes (WM h g ca iv lv fa la) (TM ca) [.ref h, .int mm, .int a, .int b, .int d, .int k, .int n, .int q]) (vp_Si (fun r => (0 ≤ r.toInt ∧ r.toInt ≤ 1) ∧ ((r.toInt = 0 ∨ (iv 12 38).toInt = mm.toInt)))) 0 0 (fun _ => False) := by
  refine Met.ofW (cc := cX12_isWord) (maxL := 10) (ret := (some .boolean)) (by decide) rfl ?_
  intro p e s m args below meth c s₁ B hml hv
  obtain ⟨rfl, hP, hK⟩ := hv
  have hx := B.exec
  have hb := B.bytes
  have hr := B.returns
  have ht := tb_tl (atoms_spec (ws := wc yX12_isWord cX12_isWord 10 (some .boolean)) B.pre)
  have hown : s.vm.findClass RX12 = some m.cls := findClass_of_methodNamed B.named
  have hlocks := B.notSynchronized
  have hl := lv_entry [.ref h, .int mm, .int a, .int b, .int d, .int k, .int n, .int q] (n := 10) (Nat.le_of_ble_eq_true rfl)
  rw [lg_entry_eq]
  generalize (lg_sl [.ref h, .int mm, .int a, .int b, .int d, .int k, .int n, .int q] ++ List.replicate (10 - (lg_sl [.ref h, .int mm, .int a, .int b, .int d, .int k, .int n, .int q]).length) Slot.unset).toArray = ls at hl ⊢
  have hl : lv_has ls 10 [(0, .ref h), (1, .int mm), (2, .int a), (3, .int b), (4, .int d), (5, .int k), (6, .int n), (7, .int q)] := hl
  refine lv_aload_n hx hb dX12_isWord_0 rfl (lv_at hl 0 rfl) ?_
  have i_12_38 : 0 ≤ (iv 12 38).toInt ∧ (iv 12 38).toInt ≤ 200 := hI.1 12 38
  refine gM_12_38 hx hb ht hown hK hP m_1177 (v := (iv 12 38)) rfl dX12_isWord_1 ?_
  refine lv_iload_n hx hb dX12_isWord_4 rfl (lv_at hl 1 rfl) ?_
  refine lv_icmp_ne (tgt := 12) hx hb dX12_isWord_5 (by decide) (fun c1 => ?_) (fun c1 => ?_)
  · have fc1 := z_ne (rfl : ((iv 12 38)).toInt = _) (rfl : (mm).toInt = _) c1
    refine lv_iconst (v := 0) hx hb dX12_isWord_12 (by decide) ?_
    refine lv_istore (lv' := [(8, .int 0), (0, .ref h), (1, .int mm), (2, .int a), (3, .int b), (4, .int d), (5, .int k), (6, .int n), (7, .int q)]) hx hb dX12_isWord_13 hl (by decide) rfl (fun ls hl => ?_)
    refine lv_iconst (v := 0) hx hb dX12_isWord_15 (by decide) ?_
    refine lv_istore (lv' := [(9, .int 0), (8, .int 0), (0, .ref h), (1, .int mm), (2, .int a), (3, .int b), (4, .int d), (5, .int k), (6, .int n), (7, .int q)]) hx hb dX12_isWord_16 hl (by decide) rfl (fun ls hl => ?_)
    have lp169 : ∀ (nn169 : Nat) (x168_9 : Int32) (x168_8 : Int32), 0 ≤ x168_9.toInt ∧ x168_9.toInt ≤ 6 → 0 ≤ x168_8.toInt ∧ x168_8.toInt ≤ 1 → ((x168_8 : Int32).toInt = 0 ∨ ((iv 12 38) : Int32).toInt = (mm).toInt) → 6 - x168_9.toInt < (nn169 : Int) → ∀ (ls : Array Slot), lv_has ls 10 [(9, .int x168_9), (8, .int x168_8), (0, .ref h), (1, .int mm), (2, .int a), (3, .int b), (4, .int d), (5, .int k), (6, .int n), (7, .int q)] → W p l e ({ frames := 0, cells := 0, slots := 0, locals := 0 } : Room) s m ([.ref h, .int mm, .int a, .int b, .int d, .int k, .int n, .int q] : List Value).toArray below meth c s.heap [] 0 0 (MQ below (vp_Si (fun r => (0 ≤ r.toInt ∧ r.toInt ≤ 1) ∧ ((r.toInt = 0 ∨ (iv 12 38).toInt = mm.toInt)))) ([.ref h, .int mm, .int a, .int b, .int d, .int k, .int n, .int q] : List Value).toArray s 0 0 (fun _ => False)) (F0 m 18 ls []) := by
      intro nn169
      induction nn169 with
      | zero => intro x168_9 x168_8 hx168_9 hx168_8 hq169_0 hm169; exfalso; omega
      | succ nn169 ih169 =>
        intro x168_9 x168_8 hx168_9 hx168_8 hq169_0 hm169 ls hl
        refine lv_iload hx hb dX12_isWord_18 (lv_at hl 0 rfl) ?_
        refine lv_iload_n hx hb dX12_isWord_20 rfl (lv_at hl 3 rfl) ?_
        refine lv_icmp_ge (tgt := 111) hx hb dX12_isWord_21 (by decide) (fun c170 => ?_) (fun c170 => ?_)
        · have fc170 := z_le (rfl : (mm).toInt = _) (rfl : (x168_9).toInt = _) c170
          refine lv_iload hx hb dX12_isWord_111 (lv_at hl 1 rfl) ?_
          exact W.zret (v := x168_8) hx hb hr (nar01 ⟨by omega, by omega⟩) (fun t ht9 hW => ⟨x168_8, rfl, ⟨⟨by omega, by omega⟩, (show ((x168_8 : Int32).toInt = 0 ∨ ((iv 12 38) : Int32).toInt = (mm).toInt) from by omega)⟩, ht9⟩) (fun q hq => by cases hq) dX12_isWord_113
        · have fc170 := z_nle (rfl : (mm).toInt = _) (rfl : (x168_9).toInt = _) c170
          refine lv_iload hx hb dX12_isWord_24 (lv_at hl 1 rfl) ?_
          refine lv_if_eq (tgt := 111) hx hb dX12_isWord_26 (by decide) (fun c171 => ?_) (fun c171 => ?_)
          · have fc171 := z_eq (rfl : (x168_8).toInt = _) (by decide : (0 : Int32).toInt = 0) c171
            refine lv_iload hx hb dX12_isWord_111 (lv_at hl 1 rfl) ?_
            exact W.zret (v := x168_8) hx hb hr (nar01 ⟨by omega, by omega⟩) (fun t ht9 hW => ⟨x168_8, rfl, ⟨⟨by omega, by omega⟩, (show ((x168_8 : Int32).toInt = 0 ∨ ((iv 12 38) : Int32).toInt = (mm).toInt) from by omega)⟩, ht9⟩) (fun q hq => by cases hq) dX12_isWord_113
          · have fc171 := z_ne (rfl : (x168_8).toInt = _) (by decide : (0 : Int32).toInt = 0) c171
            refine lv_aload_n hx hb dX12_isWord_29 rfl (lv_at hl 2 rfl) ?_
            refine gM_12_32 hx hb ht hown hK hP m_1171 dX12_isWord_30 ?_
            refine lv_aload_n hx hb dX12_isWord_33 rfl (lv_at hl 2 rfl) ?_
            have i_12_37 : 0 ≤ (iv 12 37).toInt ∧ (iv 12 37).toInt ≤ 200 := hI.1 12 37
            refine gM_12_37 hx hb ht hown hK hP m_1176 (v := (iv 12 37)) rfl dX12_isWord_34 ?_
            refine lv_iload hx hb dX12_isWord_37 (lv_at hl 0 rfl) ?_
            refine lv_iadd hx hb dX12_isWord_39 ?_
            refine lv_topi (fun v172 ev172 => ?_)
            have tv172 := z_add ev172 (rfl : ((iv 12 37)).toInt = _) (rfl : (x168_9).toInt = _) (by omega) (by omega)
            have : 0 ≤ (v172 : Int32).toInt ∧ (v172 : Int32).toInt ≤ 199 := ⟨by omega, by omega⟩
            refine lM_12_32 hx hb hK hP (f := (fa 12 32)) rfl (vp_in_iff.mpr ⟨by omega, by omega⟩) dX12_isWord_40 ?_
            refine lv_topi (fun v173 ev173 => ?_)
            refine lv_iload hx hb dX12_isWord_41 (lv_at hl 0 rfl) ?_
            refine lv_if_ne (tgt := 50) hx hb dX12_isWord_43 (by decide) (fun c174 => ?_) (fun c174 => ?_)
            · have fc174 := z_ne (rfl : (x168_9).toInt = _) (by decide : (0 : Int32).toInt = 0) c174
              refine lv_iload hx hb dX12_isWord_50 (lv_at hl 0 rfl) ?_
              refine lv_iconst (v := 1) hx hb dX12_isWord_52 (by decide) ?_
              refine lv_icmp_ne (tgt := 60) hx hb dX12_isWord_53 (by decide) (fun c175 => ?_) (fun c175 => ?_)
              · have fc175 := z_ne (rfl : (x168_9).toInt = _) (by decide : (1 : Int32).toInt = 1) c175
                refine lv_iload hx hb dX12_isWord_60 (lv_at hl 0 rfl) ?_
                refine lv_iconst (v := 2) hx hb dX12_isWord_62 (by decide) ?_
                refine lv_icmp_ne (tgt := 71) hx hb dX12_isWord_63 (by decide) (fun c176 => ?_) (fun c176 => ?_)
                · have fc176 := z_ne (rfl : (x168_9).toInt = _) (by decide : (2 : Int32).toInt = 2) c176
                  refine lv_iload hx hb dX12_isWord_71 (lv_at hl 0 rfl) ?_
                  refine lv_iconst (v := 3) hx hb dX12_isWord_73 (by decide) ?_
                  refine lv_icmp_ne (tgt := 82) hx hb dX12_isWord_74 (by decide) (fun c177 => ?_) (fun c177 => ?_)
                  · have fc177 := z_ne (rfl : (x168_9).toInt = _) (by decide : (3 : Int32).toInt = 3) c177
                    refine lv_iload hx hb dX12_isWord_82 (lv_at hl 0 rfl) ?_
                    refine lv_iconst (v := 4) hx hb dX12_isWord_84 (by decide) ?_
                    refine lv_icmp_ne (tgt := 93) hx hb dX12_isWord_85 (by decide) (fun c178 => ?_) (fun c178 => ?_)
                    · have fc178 := z_ne (rfl : (x168_9).toInt = _) (by decide : (4 : Int32).toInt = 4) c178
                      refine lv_iload hx hb dX12_isWord_93 (lv_at hl 9 rfl) ?_
                      refine lv_icmp_ne (tgt := 102) hx hb dX12_isWord_95 (by decide) (fun c179 => ?_) (fun c179 => ?_)
                      · have fc179 := z_ne (rfl : (v173).toInt = _) (rfl : (q).toInt = _) c179
                        refine lv_iconst (v := 0) hx hb dX12_isWord_102 (by decide) ?_
                        refine lv_istore (lv' := [(8, .int 0), (9, .int x168_9), (0, .ref h), (1, .int mm), (2, .int a), (3, .int b), (4, .int d), (5, .int k), (6, .int n), (7, .int q)]) hx hb dX12_isWord_103 hl (by decide) rfl (fun ls hl => ?_)
                        obtain ⟨v180, ev180⟩ : ∃ y : Int32, y = x168_9 + 1 := ⟨_, rfl⟩
                        have tv180 := z_add ev180 rfl (by decide : (1 : Int32).toInt = 1) (by omega) (by omega)
                        refine lv_iinc (v := v180) (lv' := [(9, .int v180), (8, .int 0), (0, .ref h), (1, .int mm), (2, .int a), (3, .int b), (4, .int d), (5, .int k), (6, .int n), (7, .int q)]) hx hb dX12_isWord_105 hl (k := 1) rfl (by rw [ev180]; rfl) (by decide) rfl (fun ls hl => ?_)
                        refine lv_goto (tgt := 18) hx hb dX12_isWord_108 (by decide) ?_
                        have : (0 : Int32).toInt = 0 := (by decide)
                        exact ih169 v180 0 ⟨by omega, by omega⟩ ⟨by decide, by decide⟩ (show ((0 : Int32).toInt = 0 ∨ ((iv 12 38) : Int32).toInt = (mm).toInt) from by omega) (by omega) ls (lv_sub hl [0, 1, 2, 3, 4, 5, 6, 7, 8, 9] rfl)
                      · have fc179 := z_eq (rfl : (v173).toInt = _) (rfl : (q).toInt = _) c179
                        refine lv_iconst (v := 1) hx hb dX12_isWord_98 (by decide) ?_
                        refine lv_goto (tgt := 103) hx hb dX12_isWord_99 (by decide) ?_
                        refine lv_istore (lv' := [(8, .int 1), (9, .int x168_9), (0, .ref h), (1, .int mm), (2, .int a), (3, .int b), (4, .int d), (5, .int k), (6, .int n), (7, .int q)]) hx hb dX12_isWord_103 hl (by decide) rfl (fun ls hl => ?_)
                        obtain ⟨v181, ev181⟩ : ∃ y : Int32, y = x168_9 + 1 := ⟨_, rfl⟩
                        have tv181 := z_add ev181 rfl (by decide : (1 : Int32).toInt = 1) (by omega) (by omega)
                        refine lv_iinc (v := v181) (lv' := [(9, .int v181), (8, .int 1), (0, .ref h), (1, .int mm), (2, .int a), (3, .int b), (4, .int d), (5, .int k), (6, .int n), (7, .int q)]) hx hb dX12_isWord_105 hl (k := 1) rfl (by rw [ev181]; rfl) (by decide) rfl (fun ls hl => ?_)
                        refine lv_goto (tgt := 18) hx hb dX12_isWord_108 (by decide) ?_
                        have : (1 : Int32).toInt = 1 := (by decide)
                        exact ih169 v181 1 ⟨by omega, by omega⟩ ⟨by decide, by decide⟩ (show ((1 : Int32).toInt = 0 ∨ ((iv 12 38) : Int32).toInt = (mm).toInt) from by omega) (by omega) ls (lv_sub hl [0, 1, 2, 3, 4, 5, 6, 7, 8, 9] rfl)
                    · have fc178 := z_eq (rfl : (x168_9).toInt = _) (by decide : (4 : Int32).toInt = 4) c178
                      refine lv_iload hx hb dX12_isWord_88 (lv_at hl 8 rfl) ?_
                      refine lv_goto (tgt := 95) hx hb dX12_isWord_90 (by decide) ?_
                      refine lv_icmp_ne (tgt := 102) hx hb dX12_isWord_95 (by decide) (fun c182 => ?_) (fun c182 => ?_)
                      · have fc182 := z_ne (rfl : (v173).toInt = _) (rfl : (n).toInt = _) c182
                        refine lv_iconst (v := 0) hx hb dX12_isWord_102 (by decide) ?_
                        refine lv_istore (lv' := [(8, .int 0), (9, .int x168_9), (0, .ref h), (1, .int mm), (2, .int a), (3, .int b), (4, .int d), (5, .int k), (6, .int n), (7, .int q)]) hx hb dX12_isWord_103 hl (by decide) rfl (fun ls hl => ?_)
                        obtain ⟨v183, ev183⟩ : ∃ y : Int32, y = x168_9 + 1 := ⟨_, rfl⟩
                        have tv183 := z_add ev183 rfl (by decide : (1 : Int32).toInt = 1) (by omega) (by omega)
                        refine lv_iinc (v := v183) (lv' := [(9, .int v183), (8, .int 0), (0, .ref h), (1, .int mm), (2, .int a), (3, .int b), (4, .int d), (5, .int k), (6, .int n), (7, .int q)]) hx hb dX12_isWord_105 hl (k := 1) rfl (by rw [ev183]; rfl) (by decide) rfl (fun ls hl => ?_)
                        refine lv_goto (tgt := 18) hx hb dX12_isWord_108 (by decide) ?_
                        have : (0 : Int32).toInt = 0 := (by decide)
                        exact ih169 v183 0 ⟨by omega, by omega⟩ ⟨by decide, by decide⟩ (show ((0 : Int32).toInt = 0 ∨ ((iv 12 38) : Int32).toInt = (mm).toInt) from by omega) (by omega) ls (lv_sub hl [0, 1, 2, 3, 4, 5, 6, 7, 8, 9] rfl)
                      · have fc182 := z_eq (rfl : (v173).toInt = _) (rfl : (n).toInt = _) c182
                        refine lv_iconst (v := 1) hx hb dX12_isWord_98 (by decide) ?_
                        refine lv_goto (tgt := 103) hx hb dX12_isWord_99 (by decide) ?_
                        refine lv_istore (lv' := [(8, .int 1), (9, .int x168_9), (0, .ref h), (1, .int mm), (2, .int a), (3, .int b), (4, .int d), (5, .int k), (6, .int n), (7, .int q)]) hx hb dX12_isWord_103 hl (by decide) rfl (fun ls hl => ?_)
                        obtain ⟨v184, ev184⟩ : ∃ y : Int32, y = x168_9 + 1 := ⟨_, rfl⟩
                        have tv184 := z_add ev184 rfl (by decide : (1 : Int32).toInt = 1) (by omega) (by omega)
                        refine lv_iinc (v := v184) (lv' := [(9, .int v184), (8, .int 1), (0, .ref h), (1, .int mm), (2, .int a), (3, .int b), (4, .int d), (5, .int k), (6, .int n), (7, .int q)]) hx hb dX12_isWord_105 hl (k := 1) rfl (by rw [ev184]; rfl) (by decide) rfl (fun ls hl => ?_)
                        refine lv_goto (tgt := 18) hx hb dX12_isWord_108 (by decide) ?_
                        have : (1 : Int32).toInt = 1 := (by decide)
                        exact ih169 v184 1 ⟨by omega, by omega⟩ ⟨by decide, by decide⟩ (show ((1 : Int32).toInt = 0 ∨ ((iv 12 38) : Int32).toInt = (mm).toInt) from by omega) (by omega) ls (lv_sub hl [0, 1, 2, 3, 4, 5, 6, 7, 8, 9] rfl)
                  · have fc177 := z_eq (rfl : (x168_9).toInt = _) (by decide : (3 : Int32).toInt = 3) c177
                    refine lv_iload hx hb dX12_isWord_77 (lv_at hl 7 rfl) ?_
                    refine lv_goto (tgt := 95) hx hb dX12_isWord_79 (by decide) ?_
                    refine lv_icmp_ne (tgt := 102) hx hb dX12_isWord_95 (by decide) (fun c185 => ?_) (fun c185 => ?_)
                    · have fc185 := z_ne (rfl : (v173).toInt = _) (rfl : (k).toInt = _) c185
                      refine lv_iconst (v := 0) hx hb dX12_isWord_102 (by decide) ?_
                      refine lv_istore (lv' := [(8, .int 0), (9, .int x168_9), (0, .ref h), (1, .int mm), (2, .int a), (3, .int b), (4, .int d), (5, .int k), (6, .int n), (7, .int q)]) hx hb dX12_isWord_103 hl (by decide) rfl (fun ls hl => ?_)
                      obtain ⟨v186, ev186⟩ : ∃ y : Int32, y = x168_9 + 1 := ⟨_, rfl⟩
                      have tv186 := z_add ev186 rfl (by decide : (1 : Int32).toInt = 1) (by omega) (by omega)
                      refine lv_iinc (v := v186) (lv' := [(9, .int v186), (8, .int 0), (0, .ref h), (1, .int mm), (2, .int a), (3, .int b), (4, .int d), (5, .int k), (6, .int n), (7, .int q)]) hx hb dX12_isWord_105 hl (k := 1) rfl (by rw [ev186]; rfl) (by decide) rfl (fun ls hl => ?_)
                      refine lv_goto (tgt := 18) hx hb dX12_isWord_108 (by decide) ?_
                      have : (0 : Int32).toInt = 0 := (by decide)
                      exact ih169 v186 0 ⟨by omega, by omega⟩ ⟨by decide, by decide⟩ (show ((0 : Int32).toInt = 0 ∨ ((iv 12 38) : Int32).toInt = (mm).toInt) from by omega) (by omega) ls (lv_sub hl [0, 1, 2, 3, 4, 5, 6, 7, 8, 9] rfl)
                    · have fc185 := z_eq (rfl : (v173).toInt = _) (rfl : (k).toInt = _) c185
                      refine lv_iconst (v := 1) hx hb dX12_isWord_98 (by decide) ?_
                      refine lv_goto (tgt := 103) hx hb dX12_isWord_99 (by decide) ?_
                      refine lv_istore (lv' := [(8, .int 1), (9, .int x168_9), (0, .ref h), (1, .int mm), (2, .int a), (3, .int b), (4, .int d), (5, .int k), (6, .int n), (7, .int q)]) hx hb dX12_isWord_103 hl (by decide) rfl (fun ls hl => ?_)
                      obtain ⟨v187, ev187⟩ : ∃ y : Int32, y = x168_9 + 1 := ⟨_, rfl⟩
                      have tv187 := z_add ev187 rfl (by decide : (1 : Int32).toInt = 1) (by omega) (by omega)
                      refine lv_iinc (v := v187) (lv' := [(9, .int v187), (8, .int 1), (0, .ref h), (1, .int mm), (2, .int a), (3, .int b), (4, .int d), (5, .int k), (6, .int n), (7, .int q)]) hx hb dX12_isWord_105 hl (k := 1) rfl (by rw [ev187]; rfl) (by decide) rfl (fun ls hl => ?_)
                      refine lv_goto (tgt := 18) hx hb dX12_isWord_108 (by decide) ?_
                      have : (1 : Int32).toInt = 1 := (by decide)
                      exact ih169 v187 1 ⟨by omega, by omega⟩ ⟨by decide, by decide⟩ (show ((1 : Int32).toInt = 0 ∨ ((iv 12 38) : Int32).toInt = (mm).toInt) from by omega) (by omega) ls (lv_sub hl [0, 1, 2, 3, 4, 5, 6, 7, 8, 9] rfl)
                · have fc176 := z_eq (rfl : (x168_9).toInt = _) (by decide : (2 : Int32).toInt = 2) c176
                  refine lv_iload hx hb dX12_isWord_66 (lv_at hl 6 rfl) ?_
                  refine lv_goto (tgt := 95) hx hb dX12_isWord_68 (by decide) ?_
                  refine lv_icmp_ne (tgt := 102) hx hb dX12_isWord_95 (by decide) (fun c188 => ?_) (fun c188 => ?_)
                  · have fc188 := z_ne (rfl : (v173).toInt = _) (rfl : (d).toInt = _) c188
                    refine lv_iconst (v := 0) hx hb dX12_isWord_102 (by decide) ?_
                    refine lv_istore (lv' := [(8, .int 0), (9, .int x168_9), (0, .ref h), (1, .int mm), (2, .int a), (3, .int b), (4, .int d), (5, .int k), (6, .int n), (7, .int q)]) hx hb dX12_isWord_103 hl (by decide) rfl (fun ls hl => ?_)
                    obtain ⟨v189, ev189⟩ : ∃ y : Int32, y = x168_9 + 1 := ⟨_, rfl⟩
                    have tv189 := z_add ev189 rfl (by decide : (1 : Int32).toInt = 1) (by omega) (by omega)
                    refine lv_iinc (v := v189) (lv' := [(9, .int v189), (8, .int 0), (0, .ref h), (1, .int mm), (2, .int a), (3, .int b), (4, .int d), (5, .int k), (6, .int n), (7, .int q)]) hx hb dX12_isWord_105 hl (k := 1) rfl (by rw [ev189]; rfl) (by decide) rfl (fun ls hl => ?_)
                    refine lv_goto (tgt := 18) hx hb dX12_isWord_108 (by decide) ?_
                    have : (0 : Int32).toInt = 0 := (by decide)
                    exact ih169 v189 0 ⟨by omega, by omega⟩ ⟨by decide, by decide⟩ (show ((0 : Int32).toInt = 0 ∨ ((iv 12 38) : Int32).toInt = (mm).toInt) from by omega) (by omega) ls (lv_sub hl [0, 1, 2, 3, 4, 5, 6, 7, 8, 9] rfl)
                  · have fc188 := z_eq (rfl : (v173).toInt = _) (rfl : (d).toInt = _) c188
                    refine lv_iconst (v := 1) hx hb dX12_isWord_98 (by decide) ?_
                    refine lv_goto (tgt := 103) hx hb dX12_isWord_99 (by decide) ?_
                    refine lv_istore (lv' := [(8, .int 1), (9, .int x168_9), (0, .ref h), (1, .int mm), (2, .int a), (3, .int b), (4, .int d), (5, .int k), (6, .int n), (7, .int q)]) hx hb dX12_isWord_103 hl (by decide) rfl (fun ls hl => ?_)
                    obtain ⟨v190, ev190⟩ : ∃ y : Int32, y = x168_9 + 1 := ⟨_, rfl⟩
                    have tv190 := z_add ev190 rfl (by decide : (1 : Int32).toInt = 1) (by omega) (by omega)
                    refine lv_iinc (v := v190) (lv' := [(9, .int v190), (8, .int 1), (0, .ref h), (1, .int mm), (2, .int a), (3, .int b), (4, .int d), (5, .int k), (6, .int n), (7, .int q)]) hx hb dX12_isWord_105 hl (k := 1) rfl (by rw [ev190]; rfl) (by decide) rfl (fun ls hl => ?_)
                    refine lv_goto (tgt := 18) hx hb dX12_isWord_108 (by decide) ?_
                    have : (1 : Int32).toInt = 1 := (by decide)
                    exact ih169 v190 1 ⟨by omega, by omega⟩ ⟨by decide, by decide⟩ (show ((1 : Int32).toInt = 0 ∨ ((iv 12 38) : Int32).toInt = (mm).toInt) from by omega) (by omega) ls (lv_sub hl [0, 1, 2, 3, 4, 5, 6, 7, 8, 9] rfl)
              · have fc175 := z_eq (rfl : (x168_9).toInt = _) (by decide : (1 : Int32).toInt = 1) c175
                refine lv_iload_n hx hb dX12_isWord_56 rfl (lv_at hl 5 rfl) ?_
                refine lv_goto (tgt := 95) hx hb dX12_isWord_57 (by decide) ?_
                refine lv_icmp_ne (tgt := 102) hx hb dX12_isWord_95 (by decide) (fun c191 => ?_) (fun c191 => ?_)
                · have fc191 := z_ne (rfl : (v173).toInt = _) (rfl : (b).toInt = _) c191
                  refine lv_iconst (v := 0) hx hb dX12_isWord_102 (by decide) ?_
                  refine lv_istore (lv' := [(8, .int 0), (9, .int x168_9), (0, .ref h), (1, .int mm), (2, .int a), (3, .int b), (4, .int d), (5, .int k), (6, .int n), (7, .int q)]) hx hb dX12_isWord_103 hl (by decide) rfl (fun ls hl => ?_)
                  obtain ⟨v192, ev192⟩ : ∃ y : Int32, y = x168_9 + 1 := ⟨_, rfl⟩
                  have tv192 := z_add ev192 rfl (by decide : (1 : Int32).toInt = 1) (by omega) (by omega)
                  refine lv_iinc (v := v192) (lv' := [(9, .int v192), (8, .int 0), (0, .ref h), (1, .int mm), (2, .int a), (3, .int b), (4, .int d), (5, .int k), (6, .int n), (7, .int q)]) hx hb dX12_isWord_105 hl (k := 1) rfl (by rw [ev192]; rfl) (by decide) rfl (fun ls hl => ?_)
                  refine lv_goto (tgt := 18) hx hb dX12_isWord_108 (by decide) ?_
                  have : (0 : Int32).toInt = 0 := (by decide)
                  exact ih169 v192 0 ⟨by omega, by omega⟩ ⟨by decide, by decide⟩ (show ((0 : Int32).toInt = 0 ∨ ((iv 12 38) : Int32).toInt = (mm).toInt) from by omega) (by omega) ls (lv_sub hl [0, 1, 2, 3, 4, 5, 6, 7, 8, 9] rfl)
                · have fc191 := z_eq (rfl : (v173).toInt = _) (rfl : (b).toInt = _) c191
                  refine lv_iconst (v := 1) hx hb dX12_isWord_98 (by decide) ?_
                  refine lv_goto (tgt := 103) hx hb dX12_isWord_99 (by decide) ?_
                  refine lv_istore (lv' := [(8, .int 1), (9, .int x168_9), (0, .ref h), (1, .int mm), (2, .int a), (3, .int b), (4, .int d), (5, .int k), (6, .int n), (7, .int q)]) hx hb dX12_isWord_103 hl (by decide) rfl (fun ls hl => ?_)
                  obtain ⟨v193, ev193⟩ : ∃ y : Int32, y = x168_9 + 1 := ⟨_, rfl⟩
                  have tv193 := z_add ev193 rfl (by decide : (1 : Int32).toInt = 1) (by omega) (by omega)
                  refine lv_iinc (v := v193) (lv' := [(9, .int v193), (8, .int 1), (0, .ref h), (1, .int mm), (2, .int a), (3, .int b), (4, .int d), (5, .int k), (6, .int n), (7, .int q)]) hx hb dX12_isWord_105 hl (k := 1) rfl (by rw [ev193]; rfl) (by decide) rfl (fun ls hl => ?_)
                  refine lv_goto (tgt := 18) hx hb dX12_isWord_108 (by decide) ?_
                  have : (1 : Int32).toInt = 1 := (by decide)
                  exact ih169 v193 1 ⟨by omega, by omega⟩ ⟨by decide, by decide⟩ (show ((1 : Int32).toInt = 0 ∨ ((iv 12 38) : Int32).toInt = (mm).toInt) from by omega) (by omega) ls (lv_sub hl [0, 1, 2, 3, 4, 5, 6, 7, 8, 9] rfl)
            · have fc174 := z_eq (rfl : (x168_9).toInt = _) (by decide : (0 : Int32).toInt = 0) c174
              refine lv_iload_n hx hb dX12_isWord_46 rfl (lv_at hl 4 rfl) ?_
              refine lv_goto (tgt := 95) hx hb dX12_isWord_47 (by decide) ?_
              refine lv_icmp_ne (tgt := 102) hx hb dX12_isWord_95 (by decide) (fun c194 => ?_) (fun c194 => ?_)
              · have fc194 := z_ne (rfl : (v173).toInt = _) (rfl : (a).toInt = _) c194
                refine lv_iconst (v := 0) hx hb dX12_isWord_102 (by decide) ?_
                refine lv_istore (lv' := [(8, .int 0), (9, .int x168_9), (0, .ref h), (1, .int mm), (2, .int a), (3, .int b), (4, .int d), (5, .int k), (6, .int n), (7, .int q)]) hx hb dX12_isWord_103 hl (by decide) rfl (fun ls hl => ?_)
                obtain ⟨v195, ev195⟩ : ∃ y : Int32, y = x168_9 + 1 := ⟨_, rfl⟩
                have tv195 := z_add ev195 rfl (by decide : (1 : Int32).toInt = 1) (by omega) (by omega)
                refine lv_iinc (v := v195) (lv' := [(9, .int v195), (8, .int 0), (0, .ref h), (1, .int mm), (2, .int a), (3, .int b), (4, .int d), (5, .int k), (6, .int n), (7, .int q)]) hx hb dX12_isWord_105 hl (k := 1) rfl (by rw [ev195]; rfl) (by decide) rfl (fun ls hl => ?_)
                refine lv_goto (tgt := 18) hx hb dX12_isWord_108 (by decide) ?_
                have : (0 : Int32).toInt = 0 := (by decide)
                exact ih169 v195 0 ⟨by omega, by omega⟩ ⟨by decide, by decide⟩ (show ((0 : Int32).toInt = 0 ∨ ((iv 12 38) : Int32).toInt = (mm).toInt) from by omega) (by omega) ls (lv_sub hl [0, 1, 2, 3, 4, 5, 6, 7, 8, 9] rfl)
              · have fc194 := z_eq (rfl : (v173).toInt = _) (rfl : (a).toInt = _) c194
                refine lv_iconst (v := 1) hx hb dX12_isWord_98 (by decide) ?_
                refine lv_goto (tgt := 103) hx hb dX12_isWord_99 (by decide) ?_
                refine lv_istore (lv' := [(8, .int 1), (9, .int x168_9), (0, .ref h), (1, .int mm), (2, .int a), (3, .int b), (4, .int d), (5, .int k), (6, .int n), (7, .int q)]) hx hb dX12_isWord_103 hl (by decide) rfl (fun ls hl => ?_)
                obtain ⟨v196, ev196⟩ : ∃ y : Int32, y = x168_9 + 1 := ⟨_, rfl⟩
                have tv196 := z_add ev196 rfl (by decide : (1 : Int32).toInt = 1) (by omega) (by omega)
                refine lv_iinc (v := v196) (lv' := [(9, .int v196), (8, .int 1), (0, .ref h), (1, .int mm), (2, .int a), (3, .int b), (4, .int d), (5, .int k), (6, .int n), (7, .int q)]) hx hb dX12_isWord_105 hl (k := 1) rfl (by rw [ev196]; rfl) (by decide) rfl (fun ls hl => ?_)
                refine lv_goto (tgt := 18) hx hb dX12_isWord_108 (by decide) ?_
                have : (1 : Int32).toInt = 1 := (by decide)
                exact ih169 v196 1 ⟨by omega, by omega⟩ ⟨by decide, by decide⟩ (show ((1 : Int32).toInt = 0 ∨ ((iv 12 38) : Int32).toInt = (mm).toInt) from by omega) (by omega) ls (lv_sub hl [0, 1, 2, 3, 4, 5, 6, 7, 8, 9] rfl)
    have : (0 : Int32).toInt = 0 := (by decide)
    exact lp169 7 0 0 ⟨by decide, by decide⟩ ⟨by decide, by decide⟩ (show ((0 : Int32).toInt = 0 ∨ ((iv 12 38) : Int32).toInt = (mm).toInt) from by omega) (by first | decide | omega) ls (lv_sub hl [0, 1, 2, 3, 4, 5, 6, 7, 8, 9] rfl)
  · have fc1 := z_eq (rfl : ((iv 12 38)).toInt = _) (rfl : (mm).toInt = _) c1
    refine lv_iconst (v := 1) hx hb dX12_isWord_8 (by decide) ?_
    refine lv_goto (tgt := 13) hx hb dX12_isWord_9 (by decide) ?_
    refine lv_istore (lv' := [(8, .int 1), (0, .ref h), (1, .int mm), (2, .int a), (3, .int b), (4, .int d), (5, .int k), (6, .int n), (7, .int q)]) hx hb dX12_isWord_13 hl (by decide) rfl (fun ls hl => ?_)
    refine lv_iconst (v := 0) hx hb dX12_isWord_15 (by decide) ?_
    refine lv_istore (lv' := [(9, .int 0), (8, .int 1), (0, .ref h), (1, .int mm), (2, .int a), (3, .int b), (4, .int d), (5, .int k), (6, .int n), (7, .int q)]) hx hb dX12_isWord_16 hl (by decide) rfl (fun ls hl => ?_)
    have lp364 : ∀ (nn364 : Nat) (x363_9 : Int32) (x363_8 : Int32), 0 ≤ x363_9.toInt ∧ x363_9.toInt ≤ 6 → 0 ≤ x363_8.toInt ∧ x363_8.toInt ≤ 1 → ((x363_8 : Int32).toInt = 0 ∨ ((iv 12 38) : Int32).toInt = (mm).toInt) → 6 - x363_9.toInt < (nn364 : Int) → ∀ (ls : Array Slot), lv_has ls 10 [(9, .int x363_9), (8, .int x363_8), (0, .ref h), (1, .int mm), (2, .int a), (3, .int b), (4, .int d), (5, .int k), (6, .int n), (7, .int q)] → W p l e ({ frames := 0, cells := 0, slots := 0, locals := 0 } : Room) s m ([.ref h, .int mm, .int a, .int b, .int d, .int k, .int n, .int q] : List Value).toArray below meth c s.heap [] 0 0 (MQ below (vp_Si (fun r => (0 ≤ r.toInt ∧ r.toInt ≤ 1) ∧ ((r.toInt = 0 ∨ (iv 12 38).toInt = mm.toInt)))) ([.ref h, .int mm, .int a, .int b, .int d, .int k, .int n, .int q] : List Value).toArray s 0 0 (fun _ => False)) (F0 m 18 ls []) := by
      intro nn364
      induction nn364 with
      | zero => intro x363_9 x363_8 hx363_9 hx363_8 hq364_0 hm364; exfalso; omega
      | succ nn364 ih364 =>
        intro x363_9 x363_8 hx363_9 hx363_8 hq364_0 hm364 ls hl
        refine lv_iload hx hb dX12_isWord_18 (lv_at hl 0 rfl) ?_
        refine lv_iload_n hx hb dX12_isWord_20 rfl (lv_at hl 3 rfl) ?_
        refine lv_icmp_ge (tgt := 111) hx hb dX12_isWord_21 (by decide) (fun c365 => ?_) (fun c365 => ?_)
        · have fc365 := z_le (rfl : (mm).toInt = _) (rfl : (x363_9).toInt = _) c365
          refine lv_iload hx hb dX12_isWord_111 (lv_at hl 1 rfl) ?_
          exact W.zret (v := x363_8) hx hb hr (nar01 ⟨by omega, by omega⟩) (fun t ht9 hW => ⟨x363_8, rfl, ⟨⟨by omega, by omega⟩, (show ((x363_8 : Int32).toInt = 0 ∨ ((iv 12 38) : Int32).toInt = (mm).toInt) from by omega)⟩, ht9⟩) (fun q hq => by cases hq) dX12_isWord_113
        · have fc365 := z_nle (rfl : (mm).toInt = _) (rfl : (x363_9).toInt = _) c365
          refine lv_iload hx hb dX12_isWord_24 (lv_at hl 1 rfl) ?_
          refine lv_if_eq (tgt := 111) hx hb dX12_isWord_26 (by decide) (fun c366 => ?_) (fun c366 => ?_)
          · have fc366 := z_eq (rfl : (x363_8).toInt = _) (by decide : (0 : Int32).toInt = 0) c366
            refine lv_iload hx hb dX12_isWord_111 (lv_at hl 1 rfl) ?_
            exact W.zret (v := x363_8) hx hb hr (nar01 ⟨by omega, by omega⟩) (fun t ht9 hW => ⟨x363_8, rfl, ⟨⟨by omega, by omega⟩, (show ((x363_8 : Int32).toInt = 0 ∨ ((iv 12 38) : Int32).toInt = (mm).toInt) from by omega)⟩, ht9⟩) (fun q hq => by cases hq) dX12_isWord_113
          · have fc366 := z_ne (rfl : (x363_8).toInt = _) (by decide : (0 : Int32).toInt = 0) c366
            refine lv_aload_n hx hb dX12_isWord_29 rfl (lv_at hl 2 rfl) ?_
            refine gM_12_32 hx hb ht hown hK hP m_1171 dX12_isWord_30 ?_
            refine lv_aload_n hx hb dX12_isWord_33 rfl (lv_at hl 2 rfl) ?_
            have i_12_37 : 0 ≤ (iv 12 37).toInt ∧ (iv 12 37).toInt ≤ 200 := hI.1 12 37
            refine gM_12_37 hx hb ht hown hK hP m_1176 (v := (iv 12 37)) rfl dX12_isWord_34 ?_
            refine lv_iload hx hb dX12_isWord_37 (lv_at hl 0 rfl) ?_
            refine lv_iadd hx hb dX12_isWord_39 ?_
            refine lv_topi (fun v367 ev367 => ?_)
            have tv367 := z_add ev367 (rfl : ((iv 12 37)).toInt = _) (rfl : (x363_9).toInt = _) (by omega) (by omega)
            have : 0 ≤ (v367 : Int32).toInt ∧ (v367 : Int32).toInt ≤ 199 := ⟨by omega, by omega⟩
            refine lM_12_32 hx hb hK hP (f := (fa 12 32)) rfl (vp_in_iff.mpr ⟨by omega, by omega⟩) dX12_isWord_40 ?_
            refine lv_topi (fun v368 ev368 => ?_)
            refine lv_iload hx hb dX12_isWord_41 (lv_at hl 0 rfl) ?_
            refine lv_if_ne (tgt := 50) hx hb dX12_isWord_43 (by decide) (fun c369 => ?_) (fun c369 => ?_)
            · have fc369 := z_ne (rfl : (x363_9).toInt = _) (by decide : (0 : Int32).toInt = 0) c369
              refine lv_iload hx hb dX12_isWord_50 (lv_at hl 0 rfl) ?_
              refine lv_iconst (v := 1) hx hb dX12_isWord_52 (by decide) ?_
              refine lv_icmp_ne (tgt := 60) hx hb dX12_isWord_53 (by decide) (fun c370 => ?_) (fun c370 => ?_)
              · have fc370 := z_ne (rfl : (x363_9).toInt = _) (by decide : (1 : Int32).toInt = 1) c370
                refine lv_iload hx hb dX12_isWord_60 (lv_at hl 0 rfl) ?_
                refine lv_iconst (v := 2) hx hb dX12_isWord_62 (by decide) ?_
                refine lv_icmp_ne (tgt := 71) hx hb dX12_isWord_63 (by decide) (fun c371 => ?_) (fun c371 => ?_)
                · have fc371 := z_ne (rfl : (x363_9).toInt = _) (by decide : (2 : Int32).toInt = 2) c371
                  refine lv_iload hx hb dX12_isWord_71 (lv_at hl 0 rfl) ?_
                  refine lv_iconst (v := 3) hx hb dX12_isWord_73 (by decide) ?_
                  refine lv_icmp_ne (tgt := 82) hx hb dX12_isWord_74 (by decide) (fun c372 => ?_) (fun c372 => ?_)
                  · have fc372 := z_ne (rfl : (x363_9).toInt = _) (by decide : (3 : Int32).toInt = 3) c372
                    refine lv_iload hx hb dX12_isWord_82 (lv_at hl 0 rfl) ?_
                    refine lv_iconst (v := 4) hx hb dX12_isWord_84 (by decide) ?_
                    refine lv_icmp_ne (tgt := 93) hx hb dX12_isWord_85 (by decide) (fun c373 => ?_) (fun c373 => ?_)
                    · have fc373 := z_ne (rfl : (x363_9).toInt = _) (by decide : (4 : Int32).toInt = 4) c373
                      refine lv_iload hx hb dX12_isWord_93 (lv_at hl 9 rfl) ?_
                      refine lv_icmp_ne (tgt := 102) hx hb dX12_isWord_95 (by decide) (fun c374 => ?_) (fun c374 => ?_)
                      · have fc374 := z_ne (rfl : (v368).toInt = _) (rfl : (q).toInt = _) c374
                        refine lv_iconst (v := 0) hx hb dX12_isWord_102 (by decide) ?_
                        refine lv_istore (lv' := [(8, .int 0), (9, .int x363_9), (0, .ref h), (1, .int mm), (2, .int a), (3, .int b), (4, .int d), (5, .int k), (6, .int n), (7, .int q)]) hx hb dX12_isWord_103 hl (by decide) rfl (fun ls hl => ?_)
                        obtain ⟨v375, ev375⟩ : ∃ y : Int32, y = x363_9 + 1 := ⟨_, rfl⟩
                        have tv375 := z_add ev375 rfl (by decide : (1 : Int32).toInt = 1) (by omega) (by omega)
                        refine lv_iinc (v := v375) (lv' := [(9, .int v375), (8, .int 0), (0, .ref h), (1, .int mm), (2, .int a), (3, .int b), (4, .int d), (5, .int k), (6, .int n), (7, .int q)]) hx hb dX12_isWord_105 hl (k := 1) rfl (by rw [ev375]; rfl) (by decide) rfl (fun ls hl => ?_)
                        refine lv_goto (tgt := 18) hx hb dX12_isWord_108 (by decide) ?_
                        have : (0 : Int32).toInt = 0 := (by decide)
                        exact ih364 v375 0 ⟨by omega, by omega⟩ ⟨by decide, by decide⟩ (show ((0 : Int32).toInt = 0 ∨ ((iv 12 38) : Int32).toInt = (mm).toInt) from by omega) (by omega) ls (lv_sub hl [0, 1, 2, 3, 4, 5, 6, 7, 8, 9] rfl)
                      · have fc374 := z_eq (rfl : (v368).toInt = _) (rfl : (q).toInt = _) c374
                        refine lv_iconst (v := 1) hx hb dX12_isWord_98 (by decide) ?_
                        refine lv_goto (tgt := 103) hx hb dX12_isWord_99 (by decide) ?_
                        refine lv_istore (lv' := [(8, .int 1), (9, .int x363_9), (0, .ref h), (1, .int mm), (2, .int a), (3, .int b), (4, .int d), (5, .int k), (6, .int n), (7, .int q)]) hx hb dX12_isWord_103 hl (by decide) rfl (fun ls hl => ?_)
                        obtain ⟨v376, ev376⟩ : ∃ y : Int32, y = x363_9 + 1 := ⟨_, rfl⟩
                        have tv376 := z_add ev376 rfl (by decide : (1 : Int32).toInt = 1) (by omega) (by omega)
                        refine lv_iinc (v := v376) (lv' := [(9, .int v376), (8, .int 1), (0, .ref h), (1, .int mm), (2, .int a), (3, .int b), (4, .int d), (5, .int k), (6, .int n), (7, .int q)]) hx hb dX12_isWord_105 hl (k := 1) rfl (by rw [ev376]; rfl) (by decide) rfl (fun ls hl => ?_)
                        refine lv_goto (tgt := 18) hx hb dX12_isWord_108 (by decide) ?_
                        have : (1 : Int32).toInt = 1 := (by decide)
                        exact ih364 v376 1 ⟨by omega, by omega⟩ ⟨by decide, by decide⟩ (show ((1 : Int32).toInt = 0 ∨ ((iv 12 38) : Int32).toInt = (mm).toInt) from by omega) (by omega) ls (lv_sub hl [0, 1, 2, 3, 4, 5, 6, 7, 8, 9] rfl)
                    · have fc373 := z_eq (rfl : (x363_9).toInt = _) (by decide : (4 : Int32).toInt = 4) c373
                      refine lv_iload hx hb dX12_isWord_88 (lv_at hl 8 rfl) ?_
                      refine lv_goto (tgt := 95) hx hb dX12_isWord_90 (by decide) ?_
                      refine lv_icmp_ne (tgt := 102) hx hb dX12_isWord_95 (by decide) (fun c377 => ?_) (fun c377 => ?_)
                      · have fc377 := z_ne (rfl : (v368).toInt = _) (rfl : (n).toInt = _) c377
                        refine lv_iconst (v := 0) hx hb dX12_isWord_102 (by decide) ?_
                        refine lv_istore (lv' := [(8, .int 0), (9, .int x363_9), (0, .ref h), (1, .int mm), (2, .int a), (3, .int b), (4, .int d), (5, .int k), (6, .int n), (7, .int q)]) hx hb dX12_isWord_103 hl (by decide) rfl (fun ls hl => ?_)
                        obtain ⟨v378, ev378⟩ : ∃ y : Int32, y = x363_9 + 1 := ⟨_, rfl⟩
                        have tv378 := z_add ev378 rfl (by decide : (1 : Int32).toInt = 1) (by omega) (by omega)
                        refine lv_iinc (v := v378) (lv' := [(9, .int v378), (8, .int 0), (0, .ref h), (1, .int mm), (2, .int a), (3, .int b), (4, .int d), (5, .int k), (6, .int n), (7, .int q)]) hx hb dX12_isWord_105 hl (k := 1) rfl (by rw [ev378]; rfl) (by decide) rfl (fun ls hl => ?_)
                        refine lv_goto (tgt := 18) hx hb dX12_isWord_108 (by decide) ?_
                        have : (0 : Int32).toInt = 0 := (by decide)
                        exact ih364 v378 0 ⟨by omega, by omega⟩ ⟨by decide, by decide⟩ (show ((0 : Int32).toInt = 0 ∨ ((iv 12 38) : Int32).toInt = (mm).toInt) from by omega) (by omega) ls (lv_sub hl [0, 1, 2, 3, 4, 5, 6, 7, 8, 9] rfl)
                      · have fc377 := z_eq (rfl : (v368).toInt = _) (rfl : (n).toInt = _) c377
                        refine lv_iconst (v := 1) hx hb dX12_isWord_98 (by decide) ?_
                        refine lv_goto (tgt := 103) hx hb dX12_isWord_99 (by decide) ?_
                        refine lv_istore (lv' := [(8, .int 1), (9, .int x363_9), (0, .ref h), (1, .int mm), (2, .int a), (3, .int b), (4, .int d), (5, .int k), (6, .int n), (7, .int q)]) hx hb dX12_isWord_103 hl (by decide) rfl (fun ls hl => ?_)
                        obtain ⟨v379, ev379⟩ : ∃ y : Int32, y = x363_9 + 1 := ⟨_, rfl⟩
                        have tv379 := z_add ev379 rfl (by decide : (1 : Int32).toInt = 1) (by omega) (by omega)
                        refine lv_iinc (v := v379) (lv' := [(9, .int v379), (8, .int 1), (0, .ref h), (1, .int mm), (2, .int a), (3, .int b), (4, .int d), (5, .int k), (6, .int n), (7, .int q)]) hx hb dX12_isWord_105 hl (k := 1) rfl (by rw [ev379]; rfl) (by decide) rfl (fun ls hl => ?_)
                        refine lv_goto (tgt := 18) hx hb dX12_isWord_108 (by decide) ?_
                        have : (1 : Int32).toInt = 1 := (by decide)
                        exact ih364 v379 1 ⟨by omega, by omega⟩ ⟨by decide, by decide⟩ (show ((1 : Int32).toInt = 0 ∨ ((iv 12 38) : Int32).toInt = (mm).toInt) from by omega) (by omega) ls (lv_sub hl [0, 1, 2, 3, 4, 5, 6, 7, 8, 9] rfl)
                  · have fc372 := z_eq (rfl : (x363_9).toInt = _) (by decide : (3 : Int32).toInt = 3) c372
                    refine lv_iload hx hb dX12_isWord_77 (lv_at hl 7 rfl) ?_
                    refine lv_goto (tgt := 95) hx hb dX12_isWord_79 (by decide) ?_
                    refine lv_icmp_ne (tgt := 102) hx hb dX12_isWord_95 (by decide) (fun c380 => ?_) (fun c380 => ?_)
                    · have fc380 := z_ne (rfl : (v368).toInt = _) (rfl : (k).toInt = _) c380
                      refine lv_iconst (v := 0) hx hb dX12_isWord_102 (by decide) ?_
                      refine lv_istore (lv' := [(8, .int 0), (9, .int x363_9), (0, .ref h), (1, .int mm), (2, .int a), (3, .int b), (4, .int d), (5, .int k), (6, .int n), (7, .int q)]) hx hb dX12_isWord_103 hl (by decide) rfl (fun ls hl => ?_)
                      obtain ⟨v381, ev381⟩ : ∃ y : Int32, y = x363_9 + 1 := ⟨_, rfl⟩
                      have tv381 := z_add ev381 rfl (by decide : (1 : Int32).toInt = 1) (by omega) (by omega)
                      refine lv_iinc (v := v381) (lv' := [(9, .int v381), (8, .int 0), (0, .ref h), (1, .int mm), (2, .int a), (3, .int b), (4, .int d), (5, .int k), (6, .int n), (7, .int q)]) hx hb dX12_isWord_105 hl (k := 1) rfl (by rw [ev381]; rfl) (by decide) rfl (fun ls hl => ?_)
                      refine lv_goto (tgt := 18) hx hb dX12_isWord_108 (by decide) ?_
                      have : (0 : Int32).toInt = 0 := (by decide)
                      exact ih364 v381 0 ⟨by omega, by omega⟩ ⟨by decide, by decide⟩ (show ((0 : Int32).toInt = 0 ∨ ((iv 12 38) : Int32).toInt = (mm).toInt) from by omega) (by omega) ls (lv_sub hl [0, 1, 2, 3, 4, 5, 6, 7, 8, 9] rfl)
                    · have fc380 := z_eq (rfl : (v368).toInt = _) (rfl : (k).toInt = _) c380
                      refine lv_iconst (v := 1) hx hb dX12_isWord_98 (by decide) ?_
                      refine lv_goto (tgt := 103) hx hb dX12_isWord_99 (by decide) ?_
                      refine lv_istore (lv' := [(8, .int 1), (9, .int x363_9), (0, .ref h), (1, .int mm), (2, .int a), (3, .int b), (4, .int d), (5, .int k), (6, .int n), (7, .int q)]) hx hb dX12_isWord_103 hl (by decide) rfl (fun ls hl => ?_)
                      obtain ⟨v382, ev382⟩ : ∃ y : Int32, y = x363_9 + 1 := ⟨_, rfl⟩
                      have tv382 := z_add ev382 rfl (by decide : (1 : Int32).toInt = 1) (by omega) (by omega)
                      refine lv_iinc (v := v382) (lv' := [(9, .int v382), (8, .int 1), (0, .ref h), (1, .int mm), (2, .int a), (3, .int b), (4, .int d), (5, .int k), (6, .int n), (7, .int q)]) hx hb dX12_isWord_105 hl (k := 1) rfl (by rw [ev382]; rfl) (by decide) rfl (fun ls hl => ?_)
                      refine lv_goto (tgt := 18) hx hb dX12_isWord_108 (by decide) ?_
                      have : (1 : Int32).toInt = 1 := (by decide)
                      exact ih364 v382 1 ⟨by omega, by omega⟩ ⟨by decide, by decide⟩ (show ((1 : Int32).toInt = 0 ∨ ((iv 12 38) : Int32).toInt = (mm).toInt) from by omega) (by omega) ls (lv_sub hl [0, 1, 2, 3, 4, 5, 6, 7, 8, 9] rfl)
                · have fc371 := z_eq (rfl : (x363_9).toInt = _) (by decide : (2 : Int32).toInt = 2) c371
                  refine lv_iload hx hb dX12_isWord_66 (lv_at hl 6 rfl) ?_
                  refine lv_goto (tgt := 95) hx hb dX12_isWord_68 (by decide) ?_
                  refine lv_icmp_ne (tgt := 102) hx hb dX12_isWord_95 (by decide) (fun c383 => ?_) (fun c383 => ?_)
                  · have fc383 := z_ne (rfl : (v368).toInt = _) (rfl : (d).toInt = _) c383
                    refine lv_iconst (v := 0) hx hb dX12_isWord_102 (by decide) ?_
                    refine lv_istore (lv' := [(8, .int 0), (9, .int x363_9), (0, .ref h), (1, .int mm), (2, .int a), (3, .int b), (4, .int d), (5, .int k), (6, .int n), (7, .int q)]) hx hb dX12_isWord_103 hl (by decide) rfl (fun ls hl => ?_)
                    obtain ⟨v384, ev384⟩ : ∃ y : Int32, y = x363_9 + 1 := ⟨_, rfl⟩
                    have tv384 := z_add ev384 rfl (by decide : (1 : Int32).toInt = 1) (by omega) (by omega)
                    refine lv_iinc (v := v384) (lv' := [(9, .int v384), (8, .int 0), (0, .ref h), (1, .int mm), (2, .int a), (3, .int b), (4, .int d), (5, .int k), (6, .int n), (7, .int q)]) hx hb dX12_isWord_105 hl (k := 1) rfl (by rw [ev384]; rfl) (by decide) rfl (fun ls hl => ?_)
                    refine lv_goto (tgt := 18) hx hb dX12_isWord_108 (by decide) ?_
                    have : (0 : Int32).toInt = 0 := (by decide)
                    exact ih364 v384 0 ⟨by omega, by omega⟩ ⟨by decide, by decide⟩ (show ((0 : Int32).toInt = 0 ∨ ((iv 12 38) : Int32).toInt = (mm).toInt) from by omega) (by omega) ls (lv_sub hl [0, 1, 2, 3, 4, 5, 6, 7, 8, 9] rfl)
                  · have fc383 := z_eq (rfl : (v368).toInt = _) (rfl : (d).toInt = _) c383
                    refine lv_iconst (v := 1) hx hb dX12_isWord_98 (by decide) ?_
                    refine lv_goto (tgt := 103) hx hb dX12_isWord_99 (by decide) ?_
                    refine lv_istore (lv' := [(8, .int 1), (9, .int x363_9), (0, .ref h), (1, .int mm), (2, .int a), (3, .int b), (4, .int d), (5, .int k), (6, .int n), (7, .int q)]) hx hb dX12_isWord_103 hl (by decide) rfl (fun ls hl => ?_)
                    obtain ⟨v385, ev385⟩ : ∃ y : Int32, y = x363_9 + 1 := ⟨_, rfl⟩
                    have tv385 := z_add ev385 rfl (by decide : (1 : Int32).toInt = 1) (by omega) (by omega)
                    refine lv_iinc (v := v385) (lv' := [(9, .int v385), (8, .int 1), (0, .ref h), (1, .int mm), (2, .int a), (3, .int b), (4, .int d), (5, .int k), (6, .int n), (7, .int q)]) hx hb dX12_isWord_105 hl (k := 1) rfl (by rw [ev385]; rfl) (by decide) rfl (fun ls hl => ?_)
                    refine lv_goto (tgt := 18) hx hb dX12_isWord_108 (by decide) ?_
                    have : (1 : Int32).toInt = 1 := (by decide)
                    exact ih364 v385 1 ⟨by omega, by omega⟩ ⟨by decide, by decide⟩ (show ((1 : Int32).toInt = 0 ∨ ((iv 12 38) : Int32).toInt = (mm).toInt) from by omega) (by omega) ls (lv_sub hl [0, 1, 2, 3, 4, 5, 6, 7, 8, 9] rfl)
              · have fc370 := z_eq (rfl : (x363_9).toInt = _) (by decide : (1 : Int32).toInt = 1) c370
                refine lv_iload_n hx hb dX12_isWord_56 rfl (lv_at hl 5 rfl) ?_
                refine lv_goto (tgt := 95) hx hb dX12_isWord_57 (by decide) ?_
                refine lv_icmp_ne (tgt := 102) hx hb dX12_isWord_95 (by decide) (fun c386 => ?_) (fun c386 => ?_)
                · have fc386 := z_ne (rfl : (v368).toInt = _) (rfl : (b).toInt = _) c386
                  refine lv_iconst (v := 0) hx hb dX12_isWord_102 (by decide) ?_
                  refine lv_istore (lv' := [(8, .int 0), (9, .int x363_9), (0, .ref h), (1, .int mm), (2, .int a), (3, .int b), (4, .int d), (5, .int k), (6, .int n), (7, .int q)]) hx hb dX12_isWord_103 hl (by decide) rfl (fun ls hl => ?_)
                  obtain ⟨v387, ev387⟩ : ∃ y : Int32, y = x363_9 + 1 := ⟨_, rfl⟩
                  have tv387 := z_add ev387 rfl (by decide : (1 : Int32).toInt = 1) (by omega) (by omega)
                  refine lv_iinc (v := v387) (lv' := [(9, .int v387), (8, .int 0), (0, .ref h), (1, .int mm), (2, .int a), (3, .int b), (4, .int d), (5, .int k), (6, .int n), (7, .int q)]) hx hb dX12_isWord_105 hl (k := 1) rfl (by rw [ev387]; rfl) (by decide) rfl (fun ls hl => ?_)
                  refine lv_goto (tgt := 18) hx hb dX12_isWord_108 (by decide) ?_
                  have : (0 : Int32).toInt = 0 := (by decide)
                  exact ih364 v387 0 ⟨by omega, by omega⟩ ⟨by decide, by decide⟩ (show ((0 : Int32).toInt = 0 ∨ ((iv 12 38) : Int32).toInt = (mm).toInt) from by omega) (by omega) ls (lv_sub hl [0, 1, 2, 3, 4, 5, 6, 7, 8, 9] rfl)
                · have fc386 := z_eq (rfl : (v368).toInt = _) (rfl : (b).toInt = _) c386
                  refine lv_iconst (v := 1) hx hb dX12_isWord_98 (by decide) ?_
                  refine lv_goto (tgt := 103) hx hb dX12_isWord_99 (by decide) ?_
                  refine lv_istore (lv' := [(8, .int 1), (9, .int x363_9), (0, .ref h), (1, .int mm), (2, .int a), (3, .int b), (4, .int d), (5, .int k), (6, .int n), (7, .int q)]) hx hb dX12_isWord_103 hl (by decide) rfl (fun ls hl => ?_)
                  obtain ⟨v388, ev388⟩ : ∃ y : Int32, y = x363_9 + 1 := ⟨_, rfl⟩
                  have tv388 := z_add ev388 rfl (by decide : (1 : Int32).toInt = 1) (by omega) (by omega)
                  refine lv_iinc (v := v388) (lv' := [(9, .int v388), (8, .int 1), (0, .ref h), (1, .int mm), (2, .int a), (3, .int b), (4, .int d), (5, .int k), (6, .int n), (7, .int q)]) hx hb dX12_isWord_105 hl (k := 1) rfl (by rw [ev388]; rfl) (by decide) rfl (fun ls hl => ?_)
                  refine lv_goto (tgt := 18) hx hb dX12_isWord_108 (by decide) ?_
                  have : (1 : Int32).toInt = 1 := (by decide)
                  exact ih364 v388 1 ⟨by omega, by omega⟩ ⟨by decide, by decide⟩ (show ((1 : Int32).toInt = 0 ∨ ((iv 12 38) : Int32).toInt = (mm).toInt) from by omega) (by omega) ls (lv_sub hl [0, 1, 2, 3, 4, 5, 6, 7, 8, 9] rfl)
            · have fc369 := z_eq (rfl : (x363_9).toInt = _) (by decide : (0 : Int32).toInt = 0) c369
              refine lv_iload_n hx hb dX12_isWord_46 rfl (lv_at hl 4 rfl) ?_
              refine lv_goto (tgt := 95) hx hb dX12_isWord_47 (by decide) ?_
              refine lv_icmp_ne (tgt := 102) hx hb dX12_isWord_95 (by decide) (fun c389 => ?_) (fun c389 => ?_)
              · have fc389 := z_ne (rfl : (v368).toInt = _) (rfl : (a).toInt = _) c389
                refine lv_iconst (v := 0) hx hb dX12_isWord_102 (by decide) ?_
                refine lv_istore (lv' := [(8, .int 0), (9, .int x363_9), (0, .ref h), (1, .int mm), (2, .int a), (3, .int b), (4, .int d), (5, .int k), (6, .int n), (7, .int q)]) hx hb dX12_isWord_103 hl (by decide) rfl (fun ls hl => ?_)
                obtain ⟨v390, ev390⟩ : ∃ y : Int32, y = x363_9 + 1 := ⟨_, rfl⟩
                have tv390 := z_add ev390 rfl (by decide : (1 : Int32).toInt = 1) (by omega) (by omega)
                refine lv_iinc (v := v390) (lv' := [(9, .int v390), (8, .int 0), (0, .ref h), (1, .int mm), (2, .int a), (3, .int b), (4, .int d), (5, .int k), (6, .int n), (7, .int q)]) hx hb dX12_isWord_105 hl (k := 1) rfl (by rw [ev390]; rfl) (by decide) rfl (fun ls hl => ?_)
                refine lv_goto (tgt := 18) hx hb dX12_isWord_108 (by decide) ?_
                have : (0 : Int32).toInt = 0 := (by decide)
                exact ih364 v390 0 ⟨by omega, by omega⟩ ⟨by decide, by decide⟩ (show ((0 : Int32).toInt = 0 ∨ ((iv 12 38) : Int32).toInt = (mm).toInt) from by omega) (by omega) ls (lv_sub hl [0, 1, 2, 3, 4, 5, 6, 7, 8, 9] rfl)
              · have fc389 := z_eq (rfl : (v368).toInt = _) (rfl : (a).toInt = _) c389
                refine lv_iconst (v := 1) hx hb dX12_isWord_98 (by decide) ?_
                refine lv_goto (tgt := 103) hx hb dX12_isWord_99 (by decide) ?_
                refine lv_istore (lv' := [(8, .int 1), (9, .int x363_9), (0, .ref h), (1, .int mm), (2, .int a), (3, .int b), (4, .int d), (5, .int k), (6, .int n), (7, .int q)]) hx hb dX12_isWord_103 hl (by decide) rfl (fun ls hl => ?_)
                obtain ⟨v391, ev391⟩ : ∃ y : Int32, y = x363_9 + 1 := ⟨_, rfl⟩
                have tv391 := z_add ev391 rfl (by decide : (1 : Int32).toInt = 1) (by omega) (by omega)
                refine lv_iinc (v := v391) (lv' := [(9, .int v391), (8, .int 1), (0, .ref h), (1, .int mm), (2, .int a), (3, .int b), (4, .int d), (5, .int k), (6, .int n), (7, .int q)]) hx hb dX12_isWord_105 hl (k := 1) rfl (by rw [ev391]; rfl) (by decide) rfl (fun ls hl => ?_)
                refine lv_goto (tgt := 18) hx hb dX12_isWord_108 (by decide) ?_
                have : (1 : Int32).toInt = 1 := (by decide)
                exact ih364 v391 1 ⟨by omega, by omega⟩ ⟨by decide, by decide⟩ (show ((1 : Int32).toInt = 0 ∨ ((iv 12 38) : Int32).toInt = (mm).toInt) from by omega) (by omega) ls (lv_sub hl [0, 1, 2, 3, 4, 5, 6, 7, 8, 9] rfl)
    have : (0 : Int32).toInt = 0 := (by decide)
    have : (1 : Int32).toInt = 1 := (by decide)
    exact lp364 7 0 1 ⟨by decide, by decide⟩ ⟨by decide, by decide⟩ (show ((1 : Int32).toInt = 0 ∨ ((iv 12 38) : Int32).toInt = (mm).toInt) from by omega) (by first | decide | omega) ls (lv_sub hl [0, 1, 2, 3, 4, 5, 6, 7, 8, 9] rfl)
set_option maxHeartbeats 4000000 in
set_option maxRecDepth 100000 in
/-- X12_takeNumber -/
theorem c_X12_takeNumber (l : Launch) (dC : Nat → ClassId) (dI : Nat → Nat → Nat) (sz : Nat) (h : Nat) (g : Nat → Nat → Nat) (ca : Nat → Nat → ClassId) (iv : Nat → Nat → Int32) (lv : Nat → Nat → Int64) (fa : Nat → Nat → Nat → Int32) (la : Nat → Nat → Nat → Int64) (hI : IX iv fa) (a : Int32) (b : Int32) : Met l yX12_takeNumber (wc yX12_takeNumber cX12_takeNumber 6 (some .int)) ({ frames := 1, cells := 0, slots := 0, locals := 25 } : Room) (pW (dC, dI) classes (WM h g ca iv lv fa la) (TM ca) sz [.ref h, .int a, .int b]) (va_Qi (fun r (u : SS) => ∃ (ni_12_34 : Int32) (ni_12_35 : Int32) (ni_12_36 : Int32) (ni_12_37 : Int32), inb (bI 12 34) ni_12_34 ∧ inb (bI 12 35) ni_12_35 ∧ inb (bI 12 37) ni_12_37 ∧ ((iv 12 34).toInt ≤ (ni_12_34).toInt) ∧ (((ni_12_35).toInt ≠ 0 ∨ (a.toInt ≤ r.toInt ∧ r.toInt ≤ b.toInt))) ∧ (0 ≤ r.toInt ∧ r.toInt ≤ 99999) ∧ u = ((u2 (u2 (u2 (u2 iv 12 34 ni_12_34) 12 35 ni_12_35) 12 36 ni_12_36) 12 37 ni_12_37), lv, fa, la)) (bM (dC, dI) h g ca (va_A (WM h g ca iv lv fa la) sz)) (va_A (WM h g ca iv lv fa la) sz)) 0 0 (va_A (WM h g ca iv lv fa la) sz) := by
  refine Met.ofW (cc := cX12_takeNumber) (maxL := 6) (ret := (some .int)) (by decide) rfl ?_
  intro p e s m args below meth c s₁ B hml hv
  obtain ⟨rfl, hsz, hP, hK, hD0⟩ := hv
  have hx := B.exec
  have hb := B.bytes
  have hr := B.returns
  have ht := tb_tl (atoms_spec (ws := wc yX12_takeNumber cX12_takeNumber 6 (some .int)) B.pre)
  have hown : s.vm.findClass RX12 = some m.cls := findClass_of_methodNamed B.named
  have hlocks := B.notSynchronized
  subst hsz
  have hD := hD0.self (sz := s.heap.size)
  generalize hAe : va_A (WM h g ca iv lv fa la) s.heap.size = A at hD ⊢
  have hA : ∀ q : Nat, s.heap.size ≤ q → A q := fun q h => by rw [← hAe]; exact Or.inr h
  have hS : va_S A s.heap s.heap [] := va_S.rf
  have hl := lv_entry [.ref h, .int a, .int b] (n := 6) (Nat.le_of_ble_eq_true rfl)
  rw [lg_entry_eq]
  generalize (lg_sl [.ref h, .int a, .int b] ++ List.replicate (6 - (lg_sl [.ref h, .int a, .int b]).length) Slot.unset).toArray = ls at hl ⊢
  have hl : lv_has ls 6 [(0, .ref h), (1, .int a), (2, .int b)] := hl
  refine lv_aload_n hx hb dX12_takeNumber_0 rfl (lv_at hl 0 rfl) ?_
  have i_12_34 : 0 ≤ (iv 12 34).toInt ∧ (iv 12 34).toInt ≤ 200 := hI.1 12 34
  have hFc := free_all hD hS hA
  refine va_calli (va_runV (As := []) (rest := []) ⟨hx, hb, hml, hown, ht⟩ (c_X12_here_x l dC dI s.heap.size h g ca iv lv fa la hI) (kV 0 ht m_1458 m_1460 m_47 m_89 m_1461 rfl rfl hd_X12_here_v ⟨Nat.le_of_ble_eq_true rfl, Nat.le_of_ble_eq_true rfl⟩) (vW hP hK hD (rM_12 hK hP)) rfl rfl hl.1 rfl (lv_room (Nat.le_of_ble_eq_true rfl)) dX12_takeNumber_1 ⟨Nat.le_of_ble_eq_true rfl, Nat.le_of_ble_eq_true rfl⟩) hS (fun q _ h => hFc q h) hFc (fun r1 u t H1 locs ht9 hvm hr1 hB hz1 hk1 hS => ?_)
  obtain ⟨n2, hn2, xr1_0, xr1_1, hr1, rfl⟩ := hr1
  have hn2 : 0 ≤ n2.toInt ∧ n2.toInt ≤ 200 := hn2
  obtain ⟨hP, hD⟩ := hB
  rw [ht9] at hP
  generalize H1 = H at hP hS ⊢
  have hP : va_P (dC, dI) classes (WM h g ca (u2 iv 12 34 n2) lv fa la) H := hP
  have hD : va_D A (WM h g ca (u2 iv 12 34 n2) lv fa la) := (show va_D _ (WM h g ca (u2 iv 12 34 n2) lv fa la) from hD).weaken (fun _ _ _ h => hFc _ h)
  have xr1_0 : ((iv 12 34) : Int32).toInt ≤ (n2 : Int32).toInt := xr1_0
  have i_12_33 : 0 ≤ (iv 12 33).toInt ∧ (iv 12 33).toInt ≤ 200 := hI.1 12 33
  have xr1_1 : ((r1 : Int32).toInt = -1 ∨ (n2 : Int32).toInt + 1 ≤ ((iv 12 33) : Int32).toInt) := xr1_1
  refine lv_istore_n (lv' := [(3, .int r1), (0, .ref h), (1, .int a), (2, .int b)]) hx hb dX12_takeNumber_4 rfl hl (by decide) rfl (fun ls hl => ?_)
  refine lv_aload_n hx hb dX12_takeNumber_5 rfl (lv_at hl 1 rfl) ?_
  refine lv_aload_n hx hb dX12_takeNumber_6 rfl (lv_at hl 1 rfl) ?_
  refine gM_12_34 hx hb ht hown hK hP m_1173 (v := n2) rfl dX12_takeNumber_7 ?_
  refine pM_12_37 (v := n2) hx hb ht hown hK hP hD hS m_1176 dX12_takeNumber_10 (fun H locs hP hD hS => ?_)
  refine lv_aload_n hx hb dX12_takeNumber_13 rfl (lv_at hl 1 rfl) ?_
  refine lv_iload_n hx hb dX12_takeNumber_14 rfl (lv_at hl 0 rfl) ?_
  refine lv_i2l (v := (r1.toInt64)) hx hb dX12_takeNumber_15 rfl ?_
  refine lv_ldc2 hx hb hown (ht _ m_1494) dX12_takeNumber_16 ?_
  refine lv_ldc2 hx hb hown (ht _ m_1495) dX12_takeNumber_19 ?_
  refine vp_callSi (W.runS (As := [.long (r1.toInt64), .long 48, .long 57]) (rest := [.ref h]) ⟨hx, hb, hml, hown, ht⟩ (c_X12_in l dC dI (r1.toInt64) 48 57 (r1.toInt) (48) (57) ((Int32.toInt_toInt64 r1).trans rfl) (by decide : (48 : Int64).toInt = 48) (by decide : (57 : Int64).toInt = 57)) (kS 3 ht m_1370 m_1371 m_89 m_1372 rfl rfl hd_X12_in_v ⟨Nat.le_of_ble_eq_true rfl, Nat.le_of_ble_eq_true rfl⟩) (sR noP (hK.sub (tys' := []) [] rfl)) rfl rfl hl.1 rfl (lv_room (Nat.le_of_ble_eq_true rfl)) dX12_takeNumber_22 ⟨Nat.le_of_ble_eq_true rfl, Nat.le_of_ble_eq_true rfl⟩) (fun r3 hr3 => ?_)
  rcases hr3 with ⟨rfl, fr3⟩ | ⟨rfl, fr3⟩
  · skip
    refine lv_iconst (v := 1) hx hb dX12_takeNumber_25 (by decide) ?_
    refine lv_aload_n hx hb dX12_takeNumber_26 rfl (lv_at hl 1 rfl) ?_
    refine gM_12_34 hx hb ht hown hK hP m_1173 (v := n2) rfl dX12_takeNumber_27 ?_
    refine vp_callSi (W.runV (As := [.int 1, .int 1, .int n2]) (rest := []) ⟨hx, hb, hml, hown, ht⟩ (c_X12_want_1 l dC dI h g ca (u2 (u2 iv 12 34 n2) 12 37 n2) lv fa la (IX_i (c := 12) (k := 37) (IX_i (c := 12) (k := 34) hI (show inb (0, 200) n2 from ⟨by omega, by omega⟩)) (show inb (0, 200) n2 from ⟨by omega, by omega⟩)) 1 n2) (kV 3 ht m_1472 m_1474 m_50 m_89 m_1475 rfl rfl hd_X12_want_v ⟨Nat.le_of_ble_eq_true rfl, Nat.le_of_ble_eq_true rfl⟩) (vR hP hK (rM_12 hK hP)) rfl rfl hl.1 rfl (lv_room (Nat.le_of_ble_eq_true rfl)) dX12_takeNumber_30 ⟨Nat.le_of_ble_eq_true rfl, Nat.le_of_ble_eq_true rfl⟩) (fun r4 hr4 => ?_)
    rcases hr4 with ⟨rfl, fr4⟩ | ⟨rfl, fr4⟩
    have i_12_35 : 0 ≤ (iv 12 35).toInt ∧ (iv 12 35).toInt ≤ 5 := hI.1 12 35
    · skip
      have i_12_35 : 0 ≤ (iv 12 35).toInt ∧ (iv 12 35).toInt ≤ 5 := hI.1 12 35
      have fr4 : (((iv 12 35) : Int32).toInt = 0) := fr4
      refine lv_if_ne (tgt := 38) hx hb dX12_takeNumber_33 (by decide) (fun c5 => ?_) (fun c5 => ?_)
      · skip
        refine lv_iconst (v := 0) hx hb dX12_takeNumber_38 (by decide) ?_
        refine lv_istore (lv' := [(4, .int 0), (3, .int r1), (0, .ref h), (1, .int a), (2, .int b)]) hx hb dX12_takeNumber_39 hl (by decide) rfl (fun ls hl => ?_)
        have lp224 : ∀ (nn224 : Nat) (x223_4 : Int32) (w223_i_12_34 : Int32), 0 ≤ x223_4.toInt ∧ x223_4.toInt ≤ 99999 → 0 ≤ w223_i_12_34.toInt ∧ w223_i_12_34.toInt ≤ 200 → (iv 12 34).toInt ≤ (w223_i_12_34 : Int32).toInt → 200 - w223_i_12_34.toInt < (nn224 : Int) → ∀ (H : Heap) (locs : List Loc), ∀ (ls : Array Slot), va_P (dC, dI) classes (WM h g ca (u2 (u2 iv 12 34 w223_i_12_34) 12 37 n2) lv fa la) H → va_D A (WM h g ca (u2 (u2 iv 12 34 w223_i_12_34) 12 37 n2) lv fa la) → va_S A s.heap H locs → lv_has ls 6 [(4, .int x223_4), (3, .int r1), (0, .ref h), (1, .int a), (2, .int b)] → W p l e ({ frames := 1, cells := 0, slots := 0, locals := 25 } : Room) s m ([.ref h, .int a, .int b] : List Value).toArray below meth c H locs 0 0 (MQ below (va_Qi (fun r (u : SS) => ∃ (ni_12_34 : Int32) (ni_12_35 : Int32) (ni_12_36 : Int32) (ni_12_37 : Int32), inb (bI 12 34) ni_12_34 ∧ inb (bI 12 35) ni_12_35 ∧ inb (bI 12 37) ni_12_37 ∧ ((iv 12 34).toInt ≤ (ni_12_34).toInt) ∧ (((ni_12_35).toInt ≠ 0 ∨ (a.toInt ≤ r.toInt ∧ r.toInt ≤ b.toInt))) ∧ (0 ≤ r.toInt ∧ r.toInt ≤ 99999) ∧ u = ((u2 (u2 (u2 (u2 iv 12 34 ni_12_34) 12 35 ni_12_35) 12 36 ni_12_36) 12 37 ni_12_37), lv, fa, la)) (bM (dC, dI) h g ca A) A) ([.ref h, .int a, .int b] : List Value).toArray s 0 0 A) (F0 m 41 ls []) := by
          intro nn224
          induction nn224 with
          | zero => intro x223_4 w223_i_12_34 hx223_4 hw223_i_12_34 hq224_0 hm224; exfalso; omega
          | succ nn224 ih224 =>
            intro x223_4 w223_i_12_34 hx223_4 hw223_i_12_34 hq224_0 hm224 H locs ls hP hD hS hl
            refine lv_aload_n hx hb dX12_takeNumber_41 rfl (lv_at hl 2 rfl) ?_
            refine gM_12_34 hx hb ht hown hK hP m_1173 (v := w223_i_12_34) rfl dX12_takeNumber_42 ?_
            refine lv_aload_n hx hb dX12_takeNumber_45 rfl (lv_at hl 2 rfl) ?_
            refine gM_12_33 hx hb ht hown hK hP m_1172 (v := (iv 12 33)) rfl dX12_takeNumber_46 ?_
            refine lv_icmp_ge (tgt := 120) hx hb dX12_takeNumber_49 (by decide) (fun c225 => ?_) (fun c225 => ?_)
            · have fc225 := z_le (rfl : ((iv 12 33)).toInt = _) (rfl : (w223_i_12_34).toInt = _) c225
              refine lv_aload_n hx hb dX12_takeNumber_120 rfl (lv_at hl 2 rfl) ?_
              refine lv_aload_n hx hb dX12_takeNumber_121 rfl (lv_at hl 2 rfl) ?_
              refine gM_12_34 hx hb ht hown hK hP m_1173 (v := w223_i_12_34) rfl dX12_takeNumber_122 ?_
              refine lv_aload_n hx hb dX12_takeNumber_125 rfl (lv_at hl 2 rfl) ?_
              refine gM_12_37 hx hb ht hown hK hP m_1176 (v := n2) rfl dX12_takeNumber_126 ?_
              refine lv_isub hx hb dX12_takeNumber_129 ?_
              refine lv_topi (fun v226 ev226 => ?_)
              have tv226 := z_sub ev226 (rfl : (w223_i_12_34).toInt = _) (rfl : (n2).toInt = _) (by omega) (by omega)
              refine lv_iconst (v := 5) hx hb dX12_takeNumber_130 (by decide) ?_
              refine lv_icmp_ge (tgt := 151) hx hb dX12_takeNumber_131 (by decide) (fun c227 => ?_) (fun c227 => ?_)
              · have fc227 := z_le (by decide : (5 : Int32).toInt = 5) (rfl : (v226).toInt = _) c227
                refine lv_iconst (v := 0) hx hb dX12_takeNumber_151 (by decide) ?_
                refine lv_iconst (v := 2) hx hb dX12_takeNumber_152 (by decide) ?_
                refine lv_aload_n hx hb dX12_takeNumber_153 rfl (lv_at hl 2 rfl) ?_
                refine gM_12_37 hx hb ht hown hK hP m_1176 (v := n2) rfl dX12_takeNumber_154 ?_
                have hFc := free_all hD hS hA
                refine va_calli (va_runV (As := [.int 0, .int 2, .int n2]) (rest := []) ⟨hx, hb, hml, hown, ht⟩ (c_X12_want_0 l dC dI H.size h g ca (u2 (u2 iv 12 34 w223_i_12_34) 12 37 n2) lv fa la (IX_i (c := 12) (k := 37) (IX_i (c := 12) (k := 34) hI (show inb (0, 200) w223_i_12_34 from ⟨by omega, by omega⟩)) (show inb (0, 200) n2 from ⟨by omega, by omega⟩)) 2 n2 ⟨by decide, by decide⟩) (kV 3 ht m_1472 m_1474 m_50 m_89 m_1475 rfl rfl hd_X12_want_v ⟨Nat.le_of_ble_eq_true rfl, Nat.le_of_ble_eq_true rfl⟩) (vW hP hK hD (rM_12 hK hP)) rfl rfl hl.1 rfl (lv_room (Nat.le_of_ble_eq_true rfl)) dX12_takeNumber_157 ⟨Nat.le_of_ble_eq_true rfl, Nat.le_of_ble_eq_true rfl⟩) hS (fun q _ h => hFc q h) hFc (fun r228 u t H1 locs ht9 hvm hr228 hB hz1 hk1 hS => ?_)
                obtain ⟨n229, n230, hn229, xr228_0, hr228, rfl⟩ := hr228
                have hn229 : 0 ≤ n229.toInt ∧ n229.toInt ≤ 5 := hn229
                obtain ⟨hP, hD⟩ := hB
                rw [ht9] at hP
                generalize H1 = H at hP hS ⊢
                have hP : va_P (dC, dI) classes (WM h g ca (u2 (u2 (u2 (u2 iv 12 34 w223_i_12_34) 12 37 n2) 12 35 n229) 12 36 n230) lv fa la) H := hP
                have hD : va_D A (WM h g ca (u2 (u2 (u2 (u2 iv 12 34 w223_i_12_34) 12 37 n2) 12 35 n229) 12 36 n230) lv fa la) := (show va_D _ (WM h g ca (u2 (u2 (u2 (u2 iv 12 34 w223_i_12_34) 12 37 n2) 12 35 n229) 12 36 n230) lv fa la) from hD).weaken (fun _ _ _ h => hFc _ h)
                have xr228_0 : 1 ≤ (n229 : Int32).toInt := xr228_0
                obtain rfl : 0 = r228 := hr228.symm
                refine lv_istore (lv' := [(5, .int 0), (4, .int x223_4), (3, .int r1), (0, .ref h), (1, .int a), (2, .int b)]) hx hb dX12_takeNumber_160 hl (by decide) rfl (fun ls hl => ?_)
                refine lv_iload hx hb dX12_takeNumber_162 (lv_at hl 1 rfl) ?_
                have hP9 : va_P (dC, dI) classes (WM h g ca (u2 (u2 (u2 (u2 iv 12 34 w223_i_12_34) 12 35 n229) 12 36 n230) 12 37 n2) lv fa la) H := hP
                have hD9 : va_D A (WM h g ca (u2 (u2 (u2 (u2 iv 12 34 w223_i_12_34) 12 35 n229) 12 36 n230) 12 37 n2) lv fa la) := hD
                exact W.iret (v := x223_4) hx hb hr (fun t ht9 hW => ⟨⟨x223_4, ((u2 (u2 (u2 (u2 iv 12 34 w223_i_12_34) 12 35 n229) 12 36 n230) 12 37 n2), lv, fa, la), rfl, ⟨w223_i_12_34, n229, n230, n2, (show inb (0, 200) w223_i_12_34 from ⟨by omega, by omega⟩), (show inb (0, 5) n229 from ⟨by omega, by omega⟩), (show inb (0, 200) n2 from ⟨by omega, by omega⟩), (show (iv 12 34).toInt ≤ (w223_i_12_34 : Int32).toInt from by omega), (show ((n229 : Int32).toInt ≠ 0 ∨ ((a).toInt ≤ (x223_4 : Int32).toInt ∧ (x223_4 : Int32).toInt ≤ (b).toInt)) from by omega), ⟨by omega, by omega⟩, rfl⟩, by rw [ht9]; exact hP9, hD9⟩, hS.F ht9⟩) hS.2.2 dX12_takeNumber_164
              · have fc227 := z_nle (by decide : (5 : Int32).toInt = 5) (rfl : (v226).toInt = _) c227
                refine lv_iload hx hb dX12_takeNumber_134 (lv_at hl 0 rfl) ?_
                refine lv_i2l (v := (x223_4.toInt64)) hx hb dX12_takeNumber_136 rfl ?_
                refine lv_iload_n hx hb dX12_takeNumber_137 rfl (lv_at hl 3 rfl) ?_
                refine lv_i2l (v := (a.toInt64)) hx hb dX12_takeNumber_138 rfl ?_
                refine lv_iload_n hx hb dX12_takeNumber_139 rfl (lv_at hl 4 rfl) ?_
                refine lv_i2l (v := (b.toInt64)) hx hb dX12_takeNumber_140 rfl ?_
                refine vp_callSi (W.runS (As := [.long (x223_4.toInt64), .long (a.toInt64), .long (b.toInt64)]) (rest := [.ref h]) ⟨hx, hb, hml, hown, ht⟩ (c_X12_in l dC dI (x223_4.toInt64) (a.toInt64) (b.toInt64) (x223_4.toInt) (a.toInt) (b.toInt) ((Int32.toInt_toInt64 x223_4).trans rfl) ((Int32.toInt_toInt64 a).trans rfl) ((Int32.toInt_toInt64 b).trans rfl)) (kS 3 ht m_1370 m_1371 m_89 m_1372 rfl rfl hd_X12_in_v ⟨Nat.le_of_ble_eq_true rfl, Nat.le_of_ble_eq_true rfl⟩) (sR noP (hK.sub (tys' := []) [] rfl)) rfl rfl hl.1 rfl (lv_room (Nat.le_of_ble_eq_true rfl)) dX12_takeNumber_141 ⟨Nat.le_of_ble_eq_true rfl, Nat.le_of_ble_eq_true rfl⟩) (fun r231 hr231 => ?_)
                rcases hr231 with ⟨rfl, fr231⟩ | ⟨rfl, fr231⟩
                · skip
                  refine lv_if_eq (tgt := 151) hx hb dX12_takeNumber_144 (by decide) (fun c232 => ?_) (fun c232 => ?_)
                  · exact absurd c232 (by decide)
                  · skip
                    refine lv_iconst (v := 1) hx hb dX12_takeNumber_147 (by decide) ?_
                    refine lv_goto (tgt := 152) hx hb dX12_takeNumber_148 (by decide) ?_
                    refine lv_iconst (v := 2) hx hb dX12_takeNumber_152 (by decide) ?_
                    refine lv_aload_n hx hb dX12_takeNumber_153 rfl (lv_at hl 2 rfl) ?_
                    refine gM_12_37 hx hb ht hown hK hP m_1176 (v := n2) rfl dX12_takeNumber_154 ?_
                    refine vp_callSi (W.runV (As := [.int 1, .int 2, .int n2]) (rest := []) ⟨hx, hb, hml, hown, ht⟩ (c_X12_want_1 l dC dI h g ca (u2 (u2 iv 12 34 w223_i_12_34) 12 37 n2) lv fa la (IX_i (c := 12) (k := 37) (IX_i (c := 12) (k := 34) hI (show inb (0, 200) w223_i_12_34 from ⟨by omega, by omega⟩)) (show inb (0, 200) n2 from ⟨by omega, by omega⟩)) 2 n2) (kV 3 ht m_1472 m_1474 m_50 m_89 m_1475 rfl rfl hd_X12_want_v ⟨Nat.le_of_ble_eq_true rfl, Nat.le_of_ble_eq_true rfl⟩) (vR hP hK (rM_12 hK hP)) rfl rfl hl.1 rfl (lv_room (Nat.le_of_ble_eq_true rfl)) dX12_takeNumber_157 ⟨Nat.le_of_ble_eq_true rfl, Nat.le_of_ble_eq_true rfl⟩) (fun r233 hr233 => ?_)
                    rcases hr233 with ⟨rfl, fr233⟩ | ⟨rfl, fr233⟩
                    · skip
                      have fr233 : (((iv 12 35) : Int32).toInt = 0) := fr233
                      refine lv_istore (lv' := [(5, .int 1), (4, .int x223_4), (3, .int r1), (0, .ref h), (1, .int a), (2, .int b)]) hx hb dX12_takeNumber_160 hl (by decide) rfl (fun ls hl => ?_)
                      refine lv_iload hx hb dX12_takeNumber_162 (lv_at hl 1 rfl) ?_
                      have hP9 : va_P (dC, dI) classes (WM h g ca (u2 (u2 (u2 (u2 iv 12 34 w223_i_12_34) 12 35 (iv 12 35)) 12 36 (iv 12 36)) 12 37 n2) lv fa la) H := hP
                      have hD9 : va_D A (WM h g ca (u2 (u2 (u2 (u2 iv 12 34 w223_i_12_34) 12 35 (iv 12 35)) 12 36 (iv 12 36)) 12 37 n2) lv fa la) := hD
                      exact W.iret (v := x223_4) hx hb hr (fun t ht9 hW => ⟨⟨x223_4, ((u2 (u2 (u2 (u2 iv 12 34 w223_i_12_34) 12 35 (iv 12 35)) 12 36 (iv 12 36)) 12 37 n2), lv, fa, la), rfl, ⟨w223_i_12_34, (iv 12 35), (iv 12 36), n2, (show inb (0, 200) w223_i_12_34 from ⟨by omega, by omega⟩), (hI.1 12 35), (show inb (0, 200) n2 from ⟨by omega, by omega⟩), (show (iv 12 34).toInt ≤ (w223_i_12_34 : Int32).toInt from by omega), (show (((iv 12 35) : Int32).toInt ≠ 0 ∨ ((a).toInt ≤ (x223_4 : Int32).toInt ∧ (x223_4 : Int32).toInt ≤ (b).toInt)) from by omega), ⟨by omega, by omega⟩, rfl⟩, by rw [ht9]; exact hP9, hD9⟩, hS.F ht9⟩) hS.2.2 dX12_takeNumber_164
                    · skip
                      have fr233 : ¬ (((iv 12 35) : Int32).toInt = 0) := fr233
                      exfalso; omega
                · skip
                  refine lv_if_eq (tgt := 151) hx hb dX12_takeNumber_144 (by decide) (fun c234 => ?_) (fun c234 => ?_)
                  · skip
                    refine lv_iconst (v := 0) hx hb dX12_takeNumber_151 (by decide) ?_
                    refine lv_iconst (v := 2) hx hb dX12_takeNumber_152 (by decide) ?_
                    refine lv_aload_n hx hb dX12_takeNumber_153 rfl (lv_at hl 2 rfl) ?_
                    refine gM_12_37 hx hb ht hown hK hP m_1176 (v := n2) rfl dX12_takeNumber_154 ?_
                    have hFc := free_all hD hS hA
                    refine va_calli (va_runV (As := [.int 0, .int 2, .int n2]) (rest := []) ⟨hx, hb, hml, hown, ht⟩ (c_X12_want_0 l dC dI H.size h g ca (u2 (u2 iv 12 34 w223_i_12_34) 12 37 n2) lv fa la (IX_i (c := 12) (k := 37) (IX_i (c := 12) (k := 34) hI (show inb (0, 200) w223_i_12_34 from ⟨by omega, by omega⟩)) (show inb (0, 200) n2 from ⟨by omega, by omega⟩)) 2 n2 ⟨by decide, by decide⟩) (kV 3 ht m_1472 m_1474 m_50 m_89 m_1475 rfl rfl hd_X12_want_v ⟨Nat.le_of_ble_eq_true rfl, Nat.le_of_ble_eq_true rfl⟩) (vW hP hK hD (rM_12 hK hP)) rfl rfl hl.1 rfl (lv_room (Nat.le_of_ble_eq_true rfl)) dX12_takeNumber_157 ⟨Nat.le_of_ble_eq_true rfl, Nat.le_of_ble_eq_true rfl⟩) hS (fun q _ h => hFc q h) hFc (fun r235 u t H1 locs ht9 hvm hr235 hB hz1 hk1 hS => ?_)
                    obtain ⟨n236, n237, hn236, xr235_0, hr235, rfl⟩ := hr235
                    have hn236 : 0 ≤ n236.toInt ∧ n236.toInt ≤ 5 := hn236
                    obtain ⟨hP, hD⟩ := hB
                    rw [ht9] at hP
                    generalize H1 = H at hP hS ⊢
                    have hP : va_P (dC, dI) classes (WM h g ca (u2 (u2 (u2 (u2 iv 12 34 w223_i_12_34) 12 37 n2) 12 35 n236) 12 36 n237) lv fa la) H := hP
                    have hD : va_D A (WM h g ca (u2 (u2 (u2 (u2 iv 12 34 w223_i_12_34) 12 37 n2) 12 35 n236) 12 36 n237) lv fa la) := (show va_D _ (WM h g ca (u2 (u2 (u2 (u2 iv 12 34 w223_i_12_34) 12 37 n2) 12 35 n236) 12 36 n237) lv fa la) from hD).weaken (fun _ _ _ h => hFc _ h)
                    have xr235_0 : 1 ≤ (n236 : Int32).toInt := xr235_0
                    obtain rfl : 0 = r235 := hr235.symm
                    refine lv_istore (lv' := [(5, .int 0), (4, .int x223_4), (3, .int r1), (0, .ref h), (1, .int a), (2, .int b)]) hx hb dX12_takeNumber_160 hl (by decide) rfl (fun ls hl => ?_)
                    refine lv_iload hx hb dX12_takeNumber_162 (lv_at hl 1 rfl) ?_
                    have hP9 : va_P (dC, dI) classes (WM h g ca (u2 (u2 (u2 (u2 iv 12 34 w223_i_12_34) 12 35 n236) 12 36 n237) 12 37 n2) lv fa la) H := hP
                    have hD9 : va_D A (WM h g ca (u2 (u2 (u2 (u2 iv 12 34 w223_i_12_34) 12 35 n236) 12 36 n237) 12 37 n2) lv fa la) := hD
                    exact W.iret (v := x223_4) hx hb hr (fun t ht9 hW => ⟨⟨x223_4, ((u2 (u2 (u2 (u2 iv 12 34 w223_i_12_34) 12 35 n236) 12 36 n237) 12 37 n2), lv, fa, la), rfl, ⟨w223_i_12_34, n236, n237, n2, (show inb (0, 200) w223_i_12_34 from ⟨by omega, by omega⟩), (show inb (0, 5) n236 from ⟨by omega, by omega⟩), (show inb (0, 200) n2 from ⟨by omega, by omega⟩), (show (iv 12 34).toInt ≤ (w223_i_12_34 : Int32).toInt from by omega), (show ((n236 : Int32).toInt ≠ 0 ∨ ((a).toInt ≤ (x223_4 : Int32).toInt ∧ (x223_4 : Int32).toInt ≤ (b).toInt)) from by omega), ⟨by omega, by omega⟩, rfl⟩, by rw [ht9]; exact hP9, hD9⟩, hS.F ht9⟩) hS.2.2 dX12_takeNumber_164
                  · exact absurd rfl c234
            · have fc225 := z_nle (rfl : ((iv 12 33)).toInt = _) (rfl : (w223_i_12_34).toInt = _) c225
              refine lv_aload_n hx hb dX12_takeNumber_52 rfl (lv_at hl 2 rfl) ?_
              refine gM_12_32 hx hb ht hown hK hP m_1171 dX12_takeNumber_53 ?_
              refine lv_aload_n hx hb dX12_takeNumber_56 rfl (lv_at hl 2 rfl) ?_
              refine gM_12_34 hx hb ht hown hK hP m_1173 (v := w223_i_12_34) rfl dX12_takeNumber_57 ?_
              refine lM_12_32 hx hb hK hP (f := (fa 12 32)) rfl (vp_in_iff.mpr ⟨by omega, by omega⟩) dX12_takeNumber_60 ?_
              refine lv_topi (fun v238 ev238 => ?_)
              refine lv_i2l (v := (v238.toInt64)) hx hb dX12_takeNumber_61 rfl ?_
              refine lv_ldc2 hx hb hown (ht _ m_1494) dX12_takeNumber_62 ?_
              refine lv_ldc2 hx hb hown (ht _ m_1495) dX12_takeNumber_65 ?_
              refine vp_callSi (W.runS (As := [.long (v238.toInt64), .long 48, .long 57]) (rest := []) ⟨hx, hb, hml, hown, ht⟩ (c_X12_in l dC dI (v238.toInt64) 48 57 (v238.toInt) (48) (57) ((Int32.toInt_toInt64 v238).trans rfl) (by decide : (48 : Int64).toInt = 48) (by decide : (57 : Int64).toInt = 57)) (kS 3 ht m_1370 m_1371 m_89 m_1372 rfl rfl hd_X12_in_v ⟨Nat.le_of_ble_eq_true rfl, Nat.le_of_ble_eq_true rfl⟩) (sR noP (hK.sub (tys' := []) [] rfl)) rfl rfl hl.1 rfl (lv_room (Nat.le_of_ble_eq_true rfl)) dX12_takeNumber_68 ⟨Nat.le_of_ble_eq_true rfl, Nat.le_of_ble_eq_true rfl⟩) (fun r239 hr239 => ?_)
              rcases hr239 with ⟨rfl, fr239⟩ | ⟨rfl, fr239⟩
              · skip
                refine lv_if_eq (tgt := 120) hx hb dX12_takeNumber_71 (by decide) (fun c240 => ?_) (fun c240 => ?_)
                · exact absurd c240 (by decide)
                · skip
                  refine lv_iload hx hb dX12_takeNumber_74 (lv_at hl 0 rfl) ?_
                  refine lv_sipush (v := 9999) hx hb dX12_takeNumber_76 (by decide) ?_
                  refine lv_icmp_le (tgt := 87) hx hb dX12_takeNumber_79 (by decide) (fun c241 => ?_) (fun c241 => ?_)
                  · have fc241 := z_le (rfl : (x223_4).toInt = _) (by decide : (9999 : Int32).toInt = 9999) c241
                    refine lv_bipush (v := 10) hx hb dX12_takeNumber_87 (by decide) ?_
                    refine lv_iload hx hb dX12_takeNumber_89 (lv_at hl 0 rfl) ?_
                    refine lv_imul hx hb dX12_takeNumber_91 ?_
                    refine lv_topi (fun v242 ev242 => ?_)
                    have tv242 := z_mul ev242 (by decide : (10 : Int32).toInt = 10) (rfl : (x223_4).toInt = _) (by omega) (by omega)
                    refine lv_aload_n hx hb dX12_takeNumber_92 rfl (lv_at hl 2 rfl) ?_
                    refine gM_12_32 hx hb ht hown hK hP m_1171 dX12_takeNumber_93 ?_
                    refine lv_aload_n hx hb dX12_takeNumber_96 rfl (lv_at hl 2 rfl) ?_
                    refine gM_12_34 hx hb ht hown hK hP m_1173 (v := w223_i_12_34) rfl dX12_takeNumber_97 ?_
                    refine lM_12_32 hx hb hK hP (f := (fa 12 32)) rfl (vp_in_iff.mpr ⟨by omega, by omega⟩) dX12_takeNumber_100 ?_
                    refine lv_topi (fun v243 ev243 => ?_)
                    obtain rfl : v238 = v243 := ev238.trans ev243.symm
                    refine lv_iadd hx hb dX12_takeNumber_101 ?_
                    refine lv_topi (fun v244 ev244 => ?_)
                    have tv244 := z_add ev244 (rfl : (v242).toInt = _) (rfl : (v238).toInt = _) (by omega) (by omega)
                    refine lv_bipush (v := 48) hx hb dX12_takeNumber_102 (by decide) ?_
                    refine lv_isub hx hb dX12_takeNumber_104 ?_
                    refine lv_topi (fun v245 ev245 => ?_)
                    have tv245 := z_sub ev245 (rfl : (v244).toInt = _) (by decide : (48 : Int32).toInt = 48) (by omega) (by omega)
                    refine lv_istore (lv' := [(4, .int v245), (3, .int r1), (0, .ref h), (1, .int a), (2, .int b)]) hx hb dX12_takeNumber_105 hl (by decide) rfl (fun ls hl => ?_)
                    refine lv_aload_n hx hb dX12_takeNumber_107 rfl (lv_at hl 2 rfl) ?_
                    refine lv_dup hx hb dX12_takeNumber_108 rfl ?_
                    refine gM_12_34 hx hb ht hown hK hP m_1173 (v := w223_i_12_34) rfl dX12_takeNumber_109 ?_
                    refine lv_iconst (v := 1) hx hb dX12_takeNumber_112 (by decide) ?_
                    refine lv_iadd hx hb dX12_takeNumber_113 ?_
                    refine lv_topi (fun v246 ev246 => ?_)
                    have tv246 := z_add ev246 (rfl : (w223_i_12_34).toInt = _) (by decide : (1 : Int32).toInt = 1) (by omega) (by omega)
                    refine pM_12_34 (v := v246) hx hb ht hown hK hP hD hS m_1173 dX12_takeNumber_114 (fun H locs hP hD hS => ?_)
                    have hP : va_P (dC, dI) classes (WM h g ca (u2 (u2 iv 12 34 v246) 12 37 n2) lv fa la) H := hP
                    have hD : va_D A (WM h g ca (u2 (u2 iv 12 34 v246) 12 37 n2) lv fa la) := hD
                    refine lv_goto (tgt := 41) hx hb dX12_takeNumber_117 (by decide) ?_
                    exact ih224 v245 v246 ⟨by omega, by omega⟩ ⟨by omega, by omega⟩ (show (iv 12 34).toInt ≤ (v246 : Int32).toInt from by omega) (by omega) _ _ ls hP hD hS (lv_sub hl [0, 1, 2, 3, 4] rfl)
                  · have fc241 := z_nle (rfl : (x223_4).toInt = _) (by decide : (9999 : Int32).toInt = 9999) c241
                    refine lv_iload hx hb dX12_takeNumber_82 (lv_at hl 0 rfl) ?_
                    refine lv_goto (tgt := 105) hx hb dX12_takeNumber_84 (by decide) ?_
                    refine lv_istore (lv' := [(4, .int x223_4), (3, .int r1), (0, .ref h), (1, .int a), (2, .int b)]) hx hb dX12_takeNumber_105 hl (by decide) rfl (fun ls hl => ?_)
                    refine lv_aload_n hx hb dX12_takeNumber_107 rfl (lv_at hl 2 rfl) ?_
                    refine lv_dup hx hb dX12_takeNumber_108 rfl ?_
                    refine gM_12_34 hx hb ht hown hK hP m_1173 (v := w223_i_12_34) rfl dX12_takeNumber_109 ?_
                    refine lv_iconst (v := 1) hx hb dX12_takeNumber_112 (by decide) ?_
                    refine lv_iadd hx hb dX12_takeNumber_113 ?_
                    refine lv_topi (fun v247 ev247 => ?_)
                    have tv247 := z_add ev247 (rfl : (w223_i_12_34).toInt = _) (by decide : (1 : Int32).toInt = 1) (by omega) (by omega)
                    refine pM_12_34 (v := v247) hx hb ht hown hK hP hD hS m_1173 dX12_takeNumber_114 (fun H locs hP hD hS => ?_)
                    have hP : va_P (dC, dI) classes (WM h g ca (u2 (u2 iv 12 34 v247) 12 37 n2) lv fa la) H := hP
                    have hD : va_D A (WM h g ca (u2 (u2 iv 12 34 v247) 12 37 n2) lv fa la) := hD
                    refine lv_goto (tgt := 41) hx hb dX12_takeNumber_117 (by decide) ?_
                    exact ih224 x223_4 v247 ⟨by omega, by omega⟩ ⟨by omega, by omega⟩ (show (iv 12 34).toInt ≤ (v247 : Int32).toInt from by omega) (by omega) _ _ ls hP hD hS (lv_sub hl [0, 1, 2, 3, 4] rfl)
              · skip
                refine lv_if_eq (tgt := 120) hx hb dX12_takeNumber_71 (by decide) (fun c248 => ?_) (fun c248 => ?_)
                · skip
                  refine lv_aload_n hx hb dX12_takeNumber_120 rfl (lv_at hl 2 rfl) ?_
                  refine lv_aload_n hx hb dX12_takeNumber_121 rfl (lv_at hl 2 rfl) ?_
                  refine gM_12_34 hx hb ht hown hK hP m_1173 (v := w223_i_12_34) rfl dX12_takeNumber_122 ?_
                  refine lv_aload_n hx hb dX12_takeNumber_125 rfl (lv_at hl 2 rfl) ?_
                  refine gM_12_37 hx hb ht hown hK hP m_1176 (v := n2) rfl dX12_takeNumber_126 ?_
                  refine lv_isub hx hb dX12_takeNumber_129 ?_
                  refine lv_topi (fun v249 ev249 => ?_)
                  have tv249 := z_sub ev249 (rfl : (w223_i_12_34).toInt = _) (rfl : (n2).toInt = _) (by omega) (by omega)
                  refine lv_iconst (v := 5) hx hb dX12_takeNumber_130 (by decide) ?_
                  refine lv_icmp_ge (tgt := 151) hx hb dX12_takeNumber_131 (by decide) (fun c250 => ?_) (fun c250 => ?_)
                  · have fc250 := z_le (by decide : (5 : Int32).toInt = 5) (rfl : (v249).toInt = _) c250
                    refine lv_iconst (v := 0) hx hb dX12_takeNumber_151 (by decide) ?_
                    refine lv_iconst (v := 2) hx hb dX12_takeNumber_152 (by decide) ?_
                    refine lv_aload_n hx hb dX12_takeNumber_153 rfl (lv_at hl 2 rfl) ?_
                    refine gM_12_37 hx hb ht hown hK hP m_1176 (v := n2) rfl dX12_takeNumber_154 ?_
                    have hFc := free_all hD hS hA
                    refine va_calli (va_runV (As := [.int 0, .int 2, .int n2]) (rest := []) ⟨hx, hb, hml, hown, ht⟩ (c_X12_want_0 l dC dI H.size h g ca (u2 (u2 iv 12 34 w223_i_12_34) 12 37 n2) lv fa la (IX_i (c := 12) (k := 37) (IX_i (c := 12) (k := 34) hI (show inb (0, 200) w223_i_12_34 from ⟨by omega, by omega⟩)) (show inb (0, 200) n2 from ⟨by omega, by omega⟩)) 2 n2 ⟨by decide, by decide⟩) (kV 3 ht m_1472 m_1474 m_50 m_89 m_1475 rfl rfl hd_X12_want_v ⟨Nat.le_of_ble_eq_true rfl, Nat.le_of_ble_eq_true rfl⟩) (vW hP hK hD (rM_12 hK hP)) rfl rfl hl.1 rfl (lv_room (Nat.le_of_ble_eq_true rfl)) dX12_takeNumber_157 ⟨Nat.le_of_ble_eq_true rfl, Nat.le_of_ble_eq_true rfl⟩) hS (fun q _ h => hFc q h) hFc (fun r251 u t H1 locs ht9 hvm hr251 hB hz1 hk1 hS => ?_)
                    obtain ⟨n252, n253, hn252, xr251_0, hr251, rfl⟩ := hr251
                    have hn252 : 0 ≤ n252.toInt ∧ n252.toInt ≤ 5 := hn252
                    obtain ⟨hP, hD⟩ := hB
                    rw [ht9] at hP
                    generalize H1 = H at hP hS ⊢
                    have hP : va_P (dC, dI) classes (WM h g ca (u2 (u2 (u2 (u2 iv 12 34 w223_i_12_34) 12 37 n2) 12 35 n252) 12 36 n253) lv fa la) H := hP
                    have hD : va_D A (WM h g ca (u2 (u2 (u2 (u2 iv 12 34 w223_i_12_34) 12 37 n2) 12 35 n252) 12 36 n253) lv fa la) := (show va_D _ (WM h g ca (u2 (u2 (u2 (u2 iv 12 34 w223_i_12_34) 12 37 n2) 12 35 n252) 12 36 n253) lv fa la) from hD).weaken (fun _ _ _ h => hFc _ h)
                    have xr251_0 : 1 ≤ (n252 : Int32).toInt := xr251_0
                    obtain rfl : 0 = r251 := hr251.symm
                    refine lv_istore (lv' := [(5, .int 0), (4, .int x223_4), (3, .int r1), (0, .ref h), (1, .int a), (2, .int b)]) hx hb dX12_takeNumber_160 hl (by decide) rfl (fun ls hl => ?_)
                    refine lv_iload hx hb dX12_takeNumber_162 (lv_at hl 1 rfl) ?_
                    have hP9 : va_P (dC, dI) classes (WM h g ca (u2 (u2 (u2 (u2 iv 12 34 w223_i_12_34) 12 35 n252) 12 36 n253) 12 37 n2) lv fa la) H := hP
                    have hD9 : va_D A (WM h g ca (u2 (u2 (u2 (u2 iv 12 34 w223_i_12_34) 12 35 n252) 12 36 n253) 12 37 n2) lv fa la) := hD
                    exact W.iret (v := x223_4) hx hb hr (fun t ht9 hW => ⟨⟨x223_4, ((u2 (u2 (u2 (u2 iv 12 34 w223_i_12_34) 12 35 n252) 12 36 n253) 12 37 n2), lv, fa, la), rfl, ⟨w223_i_12_34, n252, n253, n2, (show inb (0, 200) w223_i_12_34 from ⟨by omega, by omega⟩), (show inb (0, 5) n252 from ⟨by omega, by omega⟩), (show inb (0, 200) n2 from ⟨by omega, by omega⟩), (show (iv 12 34).toInt ≤ (w223_i_12_34 : Int32).toInt from by omega), (show ((n252 : Int32).toInt ≠ 0 ∨ ((a).toInt ≤ (x223_4 : Int32).toInt ∧ (x223_4 : Int32).toInt ≤ (b).toInt)) from by omega), ⟨by omega, by omega⟩, rfl⟩, by rw [ht9]; exact hP9, hD9⟩, hS.F ht9⟩) hS.2.2 dX12_takeNumber_164
                  · have fc250 := z_nle (by decide : (5 : Int32).toInt = 5) (rfl : (v249).toInt = _) c250
                    refine lv_iload hx hb dX12_takeNumber_134 (lv_at hl 0 rfl) ?_
                    refine lv_i2l (v := (x223_4.toInt64)) hx hb dX12_takeNumber_136 rfl ?_
                    refine lv_iload_n hx hb dX12_takeNumber_137 rfl (lv_at hl 3 rfl) ?_
                    refine lv_i2l (v := (a.toInt64)) hx hb dX12_takeNumber_138 rfl ?_
                    refine lv_iload_n hx hb dX12_takeNumber_139 rfl (lv_at hl 4 rfl) ?_
                    refine lv_i2l (v := (b.toInt64)) hx hb dX12_takeNumber_140 rfl ?_
                    refine vp_callSi (W.runS (As := [.long (x223_4.toInt64), .long (a.toInt64), .long (b.toInt64)]) (rest := [.ref h]) ⟨hx, hb, hml, hown, ht⟩ (c_X12_in l dC dI (x223_4.toInt64) (a.toInt64) (b.toInt64) (x223_4.toInt) (a.toInt) (b.toInt) ((Int32.toInt_toInt64 x223_4).trans rfl) ((Int32.toInt_toInt64 a).trans rfl) ((Int32.toInt_toInt64 b).trans rfl)) (kS 3 ht m_1370 m_1371 m_89 m_1372 rfl rfl hd_X12_in_v ⟨Nat.le_of_ble_eq_true rfl, Nat.le_of_ble_eq_true rfl⟩) (sR noP (hK.sub (tys' := []) [] rfl)) rfl rfl hl.1 rfl (lv_room (Nat.le_of_ble_eq_true rfl)) dX12_takeNumber_141 ⟨Nat.le_of_ble_eq_true rfl, Nat.le_of_ble_eq_true rfl⟩) (fun r254 hr254 => ?_)
                    rcases hr254 with ⟨rfl, fr254⟩ | ⟨rfl, fr254⟩
                    · skip
                      refine lv_if_eq (tgt := 151) hx hb dX12_takeNumber_144 (by decide) (fun c255 => ?_) (fun c255 => ?_)
                      · exact absurd c255 (by decide)
                      · skip
                        refine lv_iconst (v := 1) hx hb dX12_takeNumber_147 (by decide) ?_
                        refine lv_goto (tgt := 152) hx hb dX12_takeNumber_148 (by decide) ?_
                        refine lv_iconst (v := 2) hx hb dX12_takeNumber_152 (by decide) ?_
                        refine lv_aload_n hx hb dX12_takeNumber_153 rfl (lv_at hl 2 rfl) ?_
                        refine gM_12_37 hx hb ht hown hK hP m_1176 (v := n2) rfl dX12_takeNumber_154 ?_
                        refine vp_callSi (W.runV (As := [.int 1, .int 2, .int n2]) (rest := []) ⟨hx, hb, hml, hown, ht⟩ (c_X12_want_1 l dC dI h g ca (u2 (u2 iv 12 34 w223_i_12_34) 12 37 n2) lv fa la (IX_i (c := 12) (k := 37) (IX_i (c := 12) (k := 34) hI (show inb (0, 200) w223_i_12_34 from ⟨by omega, by omega⟩)) (show inb (0, 200) n2 from ⟨by omega, by omega⟩)) 2 n2) (kV 3 ht m_1472 m_1474 m_50 m_89 m_1475 rfl rfl hd_X12_want_v ⟨Nat.le_of_ble_eq_true rfl, Nat.le_of_ble_eq_true rfl⟩) (vR hP hK (rM_12 hK hP)) rfl rfl hl.1 rfl (lv_room (Nat.le_of_ble_eq_true rfl)) dX12_takeNumber_157 ⟨Nat.le_of_ble_eq_true rfl, Nat.le_of_ble_eq_true rfl⟩) (fun r256 hr256 => ?_)
                        rcases hr256 with ⟨rfl, fr256⟩ | ⟨rfl, fr256⟩
                        · skip
                          have fr256 : (((iv 12 35) : Int32).toInt = 0) := fr256
                          refine lv_istore (lv' := [(5, .int 1), (4, .int x223_4), (3, .int r1), (0, .ref h), (1, .int a), (2, .int b)]) hx hb dX12_takeNumber_160 hl (by decide) rfl (fun ls hl => ?_)
                          refine lv_iload hx hb dX12_takeNumber_162 (lv_at hl 1 rfl) ?_
                          have hP9 : va_P (dC, dI) classes (WM h g ca (u2 (u2 (u2 (u2 iv 12 34 w223_i_12_34) 12 35 (iv 12 35)) 12 36 (iv 12 36)) 12 37 n2) lv fa la) H := hP
                          have hD9 : va_D A (WM h g ca (u2 (u2 (u2 (u2 iv 12 34 w223_i_12_34) 12 35 (iv 12 35)) 12 36 (iv 12 36)) 12 37 n2) lv fa la) := hD
                          exact W.iret (v := x223_4) hx hb hr (fun t ht9 hW => ⟨⟨x223_4, ((u2 (u2 (u2 (u2 iv 12 34 w223_i_12_34) 12 35 (iv 12 35)) 12 36 (iv 12 36)) 12 37 n2), lv, fa, la), rfl, ⟨w223_i_12_34, (iv 12 35), (iv 12 36), n2, (show inb (0, 200) w223_i_12_34 from ⟨by omega, by omega⟩), (hI.1 12 35), (show inb (0, 200) n2 from ⟨by omega, by omega⟩), (show (iv 12 34).toInt ≤ (w223_i_12_34 : Int32).toInt from by omega), (show (((iv 12 35) : Int32).toInt ≠ 0 ∨ ((a).toInt ≤ (x223_4 : Int32).toInt ∧ (x223_4 : Int32).toInt ≤ (b).toInt)) from by omega), ⟨by omega, by omega⟩, rfl⟩, by rw [ht9]; exact hP9, hD9⟩, hS.F ht9⟩) hS.2.2 dX12_takeNumber_164
                        · skip
                          have fr256 : ¬ (((iv 12 35) : Int32).toInt = 0) := fr256
                          exfalso; omega
                    · skip
                      refine lv_if_eq (tgt := 151) hx hb dX12_takeNumber_144 (by decide) (fun c257 => ?_) (fun c257 => ?_)
                      · skip
                        refine lv_iconst (v := 0) hx hb dX12_takeNumber_151 (by decide) ?_
                        refine lv_iconst (v := 2) hx hb dX12_takeNumber_152 (by decide) ?_
                        refine lv_aload_n hx hb dX12_takeNumber_153 rfl (lv_at hl 2 rfl) ?_
                        refine gM_12_37 hx hb ht hown hK hP m_1176 (v := n2) rfl dX12_takeNumber_154 ?_
                        have hFc := free_all hD hS hA
                        refine va_calli (va_runV (As := [.int 0, .int 2, .int n2]) (rest := []) ⟨hx, hb, hml, hown, ht⟩ (c_X12_want_0 l dC dI H.size h g ca (u2 (u2 iv 12 34 w223_i_12_34) 12 37 n2) lv fa la (IX_i (c := 12) (k := 37) (IX_i (c := 12) (k := 34) hI (show inb (0, 200) w223_i_12_34 from ⟨by omega, by omega⟩)) (show inb (0, 200) n2 from ⟨by omega, by omega⟩)) 2 n2 ⟨by decide, by decide⟩) (kV 3 ht m_1472 m_1474 m_50 m_89 m_1475 rfl rfl hd_X12_want_v ⟨Nat.le_of_ble_eq_true rfl, Nat.le_of_ble_eq_true rfl⟩) (vW hP hK hD (rM_12 hK hP)) rfl rfl hl.1 rfl (lv_room (Nat.le_of_ble_eq_true rfl)) dX12_takeNumber_157 ⟨Nat.le_of_ble_eq_true rfl, Nat.le_of_ble_eq_true rfl⟩) hS (fun q _ h => hFc q h) hFc (fun r258 u t H1 locs ht9 hvm hr258 hB hz1 hk1 hS => ?_)
                        obtain ⟨n259, n260, hn259, xr258_0, hr258, rfl⟩ := hr258
                        have hn259 : 0 ≤ n259.toInt ∧ n259.toInt ≤ 5 := hn259
                        obtain ⟨hP, hD⟩ := hB
                        rw [ht9] at hP
                        generalize H1 = H at hP hS ⊢
                        have hP : va_P (dC, dI) classes (WM h g ca (u2 (u2 (u2 (u2 iv 12 34 w223_i_12_34) 12 37 n2) 12 35 n259) 12 36 n260) lv fa la) H := hP
                        have hD : va_D A (WM h g ca (u2 (u2 (u2 (u2 iv 12 34 w223_i_12_34) 12 37 n2) 12 35 n259) 12 36 n260) lv fa la) := (show va_D _ (WM h g ca (u2 (u2 (u2 (u2 iv 12 34 w223_i_12_34) 12 37 n2) 12 35 n259) 12 36 n260) lv fa la) from hD).weaken (fun _ _ _ h => hFc _ h)
                        have xr258_0 : 1 ≤ (n259 : Int32).toInt := xr258_0
                        obtain rfl : 0 = r258 := hr258.symm
                        refine lv_istore (lv' := [(5, .int 0), (4, .int x223_4), (3, .int r1), (0, .ref h), (1, .int a), (2, .int b)]) hx hb dX12_takeNumber_160 hl (by decide) rfl (fun ls hl => ?_)
                        refine lv_iload hx hb dX12_takeNumber_162 (lv_at hl 1 rfl) ?_
                        have hP9 : va_P (dC, dI) classes (WM h g ca (u2 (u2 (u2 (u2 iv 12 34 w223_i_12_34) 12 35 n259) 12 36 n260) 12 37 n2) lv fa la) H := hP
                        have hD9 : va_D A (WM h g ca (u2 (u2 (u2 (u2 iv 12 34 w223_i_12_34) 12 35 n259) 12 36 n260) 12 37 n2) lv fa la) := hD
                        exact W.iret (v := x223_4) hx hb hr (fun t ht9 hW => ⟨⟨x223_4, ((u2 (u2 (u2 (u2 iv 12 34 w223_i_12_34) 12 35 n259) 12 36 n260) 12 37 n2), lv, fa, la), rfl, ⟨w223_i_12_34, n259, n260, n2, (show inb (0, 200) w223_i_12_34 from ⟨by omega, by omega⟩), (show inb (0, 5) n259 from ⟨by omega, by omega⟩), (show inb (0, 200) n2 from ⟨by omega, by omega⟩), (show (iv 12 34).toInt ≤ (w223_i_12_34 : Int32).toInt from by omega), (show ((n259 : Int32).toInt ≠ 0 ∨ ((a).toInt ≤ (x223_4 : Int32).toInt ∧ (x223_4 : Int32).toInt ≤ (b).toInt)) from by omega), ⟨by omega, by omega⟩, rfl⟩, by rw [ht9]; exact hP9, hD9⟩, hS.F ht9⟩) hS.2.2 dX12_takeNumber_164
                      · exact absurd rfl c257
                · exact absurd rfl c248
        have : (0 : Int32).toInt = 0 := (by decide)
        exact lp224 201 0 n2 ⟨by decide, by decide⟩ ⟨by omega, by omega⟩ (show (iv 12 34).toInt ≤ (n2 : Int32).toInt from by omega) (by first | decide | omega) _ _ ls hP hD hS (lv_sub hl [0, 1, 2, 3, 4] rfl)
      · exact absurd c5 (by decide)
    · skip
      have fr4 : ¬ (((iv 12 35) : Int32).toInt = 0) := fr4
      refine lv_if_ne (tgt := 38) hx hb dX12_takeNumber_33 (by decide) (fun c261 => ?_) (fun c261 => ?_)
      · exact absurd rfl c261
      · skip
        refine lv_iconst (v := 0) hx hb dX12_takeNumber_36 (by decide) ?_
        have : (0 : Int32).toInt = 0 := (by decide)
        have hP9 : va_P (dC, dI) classes (WM h g ca (u2 (u2 (u2 (u2 iv 12 34 n2) 12 35 (iv 12 35)) 12 36 (iv 12 36)) 12 37 n2) lv fa la) H := hP
        have hD9 : va_D A (WM h g ca (u2 (u2 (u2 (u2 iv 12 34 n2) 12 35 (iv 12 35)) 12 36 (iv 12 36)) 12 37 n2) lv fa la) := hD
        exact W.iret (v := 0) hx hb hr (fun t ht9 hW => ⟨⟨0, ((u2 (u2 (u2 (u2 iv 12 34 n2) 12 35 (iv 12 35)) 12 36 (iv 12 36)) 12 37 n2), lv, fa, la), rfl, ⟨n2, (iv 12 35), (iv 12 36), n2, (show inb (0, 200) n2 from ⟨by omega, by omega⟩), (hI.1 12 35), (show inb (0, 200) n2 from ⟨by omega, by omega⟩), (show (iv 12 34).toInt ≤ (n2 : Int32).toInt from by omega), (show (((iv 12 35) : Int32).toInt ≠ 0 ∨ ((a).toInt ≤ (0 : Int32).toInt ∧ (0 : Int32).toInt ≤ (b).toInt)) from by omega), ⟨by decide, by decide⟩, rfl⟩, by rw [ht9]; exact hP9, hD9⟩, hS.F ht9⟩) hS.2.2 dX12_takeNumber_37
  · skip
    refine lv_iconst (v := 1) hx hb dX12_takeNumber_25 (by decide) ?_
    refine lv_aload_n hx hb dX12_takeNumber_26 rfl (lv_at hl 1 rfl) ?_
    refine gM_12_34 hx hb ht hown hK hP m_1173 (v := n2) rfl dX12_takeNumber_27 ?_
    have hFc := free_all hD hS hA
    refine va_calli (va_runV (As := [.int 0, .int 1, .int n2]) (rest := []) ⟨hx, hb, hml, hown, ht⟩ (c_X12_want_0 l dC dI H.size h g ca (u2 (u2 iv 12 34 n2) 12 37 n2) lv fa la (IX_i (c := 12) (k := 37) (IX_i (c := 12) (k := 34) hI (show inb (0, 200) n2 from ⟨by omega, by omega⟩)) (show inb (0, 200) n2 from ⟨by omega, by omega⟩)) 1 n2 ⟨by decide, by decide⟩) (kV 3 ht m_1472 m_1474 m_50 m_89 m_1475 rfl rfl hd_X12_want_v ⟨Nat.le_of_ble_eq_true rfl, Nat.le_of_ble_eq_true rfl⟩) (vW hP hK hD (rM_12 hK hP)) rfl rfl hl.1 rfl (lv_room (Nat.le_of_ble_eq_true rfl)) dX12_takeNumber_30 ⟨Nat.le_of_ble_eq_true rfl, Nat.le_of_ble_eq_true rfl⟩) hS (fun q _ h => hFc q h) hFc (fun r262 u t H1 locs ht9 hvm hr262 hB hz1 hk1 hS => ?_)
    obtain ⟨n263, n264, hn263, xr262_0, hr262, rfl⟩ := hr262
    have hn263 : 0 ≤ n263.toInt ∧ n263.toInt ≤ 5 := hn263
    obtain ⟨hP, hD⟩ := hB
    rw [ht9] at hP
    generalize H1 = H at hP hS ⊢
    have hP : va_P (dC, dI) classes (WM h g ca (u2 (u2 (u2 (u2 iv 12 34 n2) 12 37 n2) 12 35 n263) 12 36 n264) lv fa la) H := hP
    have hD : va_D A (WM h g ca (u2 (u2 (u2 (u2 iv 12 34 n2) 12 37 n2) 12 35 n263) 12 36 n264) lv fa la) := (show va_D _ (WM h g ca (u2 (u2 (u2 (u2 iv 12 34 n2) 12 37 n2) 12 35 n263) 12 36 n264) lv fa la) from hD).weaken (fun _ _ _ h => hFc _ h)
    have xr262_0 : 1 ≤ (n263 : Int32).toInt := xr262_0
    obtain rfl : 0 = r262 := hr262.symm
    refine lv_if_ne (tgt := 38) hx hb dX12_takeNumber_33 (by decide) (fun c265 => ?_) (fun c265 => ?_)
    · exact absurd rfl c265
    · skip
      refine lv_iconst (v := 0) hx hb dX12_takeNumber_36 (by decide) ?_
      have : (0 : Int32).toInt = 0 := (by decide)
      have hP9 : va_P (dC, dI) classes (WM h g ca (u2 (u2 (u2 (u2 iv 12 34 n2) 12 35 n263) 12 36 n264) 12 37 n2) lv fa la) H := hP
      have hD9 : va_D A (WM h g ca (u2 (u2 (u2 (u2 iv 12 34 n2) 12 35 n263) 12 36 n264) 12 37 n2) lv fa la) := hD
      exact W.iret (v := 0) hx hb hr (fun t ht9 hW => ⟨⟨0, ((u2 (u2 (u2 (u2 iv 12 34 n2) 12 35 n263) 12 36 n264) 12 37 n2), lv, fa, la), rfl, ⟨n2, n263, n264, n2, (show inb (0, 200) n2 from ⟨by omega, by omega⟩), (show inb (0, 5) n263 from ⟨by omega, by omega⟩), (show inb (0, 200) n2 from ⟨by omega, by omega⟩), (show (iv 12 34).toInt ≤ (n2 : Int32).toInt from by omega), (show ((n263 : Int32).toInt ≠ 0 ∨ ((a).toInt ≤ (0 : Int32).toInt ∧ (0 : Int32).toInt ≤ (b).toInt)) from by omega), ⟨by decide, by decide⟩, rfl⟩, by rw [ht9]; exact hP9, hD9⟩, hS.F ht9⟩) hS.2.2 dX12_takeNumber_37
set_option maxHeartbeats 4000000 in
set_option maxRecDepth 100000 in
/-- X12_letOf -/
theorem c_X12_letOf (l : Launch) (dC : Nat → ClassId) (dI : Nat → Nat → Nat) (h : Nat) (g : Nat → Nat → Nat) (ca : Nat → Nat → ClassId) (iv : Nat → Nat → Int32) (lv : Nat → Nat → Int64) (fa : Nat → Nat → Nat → Int32) (la : Nat → Nat → Nat → Int64) (hI : IX iv fa) (p_0 : (iv 12 37).toInt + (iv 12 38).toInt ≤ 200) : Met l yX12_letOf (wc yX12_letOf cX12_letOf 1 (some .int)) ({ frames := 1, cells := 0, slots := 0, locals := 29 } : Room) (pR (dC, dI) classes (WM h g ca iv lv fa la) (TM ca) [.ref h]) (vp_Si (fun r => (-1) ≤ r.toInt ∧ r.toInt ≤ 4)) 0 0 (fun _ => False) := by
  refine Met.ofW (cc := cX12_letOf) (maxL := 1) (ret := (some .int)) (by decide) rfl ?_
  intro p e s m args below meth c s₁ B hml hv
  obtain ⟨rfl, hP, hK⟩ := hv
  have hx := B.exec
  have hb := B.bytes
  have hr := B.returns
  have ht := tb_tl (atoms_spec (ws := wc yX12_letOf cX12_letOf 1 (some .int)) B.pre)
  have hown : s.vm.findClass RX12 = some m.cls := findClass_of_methodNamed B.named
  have hlocks := B.notSynchronized
  have hl := lv_entry [.ref h] (n := 1) (Nat.le_of_ble_eq_true rfl)
  rw [lg_entry_eq]
  generalize (lg_sl [.ref h] ++ List.replicate (1 - (lg_sl [.ref h]).length) Slot.unset).toArray = ls at hl ⊢
  have hl : lv_has ls 1 [(0, .ref h)] := hl
  refine lv_aload_n hx hb dX12_letOf_0 rfl (lv_at hl 0 rfl) ?_
  refine lv_iconst (v := 5) hx hb dX12_letOf_1 (by decide) ?_
  refine lv_bipush (v := 119) hx hb dX12_letOf_2 (by decide) ?_
  refine lv_bipush (v := 97) hx hb dX12_letOf_4 (by decide) ?_
  refine lv_bipush (v := 116) hx hb dX12_letOf_6 (by decide) ?_
  refine lv_bipush (v := 101) hx hb dX12_letOf_8 (by decide) ?_
  refine lv_bipush (v := 114) hx hb dX12_letOf_10 (by decide) ?_
  refine lv_iconst (v := 0) hx hb dX12_letOf_12 (by decide) ?_
  have i_12_37 : 0 ≤ (iv 12 37).toInt ∧ (iv 12 37).toInt ≤ 200 := hI.1 12 37
  have i_12_38 : 0 ≤ (iv 12 38).toInt ∧ (iv 12 38).toInt ≤ 200 := hI.1 12 38
  refine vp_callSi (W.runV (As := [.int 5, .int 119, .int 97, .int 116, .int 101, .int 114, .int 0]) (rest := []) ⟨hx, hb, hml, hown, ht⟩ (c_X12_isWord l dC dI h g ca iv lv fa la hI 5 119 97 116 101 114 0 ⟨by decide, by decide⟩ (show ((iv 12 37) : Int32).toInt + ((iv 12 38) : Int32).toInt ≤ 200 from by omega)) (kV 7 ht m_1468 m_1470 m_49 m_89 m_1471 rfl rfl hd_X12_isWord_v ⟨Nat.le_of_ble_eq_true rfl, Nat.le_of_ble_eq_true rfl⟩) (vR hP hK (rM_12 hK hP)) rfl rfl hl.1 rfl (lv_room (Nat.le_of_ble_eq_true rfl)) dX12_letOf_13 ⟨Nat.le_of_ble_eq_true rfl, Nat.le_of_ble_eq_true rfl⟩) (fun r1 hr1 => ?_)
  obtain ⟨hr1, xr1_0⟩ := hr1
  have : (5 : Int32).toInt = 5 := (by decide)
  have xr1_0 : ((r1 : Int32).toInt = 0 ∨ ((iv 12 38) : Int32).toInt = (5 : Int32).toInt) := xr1_0
  refine lv_if_eq (tgt := 21) hx hb dX12_letOf_16 (by decide) (fun c2 => ?_) (fun c2 => ?_)
  · have fc2 := z_eq (rfl : (r1).toInt = _) (by decide : (0 : Int32).toInt = 0) c2
    refine lv_aload_n hx hb dX12_letOf_21 rfl (lv_at hl 0 rfl) ?_
    refine lv_bipush (v := 6) hx hb dX12_letOf_22 (by decide) ?_
    refine lv_bipush (v := 115) hx hb dX12_letOf_24 (by decide) ?_
    refine lv_bipush (v := 107) hx hb dX12_letOf_26 (by decide) ?_
    refine lv_bipush (v := 101) hx hb dX12_letOf_28 (by decide) ?_
    refine lv_bipush (v := 105) hx hb dX12_letOf_30 (by decide) ?_
    refine lv_bipush (v := 110) hx hb dX12_letOf_32 (by decide) ?_
    refine lv_bipush (v := 115) hx hb dX12_letOf_34 (by decide) ?_
    refine vp_callSi (W.runV (As := [.int 6, .int 115, .int 107, .int 101, .int 105, .int 110, .int 115]) (rest := []) ⟨hx, hb, hml, hown, ht⟩ (c_X12_isWord l dC dI h g ca iv lv fa la hI 6 115 107 101 105 110 115 ⟨by decide, by decide⟩ (show ((iv 12 37) : Int32).toInt + ((iv 12 38) : Int32).toInt ≤ 200 from by omega)) (kV 7 ht m_1468 m_1470 m_49 m_89 m_1471 rfl rfl hd_X12_isWord_v ⟨Nat.le_of_ble_eq_true rfl, Nat.le_of_ble_eq_true rfl⟩) (vR hP hK (rM_12 hK hP)) rfl rfl hl.1 rfl (lv_room (Nat.le_of_ble_eq_true rfl)) dX12_letOf_36 ⟨Nat.le_of_ble_eq_true rfl, Nat.le_of_ble_eq_true rfl⟩) (fun r3 hr3 => ?_)
    obtain ⟨hr3, xr3_0⟩ := hr3
    have : (6 : Int32).toInt = 6 := (by decide)
    have xr3_0 : ((r3 : Int32).toInt = 0 ∨ ((iv 12 38) : Int32).toInt = (6 : Int32).toInt) := xr3_0
    refine lv_if_eq (tgt := 44) hx hb dX12_letOf_39 (by decide) (fun c4 => ?_) (fun c4 => ?_)
    · have fc4 := z_eq (rfl : (r3).toInt = _) (by decide : (0 : Int32).toInt = 0) c4
      refine lv_aload_n hx hb dX12_letOf_44 rfl (lv_at hl 0 rfl) ?_
      refine lv_iconst (v := 4) hx hb dX12_letOf_45 (by decide) ?_
      refine lv_bipush (v := 112) hx hb dX12_letOf_46 (by decide) ?_
      refine lv_bipush (v := 97) hx hb dX12_letOf_48 (by decide) ?_
      refine lv_bipush (v := 114) hx hb dX12_letOf_50 (by decide) ?_
      refine lv_bipush (v := 116) hx hb dX12_letOf_52 (by decide) ?_
      refine lv_iconst (v := 0) hx hb dX12_letOf_54 (by decide) ?_
      refine lv_iconst (v := 0) hx hb dX12_letOf_55 (by decide) ?_
      refine vp_callSi (W.runV (As := [.int 4, .int 112, .int 97, .int 114, .int 116, .int 0, .int 0]) (rest := []) ⟨hx, hb, hml, hown, ht⟩ (c_X12_isWord l dC dI h g ca iv lv fa la hI 4 112 97 114 116 0 0 ⟨by decide, by decide⟩ (show ((iv 12 37) : Int32).toInt + ((iv 12 38) : Int32).toInt ≤ 200 from by omega)) (kV 7 ht m_1468 m_1470 m_49 m_89 m_1471 rfl rfl hd_X12_isWord_v ⟨Nat.le_of_ble_eq_true rfl, Nat.le_of_ble_eq_true rfl⟩) (vR hP hK (rM_12 hK hP)) rfl rfl hl.1 rfl (lv_room (Nat.le_of_ble_eq_true rfl)) dX12_letOf_56 ⟨Nat.le_of_ble_eq_true rfl, Nat.le_of_ble_eq_true rfl⟩) (fun r5 hr5 => ?_)
      obtain ⟨hr5, xr5_0⟩ := hr5
      have : (4 : Int32).toInt = 4 := (by decide)
      have xr5_0 : ((r5 : Int32).toInt = 0 ∨ ((iv 12 38) : Int32).toInt = (4 : Int32).toInt) := xr5_0
      refine lv_if_eq (tgt := 64) hx hb dX12_letOf_59 (by decide) (fun c6 => ?_) (fun c6 => ?_)
      · have fc6 := z_eq (rfl : (r5).toInt = _) (by decide : (0 : Int32).toInt = 0) c6
        refine lv_aload_n hx hb dX12_letOf_64 rfl (lv_at hl 0 rfl) ?_
        refine lv_iconst (v := 5) hx hb dX12_letOf_65 (by decide) ?_
        refine lv_bipush (v := 108) hx hb dX12_letOf_66 (by decide) ?_
        refine lv_bipush (v := 111) hx hb dX12_letOf_68 (by decide) ?_
        refine lv_bipush (v := 111) hx hb dX12_letOf_70 (by decide) ?_
        refine lv_bipush (v := 107) hx hb dX12_letOf_72 (by decide) ?_
        refine lv_bipush (v := 115) hx hb dX12_letOf_74 (by decide) ?_
        refine lv_iconst (v := 0) hx hb dX12_letOf_76 (by decide) ?_
        refine vp_callSi (W.runV (As := [.int 5, .int 108, .int 111, .int 111, .int 107, .int 115, .int 0]) (rest := []) ⟨hx, hb, hml, hown, ht⟩ (c_X12_isWord l dC dI h g ca iv lv fa la hI 5 108 111 111 107 115 0 ⟨by decide, by decide⟩ (show ((iv 12 37) : Int32).toInt + ((iv 12 38) : Int32).toInt ≤ 200 from by omega)) (kV 7 ht m_1468 m_1470 m_49 m_89 m_1471 rfl rfl hd_X12_isWord_v ⟨Nat.le_of_ble_eq_true rfl, Nat.le_of_ble_eq_true rfl⟩) (vR hP hK (rM_12 hK hP)) rfl rfl hl.1 rfl (lv_room (Nat.le_of_ble_eq_true rfl)) dX12_letOf_77 ⟨Nat.le_of_ble_eq_true rfl, Nat.le_of_ble_eq_true rfl⟩) (fun r7 hr7 => ?_)
        obtain ⟨hr7, xr7_0⟩ := hr7
        have xr7_0 : ((r7 : Int32).toInt = 0 ∨ ((iv 12 38) : Int32).toInt = (5 : Int32).toInt) := xr7_0
        refine lv_if_eq (tgt := 85) hx hb dX12_letOf_80 (by decide) (fun c8 => ?_) (fun c8 => ?_)
        · have fc8 := z_eq (rfl : (r7).toInt = _) (by decide : (0 : Int32).toInt = 0) c8
          refine lv_aload_n hx hb dX12_letOf_85 rfl (lv_at hl 0 rfl) ?_
          refine lv_iconst (v := 3) hx hb dX12_letOf_86 (by decide) ?_
          refine lv_bipush (v := 102) hx hb dX12_letOf_87 (by decide) ?_
          refine lv_bipush (v := 101) hx hb dX12_letOf_89 (by decide) ?_
          refine lv_bipush (v := 101) hx hb dX12_letOf_91 (by decide) ?_
          refine lv_iconst (v := 0) hx hb dX12_letOf_93 (by decide) ?_
          refine lv_iconst (v := 0) hx hb dX12_letOf_94 (by decide) ?_
          refine lv_iconst (v := 0) hx hb dX12_letOf_95 (by decide) ?_
          refine vp_callSi (W.runV (As := [.int 3, .int 102, .int 101, .int 101, .int 0, .int 0, .int 0]) (rest := []) ⟨hx, hb, hml, hown, ht⟩ (c_X12_isWord l dC dI h g ca iv lv fa la hI 3 102 101 101 0 0 0 ⟨by decide, by decide⟩ (show ((iv 12 37) : Int32).toInt + ((iv 12 38) : Int32).toInt ≤ 200 from by omega)) (kV 7 ht m_1468 m_1470 m_49 m_89 m_1471 rfl rfl hd_X12_isWord_v ⟨Nat.le_of_ble_eq_true rfl, Nat.le_of_ble_eq_true rfl⟩) (vR hP hK (rM_12 hK hP)) rfl rfl hl.1 rfl (lv_room (Nat.le_of_ble_eq_true rfl)) dX12_letOf_96 ⟨Nat.le_of_ble_eq_true rfl, Nat.le_of_ble_eq_true rfl⟩) (fun r9 hr9 => ?_)
          obtain ⟨hr9, xr9_0⟩ := hr9
          have : (3 : Int32).toInt = 3 := (by decide)
          have xr9_0 : ((r9 : Int32).toInt = 0 ∨ ((iv 12 38) : Int32).toInt = (3 : Int32).toInt) := xr9_0
          refine lv_if_eq (tgt := 106) hx hb dX12_letOf_99 (by decide) (fun c10 => ?_) (fun c10 => ?_)
          · have fc10 := z_eq (rfl : (r9).toInt = _) (by decide : (0 : Int32).toInt = 0) c10
            refine lv_iconst (v := (-1)) hx hb dX12_letOf_106 (by decide) ?_
            exact W.iret (v := (-1)) hx hb hr (fun t ht9 hW => ⟨(-1), rfl, ⟨by decide, by decide⟩, ht9⟩) (fun q hq => by cases hq) dX12_letOf_107
          · have fc10 := z_ne (rfl : (r9).toInt = _) (by decide : (0 : Int32).toInt = 0) c10
            refine lv_iconst (v := 4) hx hb dX12_letOf_102 (by decide) ?_
            refine lv_goto (tgt := 107) hx hb dX12_letOf_103 (by decide) ?_
            exact W.iret (v := 4) hx hb hr (fun t ht9 hW => ⟨4, rfl, ⟨by decide, by decide⟩, ht9⟩) (fun q hq => by cases hq) dX12_letOf_107
        · have fc8 := z_ne (rfl : (r7).toInt = _) (by decide : (0 : Int32).toInt = 0) c8
          refine lv_iconst (v := 3) hx hb dX12_letOf_83 (by decide) ?_
          exact W.iret (v := 3) hx hb hr (fun t ht9 hW => ⟨3, rfl, ⟨by decide, by decide⟩, ht9⟩) (fun q hq => by cases hq) dX12_letOf_84
      · have fc6 := z_ne (rfl : (r5).toInt = _) (by decide : (0 : Int32).toInt = 0) c6
        refine lv_iconst (v := 2) hx hb dX12_letOf_62 (by decide) ?_
        exact W.iret (v := 2) hx hb hr (fun t ht9 hW => ⟨2, rfl, ⟨by decide, by decide⟩, ht9⟩) (fun q hq => by cases hq) dX12_letOf_63
    · have fc4 := z_ne (rfl : (r3).toInt = _) (by decide : (0 : Int32).toInt = 0) c4
      refine lv_iconst (v := 1) hx hb dX12_letOf_42 (by decide) ?_
      exact W.iret (v := 1) hx hb hr (fun t ht9 hW => ⟨1, rfl, ⟨by decide, by decide⟩, ht9⟩) (fun q hq => by cases hq) dX12_letOf_43
  · have fc2 := z_ne (rfl : (r1).toInt = _) (by decide : (0 : Int32).toInt = 0) c2
    refine lv_iconst (v := 0) hx hb dX12_letOf_19 (by decide) ?_
    exact W.iret (v := 0) hx hb hr (fun t ht9 hW => ⟨0, rfl, ⟨by decide, by decide⟩, ht9⟩) (fun q hq => by cases hq) dX12_letOf_20
set_option maxHeartbeats 4000000 in
set_option maxRecDepth 100000 in
/-- X12_feed -/
theorem c_X12_feed (l : Launch) (dC : Nat → ClassId) (dI : Nat → Nat → Nat) (sz : Nat) (h : Nat) (g : Nat → Nat → Nat) (ca : Nat → Nat → ClassId) (iv : Nat → Nat → Int32) (lv : Nat → Nat → Int64) (fa : Nat → Nat → Nat → Int32) (la : Nat → Nat → Nat → Int64) (hI : IX iv fa) (n : Int32) (k : Int64) : Met l yX12_feed (wc yX12_feed cX12_feed 5 (some .int)) ({ frames := 1, cells := 0, slots := 0, locals := 25 } : Room) (pW (dC, dI) classes (WM h g ca iv lv fa la) (TM ca) sz [.ref h, .int n, .long k]) (va_Qi (fun r (u : SS) => ∃ (na_12_32 : Nat → Int32) (ni_12_33 : Int32), inb (bI 12 33) ni_12_33 ∧ ((-100004) ≤ r.toInt ∧ r.toInt ≤ 200) ∧ u = ((u2 iv 12 33 ni_12_33), lv, (u2 fa 12 32 na_12_32), la)) (bM (dC, dI) h g ca (va_A (WM h g ca iv lv fa la) sz)) (va_A (WM h g ca iv lv fa la) sz)) 0 0 (va_A (WM h g ca iv lv fa la) sz) := by
  refine Met.ofW (cc := cX12_feed) (maxL := 5) (ret := (some .int)) (by decide) rfl ?_
  intro p e s m args below meth c s₁ B hml hv
  obtain ⟨rfl, hsz, hP, hK, hD0⟩ := hv
  have hx := B.exec
  have hb := B.bytes
  have hr := B.returns
  have ht := tb_tl (atoms_spec (ws := wc yX12_feed cX12_feed 5 (some .int)) B.pre)
  have hown : s.vm.findClass RX12 = some m.cls := findClass_of_methodNamed B.named
  have hlocks := B.notSynchronized
  subst hsz
  have hD := hD0.self (sz := s.heap.size)
  generalize hAe : va_A (WM h g ca iv lv fa la) s.heap.size = A at hD ⊢
  have hA : ∀ q : Nat, s.heap.size ≤ q → A q := fun q h => by rw [← hAe]; exact Or.inr h
  have hS : va_S A s.heap s.heap [] := va_S.rf
  have hl := lv_entry [.ref h, .int n, .long k] (n := 5) (Nat.le_of_ble_eq_true rfl)
  rw [lg_entry_eq]
  generalize (lg_sl [.ref h, .int n, .long k] ++ List.replicate (5 - (lg_sl [.ref h, .int n, .long k]).length) Slot.unset).toArray = ls at hl ⊢
  have hl : lv_has ls 5 [(0, .ref h), (1, .int n), (2, .long k)] := hl
  refine lv_iload_n hx hb dX12_feed_0 rfl (lv_at hl 1 rfl) ?_
  refine lv_i2l (v := (n.toInt64)) hx hb dX12_feed_1 rfl ?_
  refine lv_lconst (v := 1) hx hb dX12_feed_2 (by decide) ?_
  refine lv_ldc2 hx hb hown (ht _ m_1452) dX12_feed_3 ?_
  refine vp_callSi (W.runS (As := [.long (n.toInt64), .long 1, .long 8]) (rest := []) ⟨hx, hb, hml, hown, ht⟩ (c_X12_in l dC dI (n.toInt64) 1 8 (n.toInt) (1) (8) ((Int32.toInt_toInt64 n).trans rfl) (by decide : (1 : Int64).toInt = 1) (by decide : (8 : Int64).toInt = 8)) (kS 3 ht m_1370 m_1371 m_89 m_1372 rfl rfl hd_X12_in_v ⟨Nat.le_of_ble_eq_true rfl, Nat.le_of_ble_eq_true rfl⟩) (sR noP (hK.sub (tys' := []) [] rfl)) rfl rfl hl.1 rfl (lv_room (Nat.le_of_ble_eq_true rfl)) dX12_feed_6 ⟨Nat.le_of_ble_eq_true rfl, Nat.le_of_ble_eq_true rfl⟩) (fun r1 hr1 => ?_)
  rcases hr1 with ⟨rfl, fr1⟩ | ⟨rfl, fr1⟩
  · skip
    refine lv_if_ne (tgt := 15) hx hb dX12_feed_9 (by decide) (fun c2 => ?_) (fun c2 => ?_)
    · skip
      refine lv_aload_n hx hb dX12_feed_15 rfl (lv_at hl 0 rfl) ?_
      have i_12_33 : 0 ≤ (iv 12 33).toInt ∧ (iv 12 33).toInt ≤ 200 := hI.1 12 33
      refine gM_12_33 hx hb ht hown hK hP m_1172 (v := (iv 12 33)) rfl dX12_feed_16 ?_
      refine lv_iload_n hx hb dX12_feed_19 rfl (lv_at hl 1 rfl) ?_
      refine lv_iadd hx hb dX12_feed_20 ?_
      refine lv_topi (fun v3 ev3 => ?_)
      have tv3 := z_add ev3 (rfl : ((iv 12 33)).toInt = _) (rfl : (n).toInt = _) (by omega) (by omega)
      refine lv_sipush (v := 200) hx hb dX12_feed_21 (by decide) ?_
      refine lv_icmp_le (tgt := 30) hx hb dX12_feed_24 (by decide) (fun c4 => ?_) (fun c4 => ?_)
      · have fc4 := z_le (rfl : (v3).toInt = _) (by decide : (200 : Int32).toInt = 200) c4
        refine lv_iload_n hx hb dX12_feed_30 rfl (lv_at hl 1 rfl) ?_
        refine lv_iconst (v := 1) hx hb dX12_feed_31 (by decide) ?_
        refine lv_isub hx hb dX12_feed_32 ?_
        refine lv_topi (fun v5 ev5 => ?_)
        have tv5 := z_sub ev5 (rfl : (n).toInt = _) (by decide : (1 : Int32).toInt = 1) (by omega) (by omega)
        refine lv_istore (lv' := [(4, .int v5), (0, .ref h), (1, .int n), (2, .long k)]) hx hb dX12_feed_33 hl (by decide) rfl (fun ls hl => ?_)
        have lp25 : ∀ (nn25 : Nat) (x24_4 : Int32) (w24_i_12_33 : Int32) (w24_a_12_32 : Nat → Int32), (-1) ≤ x24_4.toInt ∧ x24_4.toInt ≤ 7 → 0 ≤ w24_i_12_33.toInt ∧ w24_i_12_33.toInt ≤ 200 → (∀ j, inb (bA 12 32 j) (w24_a_12_32 j)) → (w24_i_12_33 : Int32).toInt + (x24_4 : Int32).toInt ≤ 199 → x24_4.toInt - (-1) < (nn25 : Int) → ∀ (H : Heap) (locs : List Loc), ∀ (ls : Array Slot), va_P (dC, dI) classes (WM h g ca (u2 iv 12 33 w24_i_12_33) lv (u2 fa 12 32 w24_a_12_32) la) H → va_D A (WM h g ca (u2 iv 12 33 w24_i_12_33) lv (u2 fa 12 32 w24_a_12_32) la) → va_S A s.heap H locs → lv_has ls 5 [(4, .int x24_4), (0, .ref h), (1, .int n), (2, .long k)] → W p l e ({ frames := 1, cells := 0, slots := 0, locals := 25 } : Room) s m ([.ref h, .int n, .long k] : List Value).toArray below meth c H locs 0 0 (MQ below (va_Qi (fun r (u : SS) => ∃ (na_12_32 : Nat → Int32) (ni_12_33 : Int32), inb (bI 12 33) ni_12_33 ∧ ((-100004) ≤ r.toInt ∧ r.toInt ≤ 200) ∧ u = ((u2 iv 12 33 ni_12_33), lv, (u2 fa 12 32 na_12_32), la)) (bM (dC, dI) h g ca A) A) ([.ref h, .int n, .long k] : List Value).toArray s 0 0 A) (F0 m 35 ls []) := by
          intro nn25
          induction nn25 with
          | zero => intro x24_4 w24_i_12_33 w24_a_12_32 hx24_4 hw24_i_12_33 hw24_a_12_32 hq25_0 hm25; exfalso; omega
          | succ nn25 ih25 =>
            intro x24_4 w24_i_12_33 w24_a_12_32 hx24_4 hw24_i_12_33 hw24_a_12_32 hq25_0 hm25 H locs ls hP hD hS hl
            refine lv_iload hx hb dX12_feed_35 (lv_at hl 0 rfl) ?_
            refine lv_if_lt (tgt := 77) hx hb dX12_feed_37 (by decide) (fun c26 => ?_) (fun c26 => ?_)
            · have fc26 := z_lt (rfl : (x24_4).toInt = _) (by decide : (0 : Int32).toInt = 0) c26
              refine lv_aload_n hx hb dX12_feed_77 rfl (lv_at hl 1 rfl) ?_
              refine gM_12_33 hx hb ht hown hK hP m_1172 (v := w24_i_12_33) rfl dX12_feed_78 ?_
              have hP9 : va_P (dC, dI) classes (WM h g ca (u2 iv 12 33 w24_i_12_33) lv (u2 fa 12 32 w24_a_12_32) la) H := hP
              have hD9 : va_D A (WM h g ca (u2 iv 12 33 w24_i_12_33) lv (u2 fa 12 32 w24_a_12_32) la) := hD
              exact W.iret (v := w24_i_12_33) hx hb hr (fun t ht9 hW => ⟨⟨w24_i_12_33, ((u2 iv 12 33 w24_i_12_33), lv, (u2 fa 12 32 w24_a_12_32), la), rfl, ⟨w24_a_12_32, w24_i_12_33, (show inb (0, 200) w24_i_12_33 from ⟨by omega, by omega⟩), ⟨by omega, by omega⟩, rfl⟩, by rw [ht9]; exact hP9, hD9⟩, hS.F ht9⟩) hS.2.2 dX12_feed_81
            · have fc26 := z_nlt (rfl : (x24_4).toInt = _) (by decide : (0 : Int32).toInt = 0) c26
              refine lv_aload_n hx hb dX12_feed_40 rfl (lv_at hl 1 rfl) ?_
              refine gM_12_32 hx hb ht hown hK hP m_1171 dX12_feed_41 ?_
              refine lv_aload_n hx hb dX12_feed_44 rfl (lv_at hl 1 rfl) ?_
              refine gM_12_33 hx hb ht hown hK hP m_1172 (v := w24_i_12_33) rfl dX12_feed_45 ?_
              refine lv_lload_n hx hb dX12_feed_48 rfl (lv_at hl 3 rfl) ?_
              refine lv_bipush (v := 8) hx hb dX12_feed_49 (by decide) ?_
              refine lv_iload hx hb dX12_feed_51 (lv_at hl 0 rfl) ?_
              refine lv_imul hx hb dX12_feed_53 ?_
              refine lv_topi (fun v27 ev27 => ?_)
              have tv27 := z_mul ev27 (by decide : (8 : Int32).toInt = 8) (rfl : (x24_4).toInt = _) (by omega) (by omega)
              obtain ⟨w28, ew28⟩ : ∃ y : Int64, k >>> ((v27 : Int32).toInt64 &&& 63) = y := ⟨_, rfl⟩
              refine lv_lshr (v := w28) hx hb dX12_feed_54 ew28 ?_
              refine lv_ldc2 hx hb hown (ht _ m_1453) dX12_feed_55 ?_
              refine lv_land hx hb dX12_feed_58 ?_
              refine lv_topl (fun w29 ew29 => ?_)
              obtain ⟨v30, ev30⟩ : ∃ y : Int32, w29.toInt32 = y := ⟨_, rfl⟩
              refine lv_l2i (v := v30) hx hb dX12_feed_59 ev30 ?_
              have : 0 ≤ (w24_i_12_33 : Int32).toInt ∧ (w24_i_12_33 : Int32).toInt ≤ 199 := ⟨by omega, by omega⟩
              refine tM_12_32 hx hb hK hP hD hS (f0 := w24_a_12_32) rfl (i := w24_i_12_33) (x := v30) (vp_in_iff.mpr ⟨by omega, by omega⟩) dX12_feed_60 (fun f31 ef31 H locs hP hD hS => ?_)
              have hf31 : ∀ j, inb (bA 12 32 j) (f31 j) := fun j => full_i _
              have hP : va_P (dC, dI) classes (WM h g ca (u2 iv 12 33 w24_i_12_33) lv (u2 fa 12 32 f31) la) H := hP
              have hD : va_D A (WM h g ca (u2 iv 12 33 w24_i_12_33) lv (u2 fa 12 32 f31) la) := hD
              refine lv_aload_n hx hb dX12_feed_61 rfl (lv_at hl 1 rfl) ?_
              refine lv_dup hx hb dX12_feed_62 rfl ?_
              refine gM_12_33 hx hb ht hown hK hP m_1172 (v := w24_i_12_33) rfl dX12_feed_63 ?_
              refine lv_iconst (v := 1) hx hb dX12_feed_66 (by decide) ?_
              refine lv_iadd hx hb dX12_feed_67 ?_
              refine lv_topi (fun v32 ev32 => ?_)
              have tv32 := z_add ev32 (rfl : (w24_i_12_33).toInt = _) (by decide : (1 : Int32).toInt = 1) (by omega) (by omega)
              refine pM_12_33 (v := v32) hx hb ht hown hK hP hD hS m_1172 dX12_feed_68 (fun H locs hP hD hS => ?_)
              have hP : va_P (dC, dI) classes (WM h g ca (u2 iv 12 33 v32) lv (u2 fa 12 32 f31) la) H := hP
              have hD : va_D A (WM h g ca (u2 iv 12 33 v32) lv (u2 fa 12 32 f31) la) := hD
              obtain ⟨v33, ev33⟩ : ∃ y : Int32, y = x24_4 + (-1) := ⟨_, rfl⟩
              have tv33 := z_add ev33 rfl (by decide : ((-1) : Int32).toInt = (-1)) (by omega) (by omega)
              refine lv_iinc (v := v33) (lv' := [(4, .int v33), (0, .ref h), (1, .int n), (2, .long k)]) hx hb dX12_feed_71 hl (k := 0) rfl (by rw [ev33]; rfl) (by decide) rfl (fun ls hl => ?_)
              refine lv_goto (tgt := 35) hx hb dX12_feed_74 (by decide) ?_
              exact ih25 v33 v32 f31 ⟨by omega, by omega⟩ ⟨by omega, by omega⟩ hf31 (show (v32 : Int32).toInt + (v33 : Int32).toInt ≤ 199 from by omega) (by omega) _ _ ls hP hD hS (lv_sub hl [0, 1, 2, 3] rfl)
        exact lp25 9 v5 (iv 12 33) (fa 12 32) ⟨by omega, by omega⟩ ⟨by omega, by omega⟩ (hI.2 12 32) (show ((iv 12 33) : Int32).toInt + (v5 : Int32).toInt ≤ 199 from by omega) (by first | decide | omega) _ _ ls hP hD hS (lv_sub hl [0, 1, 2, 3] rfl)
      · have fc4 := z_nle (rfl : (v3).toInt = _) (by decide : (200 : Int32).toInt = 200) c4
        refine lv_ldc hx hb hown (ht _ m_1380) dX12_feed_27 ?_
        have hP9 : va_P (dC, dI) classes (WM h g ca (u2 iv 12 33 (iv 12 33)) lv (u2 fa 12 32 (fa 12 32)) la) s.heap := hP
        have hD9 : va_D A (WM h g ca (u2 iv 12 33 (iv 12 33)) lv (u2 fa 12 32 (fa 12 32)) la) := hD
        exact W.iret (v := (-100004)) hx hb hr (fun t ht9 hW => ⟨⟨(-100004), ((u2 iv 12 33 (iv 12 33)), lv, (u2 fa 12 32 (fa 12 32)), la), rfl, ⟨(fa 12 32), (iv 12 33), (hI.1 12 33), ⟨by decide, by decide⟩, rfl⟩, by rw [ht9]; exact hP9, hD9⟩, hS.F ht9⟩) hS.2.2 dX12_feed_29
    · exact absurd c2 (by decide)
  · skip
    refine lv_if_ne (tgt := 15) hx hb dX12_feed_9 (by decide) (fun c34 => ?_) (fun c34 => ?_)
    · exact absurd rfl c34
    · skip
      refine lv_ldc hx hb hown (ht _ m_1373) dX12_feed_12 ?_
      have hP9 : va_P (dC, dI) classes (WM h g ca (u2 iv 12 33 (iv 12 33)) lv (u2 fa 12 32 (fa 12 32)) la) s.heap := hP
      have hD9 : va_D A (WM h g ca (u2 iv 12 33 (iv 12 33)) lv (u2 fa 12 32 (fa 12 32)) la) := hD
      exact W.iret (v := (-100002)) hx hb hr (fun t ht9 hW => ⟨⟨(-100002), ((u2 iv 12 33 (iv 12 33)), lv, (u2 fa 12 32 (fa 12 32)), la), rfl, ⟨(fa 12 32), (iv 12 33), (hI.1 12 33), ⟨by decide, by decide⟩, rfl⟩, by rw [ht9]; exact hP9, hD9⟩, hS.F ht9⟩) hS.2.2 dX12_feed_14
