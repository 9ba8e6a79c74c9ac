/-! ===== m2 ===== -/
set_option maxRecDepth 100000 in
theorem m_44 : Cond.selects RX12 yX12_errorOf yX12_errorOf ∈ tb := tb_in 44 (by decide +kernel) rfl
set_option maxRecDepth 100000 in
theorem m_46 : Cond.selects RX12 yX12_isThere yX12_isThere ∈ tb := tb_in 46 (by decide +kernel) rfl
theorem m_1156 : Cond.fieldLink RX12 223 "SilkHouseModel" "sumDry" "J" ∈ tb := mb_5_4 _ (List.mem_of_getElem? (i := 21) rfl)
theorem m_1157 : Cond.fieldLink RX12 227 "SilkHouseModel" "sumRaw" "J" ∈ tb := mb_5_4 _ (List.mem_of_getElem? (i := 22) rfl)
theorem m_1158 : Cond.fieldLink RX12 230 "SilkHouseModel" "counted" "I" ∈ tb := mb_5_4 _ (List.mem_of_getElem? (i := 23) rfl)
theorem m_1159 : Cond.fieldLink RX12 49 "SilkHouseModel" "outOven" "I" ∈ tb := mb_5_5 _ (List.mem_of_getElem? (i := 0) rfl)
theorem m_1160 : Cond.fieldLink RX12 53 "SilkHouseModel" "outHand" "I" ∈ tb := mb_5_5 _ (List.mem_of_getElem? (i := 1) rfl)
theorem m_1161 : Cond.fieldLink RX12 56 "SilkHouseModel" "outSkein" "I" ∈ tb := mb_5_5 _ (List.mem_of_getElem? (i := 2) rfl)
theorem m_1422 : Cond.methodLink RX12 216 yX12_isDay ∈ tb := mb_6_2 _ (List.mem_of_getElem? (i := 7) rfl)
theorem m_1423 : Cond.static yX12_isDay ∈ tb := mb_6_2 _ (List.mem_of_getElem? (i := 8) rfl)
theorem m_1424 : Cond.code yX12_isDay cX12_isDay 1 (some .boolean) ∈ tb := mb_6_2 _ (List.mem_of_getElem? (i := 9) rfl)
theorem m_1426 : Cond.methodLink RX12 219 yX12_errorOf ∈ tb := mb_6_2 _ (List.mem_of_getElem? (i := 11) rfl)
theorem m_1428 : Cond.instanceMethod yX12_errorOf ∈ tb := mb_6_2 _ (List.mem_of_getElem? (i := 12) rfl)
theorem m_1429 : Cond.code yX12_errorOf cX12_errorOf 8 (some .int) ∈ tb := mb_6_2 _ (List.mem_of_getElem? (i := 13) rfl)
theorem m_1438 : Cond.methodLink RX12 233 yX12_isThere ∈ tb := mb_6_2 _ (List.mem_of_getElem? (i := 21) rfl)
theorem m_1440 : Cond.instanceMethod yX12_isThere ∈ tb := mb_6_2 _ (List.mem_of_getElem? (i := 22) rfl)
theorem m_1441 : Cond.code yX12_isThere cX12_isThere 3 (some .boolean) ∈ tb := mb_6_2 _ (List.mem_of_getElem? (i := 23) rfl)
theorem m_1445 : Cond.methodLink RX12 160 yX12_plain ∈ tb := mb_6_3 _ (List.mem_of_getElem? (i := 3) rfl)
theorem m_1446 : Cond.static yX12_plain ∈ tb := mb_6_3 _ (List.mem_of_getElem? (i := 4) rfl)
theorem m_1447 : Cond.code yX12_plain cX12_plain 2 (some .long) ∈ tb := mb_6_3 _ (List.mem_of_getElem? (i := 5) rfl)
theorem m_1543 : Cond.constantLong RX12 245 (1000) ∈ tb := mb_7_1 _ (List.mem_of_getElem? (i := 0) rfl)
theorem hd_X12_errorOf_v : yX12_errorOf.cls = RX12 ∧ yX12_errorOf.cls ≠ "java/lang/invoke/MethodHandle" ∧ yX12_errorOf.cls ≠ "java/lang/invoke/VarHandle" ∧ (parseMethodDescriptor yX12_errorOf.desc).map (fun d => d.parameters.length) = some 3 := by decide +kernel
theorem hd_X12_isDay_v : yX12_isDay.cls = RX12 ∧ yX12_isDay.cls ≠ "java/lang/invoke/MethodHandle" ∧ yX12_isDay.cls ≠ "java/lang/invoke/VarHandle" ∧ (parseMethodDescriptor yX12_isDay.desc).map (fun d => d.parameters.length) = some 1 := by decide +kernel
theorem hd_X12_isThere_v : yX12_isThere.cls = RX12 ∧ yX12_isThere.cls ≠ "java/lang/invoke/MethodHandle" ∧ yX12_isThere.cls ≠ "java/lang/invoke/VarHandle" ∧ (parseMethodDescriptor yX12_isThere.desc).map (fun d => d.parameters.length) = some 2 := by decide +kernel
theorem hd_X12_plain_v : yX12_plain.cls = RX12 ∧ yX12_plain.cls ≠ "java/lang/invoke/MethodHandle" ∧ yX12_plain.cls ≠ "java/lang/invoke/VarHandle" ∧ (parseMethodDescriptor yX12_plain.desc).map (fun d => d.parameters.length) = some 1 := by decide +kernel
set_option maxRecDepth 100000 in
theorem dvX12_doPart_0 : ([(0, .ldc2_w 245, 3), (3, .lload_n 0, 1), (4, .lload 6, 2), (6, .lmul, 1), (7, .lload 4, 2), (9, .lload_n 2, 1), (10, .lmul, 1), (11, .lsub, 1), (12, .invokestatic 160, 3), (15, .lmul, 1), (16, .iload 8, 2), (18, .i2l, 1), (19, .lload_n 2, 1), (20, .lmul, 1), (21, .lload 6, 2), (23, .lmul, 1), (24, .lcmp, 1), (25, .ifCond .le 7, 3), (28, .iconst 1, 1), (29, .goto 4, 3), (32, .iconst 0, 1), (33, .ireturn, 1)] : List (Nat × Instr × Nat)).all (fun q => decide (decode cX12_doPart q.1 = .ok (q.2.1, q.2.2))) = true := by decide +kernel
theorem dX12_doPart_0 : decode cX12_doPart 0 = .ok (.ldc2_w 245, 3) := all_at dvX12_doPart_0 0 rfl
theorem dX12_doPart_3 : decode cX12_doPart 3 = .ok (.lload_n 0, 1) := all_at dvX12_doPart_0 1 rfl
theorem dX12_doPart_4 : decode cX12_doPart 4 = .ok (.lload 6, 2) := all_at dvX12_doPart_0 2 rfl
theorem dX12_doPart_6 : decode cX12_doPart 6 = .ok (.lmul, 1) := all_at dvX12_doPart_0 3 rfl
theorem dX12_doPart_7 : decode cX12_doPart 7 = .ok (.lload 4, 2) := all_at dvX12_doPart_0 4 rfl
theorem dX12_doPart_9 : decode cX12_doPart 9 = .ok (.lload_n 2, 1) := all_at dvX12_doPart_0 5 rfl
theorem dX12_doPart_10 : decode cX12_doPart 10 = .ok (.lmul, 1) := all_at dvX12_doPart_0 6 rfl
theorem dX12_doPart_11 : decode cX12_doPart 11 = .ok (.lsub, 1) := all_at dvX12_doPart_0 7 rfl
theorem dX12_doPart_12 : decode cX12_doPart 12 = .ok (.invokestatic 160, 3) := all_at dvX12_doPart_0 8 rfl
theorem dX12_doPart_15 : decode cX12_doPart 15 = .ok (.lmul, 1) := all_at dvX12_doPart_0 9 rfl
theorem dX12_doPart_16 : decode cX12_doPart 16 = .ok (.iload 8, 2) := all_at dvX12_doPart_0 10 rfl
theorem dX12_doPart_18 : decode cX12_doPart 18 = .ok (.i2l, 1) := all_at dvX12_doPart_0 11 rfl
theorem dX12_doPart_19 : decode cX12_doPart 19 = .ok (.lload_n 2, 1) := all_at dvX12_doPart_0 12 rfl
theorem dX12_doPart_20 : decode cX12_doPart 20 = .ok (.lmul, 1) := all_at dvX12_doPart_0 13 rfl
theorem dX12_doPart_21 : decode cX12_doPart 21 = .ok (.lload 6, 2) := all_at dvX12_doPart_0 14 rfl
theorem dX12_doPart_23 : decode cX12_doPart 23 = .ok (.lmul, 1) := all_at dvX12_doPart_0 15 rfl
theorem dX12_doPart_24 : decode cX12_doPart 24 = .ok (.lcmp, 1) := all_at dvX12_doPart_0 16 rfl
theorem dX12_doPart_25 : decode cX12_doPart 25 = .ok (.ifCond .le 7, 3) := all_at dvX12_doPart_0 17 rfl
theorem dX12_doPart_28 : decode cX12_doPart 28 = .ok (.iconst 1, 1) := all_at dvX12_doPart_0 18 rfl
theorem dX12_doPart_29 : decode cX12_doPart 29 = .ok (.goto 4, 3) := all_at dvX12_doPart_0 19 rfl
theorem dX12_doPart_32 : decode cX12_doPart 32 = .ok (.iconst 0, 1) := all_at dvX12_doPart_0 20 rfl
theorem dX12_doPart_33 : decode cX12_doPart 33 = .ok (.ireturn, 1) := all_at dvX12_doPart_0 21 rfl
set_option maxRecDepth 100000 in
theorem dvX12_error_0 : ([(0, .iload_n 1, 1), (1, .i2l, 1), (2, .lconst 0, 1), (3, .ldc2_w 190, 3), (6, .invokestatic 167, 3), (9, .ifCond .eq 20, 3), (12, .iload_n 2, 1), (13, .invokestatic 216, 3), (16, .ifCond .eq 13, 3), (19, .iload_n 3, 1), (20, .i2l, 1), (21, .lconst 0, 1), (22, .lconst 1, 1), (23, .invokestatic 167, 3), (26, .ifCond .ne 6, 3), (29, .ldc 178, 2), (31, .ireturn, 1), (32, .aload_n 0, 1), (33, .iload_n 1, 1), (34, .iload_n 2, 1), (35, .iload_n 3, 1), (36, .iconst 1, 1), (37, .if_icmp .ne 7, 3), (40, .iconst 1, 1)] : List (Nat × Instr × Nat)).all (fun q => decide (decode cX12_error q.1 = .ok (q.2.1, q.2.2))) = true := by decide +kernel
theorem dX12_error_0 : decode cX12_error 0 = .ok (.iload_n 1, 1) := all_at dvX12_error_0 0 rfl
theorem dX12_error_1 : decode cX12_error 1 = .ok (.i2l, 1) := all_at dvX12_error_0 1 rfl
theorem dX12_error_2 : decode cX12_error 2 = .ok (.lconst 0, 1) := all_at dvX12_error_0 2 rfl
theorem dX12_error_3 : decode cX12_error 3 = .ok (.ldc2_w 190, 3) := all_at dvX12_error_0 3 rfl
theorem dX12_error_6 : decode cX12_error 6 = .ok (.invokestatic 167, 3) := all_at dvX12_error_0 4 rfl
theorem dX12_error_9 : decode cX12_error 9 = .ok (.ifCond .eq 20, 3) := all_at dvX12_error_0 5 rfl
theorem dX12_error_12 : decode cX12_error 12 = .ok (.iload_n 2, 1) := all_at dvX12_error_0 6 rfl
theorem dX12_error_13 : decode cX12_error 13 = .ok (.invokestatic 216, 3) := all_at dvX12_error_0 7 rfl
theorem dX12_error_16 : decode cX12_error 16 = .ok (.ifCond .eq 13, 3) := all_at dvX12_error_0 8 rfl
theorem dX12_error_19 : decode cX12_error 19 = .ok (.iload_n 3, 1) := all_at dvX12_error_0 9 rfl
theorem dX12_error_20 : decode cX12_error 20 = .ok (.i2l, 1) := all_at dvX12_error_0 10 rfl
theorem dX12_error_21 : decode cX12_error 21 = .ok (.lconst 0, 1) := all_at dvX12_error_0 11 rfl
theorem dX12_error_22 : decode cX12_error 22 = .ok (.lconst 1, 1) := all_at dvX12_error_0 12 rfl
theorem dX12_error_23 : decode cX12_error 23 = .ok (.invokestatic 167, 3) := all_at dvX12_error_0 13 rfl
theorem dX12_error_26 : decode cX12_error 26 = .ok (.ifCond .ne 6, 3) := all_at dvX12_error_0 14 rfl
theorem dX12_error_29 : decode cX12_error 29 = .ok (.ldc 178, 2) := all_at dvX12_error_0 15 rfl
theorem dX12_error_31 : decode cX12_error 31 = .ok (.ireturn, 1) := all_at dvX12_error_0 16 rfl
theorem dX12_error_32 : decode cX12_error 32 = .ok (.aload_n 0, 1) := all_at dvX12_error_0 17 rfl
theorem dX12_error_33 : decode cX12_error 33 = .ok (.iload_n 1, 1) := all_at dvX12_error_0 18 rfl
theorem dX12_error_34 : decode cX12_error 34 = .ok (.iload_n 2, 1) := all_at dvX12_error_0 19 rfl
theorem dX12_error_35 : decode cX12_error 35 = .ok (.iload_n 3, 1) := all_at dvX12_error_0 20 rfl
theorem dX12_error_36 : decode cX12_error 36 = .ok (.iconst 1, 1) := all_at dvX12_error_0 21 rfl
theorem dX12_error_37 : decode cX12_error 37 = .ok (.if_icmp .ne 7, 3) := all_at dvX12_error_0 22 rfl
theorem dX12_error_40 : decode cX12_error 40 = .ok (.iconst 1, 1) := all_at dvX12_error_0 23 rfl
set_option maxRecDepth 100000 in
theorem dvX12_error_41 : ([(41, .goto 4, 3), (44, .iconst 0, 1), (45, .invokevirtual 219, 3), (48, .ireturn, 1)] : List (Nat × Instr × Nat)).all (fun q => decide (decode cX12_error q.1 = .ok (q.2.1, q.2.2))) = true := by decide +kernel
theorem dX12_error_41 : decode cX12_error 41 = .ok (.goto 4, 3) := all_at dvX12_error_41 0 rfl
theorem dX12_error_44 : decode cX12_error 44 = .ok (.iconst 0, 1) := all_at dvX12_error_41 1 rfl
theorem dX12_error_45 : decode cX12_error 45 = .ok (.invokevirtual 219, 3) := all_at dvX12_error_41 2 rfl
theorem dX12_error_48 : decode cX12_error 48 = .ok (.ireturn, 1) := all_at dvX12_error_41 3 rfl
set_option maxRecDepth 100000 in
theorem dvX12_errorOf_0 : ([(0, .iconst (-1), 1), (1, .istore 4, 2), (3, .iconst (-1), 1), (4, .istore 5, 2), (6, .iconst 0, 1), (7, .istore 6, 2), (9, .iload 6, 2), (11, .aload_n 0, 1), (12, .getfield 213, 3), (15, .if_icmp .ge 65, 3), (18, .aload_n 0, 1), (19, .getfield 40, 3), (22, .iload 6, 2), (24, .iaload, 1), (25, .iload_n 1, 1), (26, .if_icmp .ne 48, 3), (29, .aload_n 0, 1), (30, .getfield 46, 3), (33, .iload 6, 2), (35, .iaload, 1), (36, .iload_n 2, 1), (37, .if_icmp .gt 8, 3), (40, .iload 6, 2), (42, .goto 5, 3)] : List (Nat × Instr × Nat)).all (fun q => decide (decode cX12_errorOf q.1 = .ok (q.2.1, q.2.2))) = true := by decide +kernel
theorem dX12_errorOf_0 : decode cX12_errorOf 0 = .ok (.iconst (-1), 1) := all_at dvX12_errorOf_0 0 rfl
theorem dX12_errorOf_1 : decode cX12_errorOf 1 = .ok (.istore 4, 2) := all_at dvX12_errorOf_0 1 rfl
theorem dX12_errorOf_3 : decode cX12_errorOf 3 = .ok (.iconst (-1), 1) := all_at dvX12_errorOf_0 2 rfl
theorem dX12_errorOf_4 : decode cX12_errorOf 4 = .ok (.istore 5, 2) := all_at dvX12_errorOf_0 3 rfl
theorem dX12_errorOf_6 : decode cX12_errorOf 6 = .ok (.iconst 0, 1) := all_at dvX12_errorOf_0 4 rfl
theorem dX12_errorOf_7 : decode cX12_errorOf 7 = .ok (.istore 6, 2) := all_at dvX12_errorOf_0 5 rfl
theorem dX12_errorOf_9 : decode cX12_errorOf 9 = .ok (.iload 6, 2) := all_at dvX12_errorOf_0 6 rfl
theorem dX12_errorOf_11 : decode cX12_errorOf 11 = .ok (.aload_n 0, 1) := all_at dvX12_errorOf_0 7 rfl
theorem dX12_errorOf_12 : decode cX12_errorOf 12 = .ok (.getfield 213, 3) := all_at dvX12_errorOf_0 8 rfl
theorem dX12_errorOf_15 : decode cX12_errorOf 15 = .ok (.if_icmp .ge 65, 3) := all_at dvX12_errorOf_0 9 rfl
theorem dX12_errorOf_18 : decode cX12_errorOf 18 = .ok (.aload_n 0, 1) := all_at dvX12_errorOf_0 10 rfl
theorem dX12_errorOf_19 : decode cX12_errorOf 19 = .ok (.getfield 40, 3) := all_at dvX12_errorOf_0 11 rfl
theorem dX12_errorOf_22 : decode cX12_errorOf 22 = .ok (.iload 6, 2) := all_at dvX12_errorOf_0 12 rfl
theorem dX12_errorOf_24 : decode cX12_errorOf 24 = .ok (.iaload, 1) := all_at dvX12_errorOf_0 13 rfl
theorem dX12_errorOf_25 : decode cX12_errorOf 25 = .ok (.iload_n 1, 1) := all_at dvX12_errorOf_0 14 rfl
theorem dX12_errorOf_26 : decode cX12_errorOf 26 = .ok (.if_icmp .ne 48, 3) := all_at dvX12_errorOf_0 15 rfl
theorem dX12_errorOf_29 : decode cX12_errorOf 29 = .ok (.aload_n 0, 1) := all_at dvX12_errorOf_0 16 rfl
theorem dX12_errorOf_30 : decode cX12_errorOf 30 = .ok (.getfield 46, 3) := all_at dvX12_errorOf_0 17 rfl
theorem dX12_errorOf_33 : decode cX12_errorOf 33 = .ok (.iload 6, 2) := all_at dvX12_errorOf_0 18 rfl
theorem dX12_errorOf_35 : decode cX12_errorOf 35 = .ok (.iaload, 1) := all_at dvX12_errorOf_0 19 rfl
theorem dX12_errorOf_36 : decode cX12_errorOf 36 = .ok (.iload_n 2, 1) := all_at dvX12_errorOf_0 20 rfl
theorem dX12_errorOf_37 : decode cX12_errorOf 37 = .ok (.if_icmp .gt 8, 3) := all_at dvX12_errorOf_0 21 rfl
theorem dX12_errorOf_40 : decode cX12_errorOf 40 = .ok (.iload 6, 2) := all_at dvX12_errorOf_0 22 rfl
theorem dX12_errorOf_42 : decode cX12_errorOf 42 = .ok (.goto 5, 3) := all_at dvX12_errorOf_0 23 rfl
set_option maxRecDepth 100000 in
theorem dvX12_errorOf_45 : ([(45, .iload 4, 2), (47, .istore 4, 2), (49, .aload_n 0, 1), (50, .getfield 46, 3), (53, .iload 6, 2), (55, .iaload, 1), (56, .iload_n 2, 1), (57, .if_icmp .le 13, 3), (60, .iload 5, 2), (62, .ifCond .ge 8, 3), (65, .iload 6, 2), (67, .goto 5, 3), (70, .iload 5, 2), (72, .istore 5, 2), (74, .iinc 6 1, 3), (77, .goto (-68), 3), (80, .iload 4, 2), (82, .ifCond .ge 10, 3), (85, .iload 5, 2), (87, .ifCond .ge 5, 3), (90, .iconst 0, 1), (91, .ireturn, 1), (92, .aload_n 0, 1), (93, .getfield 43, 3)] : List (Nat × Instr × Nat)).all (fun q => decide (decode cX12_errorOf q.1 = .ok (q.2.1, q.2.2))) = true := by decide +kernel
theorem dX12_errorOf_45 : decode cX12_errorOf 45 = .ok (.iload 4, 2) := all_at dvX12_errorOf_45 0 rfl
theorem dX12_errorOf_47 : decode cX12_errorOf 47 = .ok (.istore 4, 2) := all_at dvX12_errorOf_45 1 rfl
theorem dX12_errorOf_49 : decode cX12_errorOf 49 = .ok (.aload_n 0, 1) := all_at dvX12_errorOf_45 2 rfl
theorem dX12_errorOf_50 : decode cX12_errorOf 50 = .ok (.getfield 46, 3) := all_at dvX12_errorOf_45 3 rfl
theorem dX12_errorOf_53 : decode cX12_errorOf 53 = .ok (.iload 6, 2) := all_at dvX12_errorOf_45 4 rfl
theorem dX12_errorOf_55 : decode cX12_errorOf 55 = .ok (.iaload, 1) := all_at dvX12_errorOf_45 5 rfl
theorem dX12_errorOf_56 : decode cX12_errorOf 56 = .ok (.iload_n 2, 1) := all_at dvX12_errorOf_45 6 rfl
theorem dX12_errorOf_57 : decode cX12_errorOf 57 = .ok (.if_icmp .le 13, 3) := all_at dvX12_errorOf_45 7 rfl
theorem dX12_errorOf_60 : decode cX12_errorOf 60 = .ok (.iload 5, 2) := all_at dvX12_errorOf_45 8 rfl
theorem dX12_errorOf_62 : decode cX12_errorOf 62 = .ok (.ifCond .ge 8, 3) := all_at dvX12_errorOf_45 9 rfl
theorem dX12_errorOf_65 : decode cX12_errorOf 65 = .ok (.iload 6, 2) := all_at dvX12_errorOf_45 10 rfl
theorem dX12_errorOf_67 : decode cX12_errorOf 67 = .ok (.goto 5, 3) := all_at dvX12_errorOf_45 11 rfl
theorem dX12_errorOf_70 : decode cX12_errorOf 70 = .ok (.iload 5, 2) := all_at dvX12_errorOf_45 12 rfl
theorem dX12_errorOf_72 : decode cX12_errorOf 72 = .ok (.istore 5, 2) := all_at dvX12_errorOf_45 13 rfl
theorem dX12_errorOf_74 : decode cX12_errorOf 74 = .ok (.iinc 6 1, 3) := all_at dvX12_errorOf_45 14 rfl
theorem dX12_errorOf_77 : decode cX12_errorOf 77 = .ok (.goto (-68), 3) := all_at dvX12_errorOf_45 15 rfl
theorem dX12_errorOf_80 : decode cX12_errorOf 80 = .ok (.iload 4, 2) := all_at dvX12_errorOf_45 16 rfl
theorem dX12_errorOf_82 : decode cX12_errorOf 82 = .ok (.ifCond .ge 10, 3) := all_at dvX12_errorOf_45 17 rfl
theorem dX12_errorOf_85 : decode cX12_errorOf 85 = .ok (.iload 5, 2) := all_at dvX12_errorOf_45 18 rfl
theorem dX12_errorOf_87 : decode cX12_errorOf 87 = .ok (.ifCond .ge 5, 3) := all_at dvX12_errorOf_45 19 rfl
theorem dX12_errorOf_90 : decode cX12_errorOf 90 = .ok (.iconst 0, 1) := all_at dvX12_errorOf_45 20 rfl
theorem dX12_errorOf_91 : decode cX12_errorOf 91 = .ok (.ireturn, 1) := all_at dvX12_errorOf_45 21 rfl
theorem dX12_errorOf_92 : decode cX12_errorOf 92 = .ok (.aload_n 0, 1) := all_at dvX12_errorOf_45 22 rfl
theorem dX12_errorOf_93 : decode cX12_errorOf 93 = .ok (.getfield 43, 3) := all_at dvX12_errorOf_45 23 rfl
set_option maxRecDepth 100000 in
theorem dvX12_errorOf_96 : ([(96, .iload 4, 2), (98, .ifCond .ge 8, 3), (101, .iload 5, 2), (103, .goto 5, 3), (106, .iload 4, 2), (108, .iaload, 1), (109, .istore 6, 2), (111, .aload_n 0, 1), (112, .getfield 43, 3), (115, .iload 5, 2), (117, .ifCond .ge 8, 3), (120, .iload 4, 2), (122, .goto 5, 3), (125, .iload 5, 2), (127, .iaload, 1), (128, .istore 7, 2), (130, .iload_n 3, 1), (131, .iload 6, 2), (133, .iload 7, 2), (135, .if_icmp .le 7, 3), (138, .iconst 1, 1), (139, .goto 4, 3), (142, .iconst 0, 1), (143, .if_icmp .ne 8, 3)] : List (Nat × Instr × Nat)).all (fun q => decide (decode cX12_errorOf q.1 = .ok (q.2.1, q.2.2))) = true := by decide +kernel
theorem dX12_errorOf_96 : decode cX12_errorOf 96 = .ok (.iload 4, 2) := all_at dvX12_errorOf_96 0 rfl
theorem dX12_errorOf_98 : decode cX12_errorOf 98 = .ok (.ifCond .ge 8, 3) := all_at dvX12_errorOf_96 1 rfl
theorem dX12_errorOf_101 : decode cX12_errorOf 101 = .ok (.iload 5, 2) := all_at dvX12_errorOf_96 2 rfl
theorem dX12_errorOf_103 : decode cX12_errorOf 103 = .ok (.goto 5, 3) := all_at dvX12_errorOf_96 3 rfl
theorem dX12_errorOf_106 : decode cX12_errorOf 106 = .ok (.iload 4, 2) := all_at dvX12_errorOf_96 4 rfl
theorem dX12_errorOf_108 : decode cX12_errorOf 108 = .ok (.iaload, 1) := all_at dvX12_errorOf_96 5 rfl
theorem dX12_errorOf_109 : decode cX12_errorOf 109 = .ok (.istore 6, 2) := all_at dvX12_errorOf_96 6 rfl
theorem dX12_errorOf_111 : decode cX12_errorOf 111 = .ok (.aload_n 0, 1) := all_at dvX12_errorOf_96 7 rfl
theorem dX12_errorOf_112 : decode cX12_errorOf 112 = .ok (.getfield 43, 3) := all_at dvX12_errorOf_96 8 rfl
theorem dX12_errorOf_115 : decode cX12_errorOf 115 = .ok (.iload 5, 2) := all_at dvX12_errorOf_96 9 rfl
theorem dX12_errorOf_117 : decode cX12_errorOf 117 = .ok (.ifCond .ge 8, 3) := all_at dvX12_errorOf_96 10 rfl
theorem dX12_errorOf_120 : decode cX12_errorOf 120 = .ok (.iload 4, 2) := all_at dvX12_errorOf_96 11 rfl
theorem dX12_errorOf_122 : decode cX12_errorOf 122 = .ok (.goto 5, 3) := all_at dvX12_errorOf_96 12 rfl
theorem dX12_errorOf_125 : decode cX12_errorOf 125 = .ok (.iload 5, 2) := all_at dvX12_errorOf_96 13 rfl
theorem dX12_errorOf_127 : decode cX12_errorOf 127 = .ok (.iaload, 1) := all_at dvX12_errorOf_96 14 rfl
theorem dX12_errorOf_128 : decode cX12_errorOf 128 = .ok (.istore 7, 2) := all_at dvX12_errorOf_96 15 rfl
theorem dX12_errorOf_130 : decode cX12_errorOf 130 = .ok (.iload_n 3, 1) := all_at dvX12_errorOf_96 16 rfl
theorem dX12_errorOf_131 : decode cX12_errorOf 131 = .ok (.iload 6, 2) := all_at dvX12_errorOf_96 17 rfl
theorem dX12_errorOf_133 : decode cX12_errorOf 133 = .ok (.iload 7, 2) := all_at dvX12_errorOf_96 18 rfl
theorem dX12_errorOf_135 : decode cX12_errorOf 135 = .ok (.if_icmp .le 7, 3) := all_at dvX12_errorOf_96 19 rfl
theorem dX12_errorOf_138 : decode cX12_errorOf 138 = .ok (.iconst 1, 1) := all_at dvX12_errorOf_96 20 rfl
theorem dX12_errorOf_139 : decode cX12_errorOf 139 = .ok (.goto 4, 3) := all_at dvX12_errorOf_96 21 rfl
theorem dX12_errorOf_142 : decode cX12_errorOf 142 = .ok (.iconst 0, 1) := all_at dvX12_errorOf_96 22 rfl
theorem dX12_errorOf_143 : decode cX12_errorOf 143 = .ok (.if_icmp .ne 8, 3) := all_at dvX12_errorOf_96 23 rfl
set_option maxRecDepth 100000 in
theorem dvX12_errorOf_146 : ([(146, .iload 6, 2), (148, .goto 5, 3), (151, .iload 7, 2), (153, .ireturn, 1)] : List (Nat × Instr × Nat)).all (fun q => decide (decode cX12_errorOf q.1 = .ok (q.2.1, q.2.2))) = true := by decide +kernel
theorem dX12_errorOf_146 : decode cX12_errorOf 146 = .ok (.iload 6, 2) := all_at dvX12_errorOf_146 0 rfl
theorem dX12_errorOf_148 : decode cX12_errorOf 148 = .ok (.goto 5, 3) := all_at dvX12_errorOf_146 1 rfl
theorem dX12_errorOf_151 : decode cX12_errorOf 151 = .ok (.iload 7, 2) := all_at dvX12_errorOf_146 2 rfl
theorem dX12_errorOf_153 : decode cX12_errorOf 153 = .ok (.ireturn, 1) := all_at dvX12_errorOf_146 3 rfl
set_option maxRecDepth 100000 in
theorem dvX12_isThere_0 : ([(0, .aload_n 0, 1), (1, .getfield 34, 3), (4, .iload_n 1, 1), (5, .iaload, 1), (6, .iload_n 2, 1), (7, .if_icmp .gt 26, 3), (10, .aload_n 0, 1), (11, .getfield 37, 3), (14, .iload_n 1, 1), (15, .iaload, 1), (16, .ifCond .lt 13, 3), (19, .aload_n 0, 1), (20, .getfield 37, 3), (23, .iload_n 1, 1), (24, .iaload, 1), (25, .iload_n 2, 1), (26, .if_icmp .le 7, 3), (29, .iconst 1, 1), (30, .goto 4, 3), (33, .iconst 0, 1), (34, .ireturn, 1)] : List (Nat × Instr × Nat)).all (fun q => decide (decode cX12_isThere q.1 = .ok (q.2.1, q.2.2))) = true := by decide +kernel
theorem dX12_isThere_0 : decode cX12_isThere 0 = .ok (.aload_n 0, 1) := all_at dvX12_isThere_0 0 rfl
theorem dX12_isThere_1 : decode cX12_isThere 1 = .ok (.getfield 34, 3) := all_at dvX12_isThere_0 1 rfl
theorem dX12_isThere_4 : decode cX12_isThere 4 = .ok (.iload_n 1, 1) := all_at dvX12_isThere_0 2 rfl
theorem dX12_isThere_5 : decode cX12_isThere 5 = .ok (.iaload, 1) := all_at dvX12_isThere_0 3 rfl
theorem dX12_isThere_6 : decode cX12_isThere 6 = .ok (.iload_n 2, 1) := all_at dvX12_isThere_0 4 rfl
theorem dX12_isThere_7 : decode cX12_isThere 7 = .ok (.if_icmp .gt 26, 3) := all_at dvX12_isThere_0 5 rfl
theorem dX12_isThere_10 : decode cX12_isThere 10 = .ok (.aload_n 0, 1) := all_at dvX12_isThere_0 6 rfl
theorem dX12_isThere_11 : decode cX12_isThere 11 = .ok (.getfield 37, 3) := all_at dvX12_isThere_0 7 rfl
theorem dX12_isThere_14 : decode cX12_isThere 14 = .ok (.iload_n 1, 1) := all_at dvX12_isThere_0 8 rfl
theorem dX12_isThere_15 : decode cX12_isThere 15 = .ok (.iaload, 1) := all_at dvX12_isThere_0 9 rfl
theorem dX12_isThere_16 : decode cX12_isThere 16 = .ok (.ifCond .lt 13, 3) := all_at dvX12_isThere_0 10 rfl
theorem dX12_isThere_19 : decode cX12_isThere 19 = .ok (.aload_n 0, 1) := all_at dvX12_isThere_0 11 rfl
theorem dX12_isThere_20 : decode cX12_isThere 20 = .ok (.getfield 37, 3) := all_at dvX12_isThere_0 12 rfl
theorem dX12_isThere_23 : decode cX12_isThere 23 = .ok (.iload_n 1, 1) := all_at dvX12_isThere_0 13 rfl
theorem dX12_isThere_24 : decode cX12_isThere 24 = .ok (.iaload, 1) := all_at dvX12_isThere_0 14 rfl
theorem dX12_isThere_25 : decode cX12_isThere 25 = .ok (.iload_n 2, 1) := all_at dvX12_isThere_0 15 rfl
theorem dX12_isThere_26 : decode cX12_isThere 26 = .ok (.if_icmp .le 7, 3) := all_at dvX12_isThere_0 16 rfl
theorem dX12_isThere_29 : decode cX12_isThere 29 = .ok (.iconst 1, 1) := all_at dvX12_isThere_0 17 rfl
theorem dX12_isThere_30 : decode cX12_isThere 30 = .ok (.goto 4, 3) := all_at dvX12_isThere_0 18 rfl
theorem dX12_isThere_33 : decode cX12_isThere 33 = .ok (.iconst 0, 1) := all_at dvX12_isThere_0 19 rfl
theorem dX12_isThere_34 : decode cX12_isThere 34 = .ok (.ireturn, 1) := all_at dvX12_isThere_0 20 rfl
set_option maxRecDepth 100000 in
theorem dvX12_leaveOut_0 : ([(0, .aload_n 0, 1), (1, .iload_n 1, 1), (2, .putfield 49, 3), (5, .aload_n 0, 1), (6, .iload_n 2, 1), (7, .putfield 53, 3), (10, .aload_n 0, 1), (11, .iload_n 3, 1), (12, .putfield 56, 3), (15, .return_, 1)] : List (Nat × Instr × Nat)).all (fun q => decide (decode cX12_leaveOut q.1 = .ok (q.2.1, q.2.2))) = true := by decide +kernel
theorem dX12_leaveOut_0 : decode cX12_leaveOut 0 = .ok (.aload_n 0, 1) := all_at dvX12_leaveOut_0 0 rfl
theorem dX12_leaveOut_1 : decode cX12_leaveOut 1 = .ok (.iload_n 1, 1) := all_at dvX12_leaveOut_0 1 rfl
theorem dX12_leaveOut_2 : decode cX12_leaveOut 2 = .ok (.putfield 49, 3) := all_at dvX12_leaveOut_0 2 rfl
theorem dX12_leaveOut_5 : decode cX12_leaveOut 5 = .ok (.aload_n 0, 1) := all_at dvX12_leaveOut_0 3 rfl
theorem dX12_leaveOut_6 : decode cX12_leaveOut 6 = .ok (.iload_n 2, 1) := all_at dvX12_leaveOut_0 4 rfl
theorem dX12_leaveOut_7 : decode cX12_leaveOut 7 = .ok (.putfield 53, 3) := all_at dvX12_leaveOut_0 5 rfl
theorem dX12_leaveOut_10 : decode cX12_leaveOut 10 = .ok (.aload_n 0, 1) := all_at dvX12_leaveOut_0 6 rfl
theorem dX12_leaveOut_11 : decode cX12_leaveOut 11 = .ok (.iload_n 3, 1) := all_at dvX12_leaveOut_0 7 rfl
theorem dX12_leaveOut_12 : decode cX12_leaveOut 12 = .ok (.putfield 56, 3) := all_at dvX12_leaveOut_0 8 rfl
theorem dX12_leaveOut_15 : decode cX12_leaveOut 15 = .ok (.return_, 1) := all_at dvX12_leaveOut_0 9 rfl
set_option maxRecDepth 100000 in
theorem dvX12_sumUp_0 : ([(0, .aload_n 0, 1), (1, .lconst 0, 1), (2, .putfield 223, 3), (5, .aload_n 0, 1), (6, .lconst 0, 1), (7, .putfield 227, 3), (10, .aload_n 0, 1), (11, .iconst 0, 1), (12, .putfield 230, 3), (15, .iconst 0, 1), (16, .istore 4, 2), (18, .iload 4, 2), (20, .aload_n 0, 1), (21, .getfield 200, 3), (24, .if_icmp .ge 134, 3), (27, .aload_n 0, 1), (28, .getfield 28, 3), (31, .iload 4, 2), (33, .iaload, 1), (34, .aload_n 0, 1), (35, .getfield 49, 3), (38, .if_icmp .eq 26, 3), (41, .aload_n 0, 1), (42, .getfield 31, 3)] : List (Nat × Instr × Nat)).all (fun q => decide (decode cX12_sumUp q.1 = .ok (q.2.1, q.2.2))) = true := by decide +kernel
theorem dX12_sumUp_0 : decode cX12_sumUp 0 = .ok (.aload_n 0, 1) := all_at dvX12_sumUp_0 0 rfl
theorem dX12_sumUp_1 : decode cX12_sumUp 1 = .ok (.lconst 0, 1) := all_at dvX12_sumUp_0 1 rfl
theorem dX12_sumUp_2 : decode cX12_sumUp 2 = .ok (.putfield 223, 3) := all_at dvX12_sumUp_0 2 rfl
theorem dX12_sumUp_5 : decode cX12_sumUp 5 = .ok (.aload_n 0, 1) := all_at dvX12_sumUp_0 3 rfl
theorem dX12_sumUp_6 : decode cX12_sumUp 6 = .ok (.lconst 0, 1) := all_at dvX12_sumUp_0 4 rfl
theorem dX12_sumUp_7 : decode cX12_sumUp 7 = .ok (.putfield 227, 3) := all_at dvX12_sumUp_0 5 rfl
theorem dX12_sumUp_10 : decode cX12_sumUp 10 = .ok (.aload_n 0, 1) := all_at dvX12_sumUp_0 6 rfl
theorem dX12_sumUp_11 : decode cX12_sumUp 11 = .ok (.iconst 0, 1) := all_at dvX12_sumUp_0 7 rfl
theorem dX12_sumUp_12 : decode cX12_sumUp 12 = .ok (.putfield 230, 3) := all_at dvX12_sumUp_0 8 rfl
theorem dX12_sumUp_15 : decode cX12_sumUp 15 = .ok (.iconst 0, 1) := all_at dvX12_sumUp_0 9 rfl
theorem dX12_sumUp_16 : decode cX12_sumUp 16 = .ok (.istore 4, 2) := all_at dvX12_sumUp_0 10 rfl
theorem dX12_sumUp_18 : decode cX12_sumUp 18 = .ok (.iload 4, 2) := all_at dvX12_sumUp_0 11 rfl
theorem dX12_sumUp_20 : decode cX12_sumUp 20 = .ok (.aload_n 0, 1) := all_at dvX12_sumUp_0 12 rfl
theorem dX12_sumUp_21 : decode cX12_sumUp 21 = .ok (.getfield 200, 3) := all_at dvX12_sumUp_0 13 rfl
theorem dX12_sumUp_24 : decode cX12_sumUp 24 = .ok (.if_icmp .ge 134, 3) := all_at dvX12_sumUp_0 14 rfl
theorem dX12_sumUp_27 : decode cX12_sumUp 27 = .ok (.aload_n 0, 1) := all_at dvX12_sumUp_0 15 rfl
theorem dX12_sumUp_28 : decode cX12_sumUp 28 = .ok (.getfield 28, 3) := all_at dvX12_sumUp_0 16 rfl
theorem dX12_sumUp_31 : decode cX12_sumUp 31 = .ok (.iload 4, 2) := all_at dvX12_sumUp_0 17 rfl
theorem dX12_sumUp_33 : decode cX12_sumUp 33 = .ok (.iaload, 1) := all_at dvX12_sumUp_0 18 rfl
theorem dX12_sumUp_34 : decode cX12_sumUp 34 = .ok (.aload_n 0, 1) := all_at dvX12_sumUp_0 19 rfl
theorem dX12_sumUp_35 : decode cX12_sumUp 35 = .ok (.getfield 49, 3) := all_at dvX12_sumUp_0 20 rfl
theorem dX12_sumUp_38 : decode cX12_sumUp 38 = .ok (.if_icmp .eq 26, 3) := all_at dvX12_sumUp_0 21 rfl
theorem dX12_sumUp_41 : decode cX12_sumUp 41 = .ok (.aload_n 0, 1) := all_at dvX12_sumUp_0 22 rfl
theorem dX12_sumUp_42 : decode cX12_sumUp 42 = .ok (.getfield 31, 3) := all_at dvX12_sumUp_0 23 rfl
set_option maxRecDepth 100000 in
theorem dvX12_sumUp_45 : ([(45, .iload 4, 2), (47, .iaload, 1), (48, .aload_n 0, 1), (49, .getfield 53, 3), (52, .if_icmp .eq 12, 3), (55, .iload 4, 2), (57, .aload_n 0, 1), (58, .getfield 56, 3), (61, .if_icmp .ne 7, 3), (64, .iconst 1, 1), (65, .goto 4, 3), (68, .iconst 0, 1), (69, .istore 5, 2), (71, .aload_n 0, 1), (72, .getfield 13, 3), (75, .iload 4, 2), (77, .iaload, 1), (78, .iload_n 1, 1), (79, .if_icmp .ne 73, 3), (82, .aload_n 0, 1), (83, .getfield 16, 3), (86, .iload 4, 2), (88, .iaload, 1), (89, .iload_n 2, 1)] : List (Nat × Instr × Nat)).all (fun q => decide (decode cX12_sumUp q.1 = .ok (q.2.1, q.2.2))) = true := by decide +kernel
theorem dX12_sumUp_45 : decode cX12_sumUp 45 = .ok (.iload 4, 2) := all_at dvX12_sumUp_45 0 rfl
theorem dX12_sumUp_47 : decode cX12_sumUp 47 = .ok (.iaload, 1) := all_at dvX12_sumUp_45 1 rfl
theorem dX12_sumUp_48 : decode cX12_sumUp 48 = .ok (.aload_n 0, 1) := all_at dvX12_sumUp_45 2 rfl
theorem dX12_sumUp_49 : decode cX12_sumUp 49 = .ok (.getfield 53, 3) := all_at dvX12_sumUp_45 3 rfl
theorem dX12_sumUp_52 : decode cX12_sumUp 52 = .ok (.if_icmp .eq 12, 3) := all_at dvX12_sumUp_45 4 rfl
theorem dX12_sumUp_55 : decode cX12_sumUp 55 = .ok (.iload 4, 2) := all_at dvX12_sumUp_45 5 rfl
theorem dX12_sumUp_57 : decode cX12_sumUp 57 = .ok (.aload_n 0, 1) := all_at dvX12_sumUp_45 6 rfl
theorem dX12_sumUp_58 : decode cX12_sumUp 58 = .ok (.getfield 56, 3) := all_at dvX12_sumUp_45 7 rfl
theorem dX12_sumUp_61 : decode cX12_sumUp 61 = .ok (.if_icmp .ne 7, 3) := all_at dvX12_sumUp_45 8 rfl
theorem dX12_sumUp_64 : decode cX12_sumUp 64 = .ok (.iconst 1, 1) := all_at dvX12_sumUp_45 9 rfl
theorem dX12_sumUp_65 : decode cX12_sumUp 65 = .ok (.goto 4, 3) := all_at dvX12_sumUp_45 10 rfl
theorem dX12_sumUp_68 : decode cX12_sumUp 68 = .ok (.iconst 0, 1) := all_at dvX12_sumUp_45 11 rfl
theorem dX12_sumUp_69 : decode cX12_sumUp 69 = .ok (.istore 5, 2) := all_at dvX12_sumUp_45 12 rfl
theorem dX12_sumUp_71 : decode cX12_sumUp 71 = .ok (.aload_n 0, 1) := all_at dvX12_sumUp_45 13 rfl
theorem dX12_sumUp_72 : decode cX12_sumUp 72 = .ok (.getfield 13, 3) := all_at dvX12_sumUp_45 14 rfl
theorem dX12_sumUp_75 : decode cX12_sumUp 75 = .ok (.iload 4, 2) := all_at dvX12_sumUp_45 15 rfl
theorem dX12_sumUp_77 : decode cX12_sumUp 77 = .ok (.iaload, 1) := all_at dvX12_sumUp_45 16 rfl
theorem dX12_sumUp_78 : decode cX12_sumUp 78 = .ok (.iload_n 1, 1) := all_at dvX12_sumUp_45 17 rfl
theorem dX12_sumUp_79 : decode cX12_sumUp 79 = .ok (.if_icmp .ne 73, 3) := all_at dvX12_sumUp_45 18 rfl
theorem dX12_sumUp_82 : decode cX12_sumUp 82 = .ok (.aload_n 0, 1) := all_at dvX12_sumUp_45 19 rfl
theorem dX12_sumUp_83 : decode cX12_sumUp 83 = .ok (.getfield 16, 3) := all_at dvX12_sumUp_45 20 rfl
theorem dX12_sumUp_86 : decode cX12_sumUp 86 = .ok (.iload 4, 2) := all_at dvX12_sumUp_45 21 rfl
theorem dX12_sumUp_88 : decode cX12_sumUp 88 = .ok (.iaload, 1) := all_at dvX12_sumUp_45 22 rfl
theorem dX12_sumUp_89 : decode cX12_sumUp 89 = .ok (.iload_n 2, 1) := all_at dvX12_sumUp_45 23 rfl
set_option maxRecDepth 100000 in
theorem dvX12_sumUp_90 : ([(90, .if_icmp .ne 62, 3), (93, .aload_n 0, 1), (94, .iload 4, 2), (96, .iload_n 3, 1), (97, .invokevirtual 233, 3), (100, .ifCond .eq 52, 3), (103, .iload 5, 2), (105, .ifCond .ne 47, 3), (108, .aload_n 0, 1), (109, .dup, 1), (110, .getfield 223, 3), (113, .aload_n 0, 1), (114, .getfield 25, 3), (117, .iload 4, 2), (119, .iaload, 1), (120, .i2l, 1), (121, .ladd, 1), (122, .putfield 223, 3), (125, .aload_n 0, 1), (126, .dup, 1), (127, .getfield 227, 3), (130, .aload_n 0, 1), (131, .getfield 22, 3), (134, .iload 4, 2)] : List (Nat × Instr × Nat)).all (fun q => decide (decode cX12_sumUp q.1 = .ok (q.2.1, q.2.2))) = true := by decide +kernel
theorem dX12_sumUp_90 : decode cX12_sumUp 90 = .ok (.if_icmp .ne 62, 3) := all_at dvX12_sumUp_90 0 rfl
theorem dX12_sumUp_93 : decode cX12_sumUp 93 = .ok (.aload_n 0, 1) := all_at dvX12_sumUp_90 1 rfl
theorem dX12_sumUp_94 : decode cX12_sumUp 94 = .ok (.iload 4, 2) := all_at dvX12_sumUp_90 2 rfl
theorem dX12_sumUp_96 : decode cX12_sumUp 96 = .ok (.iload_n 3, 1) := all_at dvX12_sumUp_90 3 rfl
theorem dX12_sumUp_97 : decode cX12_sumUp 97 = .ok (.invokevirtual 233, 3) := all_at dvX12_sumUp_90 4 rfl
theorem dX12_sumUp_100 : decode cX12_sumUp 100 = .ok (.ifCond .eq 52, 3) := all_at dvX12_sumUp_90 5 rfl
theorem dX12_sumUp_103 : decode cX12_sumUp 103 = .ok (.iload 5, 2) := all_at dvX12_sumUp_90 6 rfl
theorem dX12_sumUp_105 : decode cX12_sumUp 105 = .ok (.ifCond .ne 47, 3) := all_at dvX12_sumUp_90 7 rfl
theorem dX12_sumUp_108 : decode cX12_sumUp 108 = .ok (.aload_n 0, 1) := all_at dvX12_sumUp_90 8 rfl
theorem dX12_sumUp_109 : decode cX12_sumUp 109 = .ok (.dup, 1) := all_at dvX12_sumUp_90 9 rfl
theorem dX12_sumUp_110 : decode cX12_sumUp 110 = .ok (.getfield 223, 3) := all_at dvX12_sumUp_90 10 rfl
theorem dX12_sumUp_113 : decode cX12_sumUp 113 = .ok (.aload_n 0, 1) := all_at dvX12_sumUp_90 11 rfl
theorem dX12_sumUp_114 : decode cX12_sumUp 114 = .ok (.getfield 25, 3) := all_at dvX12_sumUp_90 12 rfl
theorem dX12_sumUp_117 : decode cX12_sumUp 117 = .ok (.iload 4, 2) := all_at dvX12_sumUp_90 13 rfl
theorem dX12_sumUp_119 : decode cX12_sumUp 119 = .ok (.iaload, 1) := all_at dvX12_sumUp_90 14 rfl
theorem dX12_sumUp_120 : decode cX12_sumUp 120 = .ok (.i2l, 1) := all_at dvX12_sumUp_90 15 rfl
theorem dX12_sumUp_121 : decode cX12_sumUp 121 = .ok (.ladd, 1) := all_at dvX12_sumUp_90 16 rfl
theorem dX12_sumUp_122 : decode cX12_sumUp 122 = .ok (.putfield 223, 3) := all_at dvX12_sumUp_90 17 rfl
theorem dX12_sumUp_125 : decode cX12_sumUp 125 = .ok (.aload_n 0, 1) := all_at dvX12_sumUp_90 18 rfl
theorem dX12_sumUp_126 : decode cX12_sumUp 126 = .ok (.dup, 1) := all_at dvX12_sumUp_90 19 rfl
theorem dX12_sumUp_127 : decode cX12_sumUp 127 = .ok (.getfield 227, 3) := all_at dvX12_sumUp_90 20 rfl
theorem dX12_sumUp_130 : decode cX12_sumUp 130 = .ok (.aload_n 0, 1) := all_at dvX12_sumUp_90 21 rfl
theorem dX12_sumUp_131 : decode cX12_sumUp 131 = .ok (.getfield 22, 3) := all_at dvX12_sumUp_90 22 rfl
theorem dX12_sumUp_134 : decode cX12_sumUp 134 = .ok (.iload 4, 2) := all_at dvX12_sumUp_90 23 rfl
set_option maxRecDepth 100000 in
theorem dvX12_sumUp_136 : ([(136, .iaload, 1), (137, .i2l, 1), (138, .ladd, 1), (139, .putfield 227, 3), (142, .aload_n 0, 1), (143, .dup, 1), (144, .getfield 230, 3), (147, .iconst 1, 1), (148, .iadd, 1), (149, .putfield 230, 3), (152, .iinc 4 1, 3), (155, .goto (-137), 3), (158, .aload_n 0, 1), (159, .getfield 230, 3), (162, .ireturn, 1)] : List (Nat × Instr × Nat)).all (fun q => decide (decode cX12_sumUp q.1 = .ok (q.2.1, q.2.2))) = true := by decide +kernel
theorem dX12_sumUp_136 : decode cX12_sumUp 136 = .ok (.iaload, 1) := all_at dvX12_sumUp_136 0 rfl
theorem dX12_sumUp_137 : decode cX12_sumUp 137 = .ok (.i2l, 1) := all_at dvX12_sumUp_136 1 rfl
theorem dX12_sumUp_138 : decode cX12_sumUp 138 = .ok (.ladd, 1) := all_at dvX12_sumUp_136 2 rfl
theorem dX12_sumUp_139 : decode cX12_sumUp 139 = .ok (.putfield 227, 3) := all_at dvX12_sumUp_136 3 rfl
theorem dX12_sumUp_142 : decode cX12_sumUp 142 = .ok (.aload_n 0, 1) := all_at dvX12_sumUp_136 4 rfl
theorem dX12_sumUp_143 : decode cX12_sumUp 143 = .ok (.dup, 1) := all_at dvX12_sumUp_136 5 rfl
theorem dX12_sumUp_144 : decode cX12_sumUp 144 = .ok (.getfield 230, 3) := all_at dvX12_sumUp_136 6 rfl
theorem dX12_sumUp_147 : decode cX12_sumUp 147 = .ok (.iconst 1, 1) := all_at dvX12_sumUp_136 7 rfl
theorem dX12_sumUp_148 : decode cX12_sumUp 148 = .ok (.iadd, 1) := all_at dvX12_sumUp_136 8 rfl
theorem dX12_sumUp_149 : decode cX12_sumUp 149 = .ok (.putfield 230, 3) := all_at dvX12_sumUp_136 9 rfl
theorem dX12_sumUp_152 : decode cX12_sumUp 152 = .ok (.iinc 4 1, 3) := all_at dvX12_sumUp_136 10 rfl
theorem dX12_sumUp_155 : decode cX12_sumUp 155 = .ok (.goto (-137), 3) := all_at dvX12_sumUp_136 11 rfl
theorem dX12_sumUp_158 : decode cX12_sumUp 158 = .ok (.aload_n 0, 1) := all_at dvX12_sumUp_136 12 rfl
theorem dX12_sumUp_159 : decode cX12_sumUp 159 = .ok (.getfield 230, 3) := all_at dvX12_sumUp_136 13 rfl
theorem dX12_sumUp_162 : decode cX12_sumUp 162 = .ok (.ireturn, 1) := all_at dvX12_sumUp_136 14 rfl
set_option maxHeartbeats 4000000 in
set_option maxRecDepth 100000 in
/-- X12_errorOf -/
theorem c_X12_errorOf (l : Launch) (dC : Nat → ClassId) (dI : Nat → Nat → Nat) (h : Nat) (g : Nat → Nat → Nat) (ca : Nat → Nat → ClassId) (iv : Nat → Nat → Int32) (lv : Nat → Nat → Int64) (fa : Nat → Nat → Nat → Int32) (la : Nat → Nat → Nat → Int64) (hI : IX iv fa) (a : Int32) (b : Int32) (d : Int32) (h_d : 0 ≤ d.toInt ∧ d.toInt ≤ 1) : Met l yX12_errorOf (wc yX12_errorOf cX12_errorOf 8 (some .int)) ({ frames := 0, cells := 0, slots := 0, locals := 0 } : Room) (pR (dC, dI) classes (WM h g ca iv lv fa la) (TM ca) [.ref h, .int a, .int b, .int d]) (vp_Si (fun r => True)) 0 0 (fun _ => False) := by
  refine Met.ofW (cc := cX12_errorOf) (maxL := 8) (ret := (some .int)) (by decide) rfl ?_
  intro p e s m args below meth c s₁ B hml hv
  obtain ⟨rfl, hP, hK⟩ := hv
  have hx := B.exec
  have hb := B.bytes
  have hr := B.returns
  have ht := tb_tl (atoms_spec (ws := wc yX12_errorOf cX12_errorOf 8 (some .int)) B.pre)
  have hown : s.vm.findClass RX12 = some m.cls := findClass_of_methodNamed B.named
  have hlocks := B.notSynchronized
  have hl := lv_entry [.ref h, .int a, .int b, .int d] (n := 8) (Nat.le_of_ble_eq_true rfl)
  rw [lg_entry_eq]
  generalize (lg_sl [.ref h, .int a, .int b, .int d] ++ List.replicate (8 - (lg_sl [.ref h, .int a, .int b, .int d]).length) Slot.unset).toArray = ls at hl ⊢
  have hl : lv_has ls 8 [(0, .ref h), (1, .int a), (2, .int b), (3, .int d)] := hl
  refine lv_iconst (v := (-1)) hx hb dX12_errorOf_0 (by decide) ?_
  refine lv_istore (lv' := [(4, .int (-1)), (0, .ref h), (1, .int a), (2, .int b), (3, .int d)]) hx hb dX12_errorOf_1 hl (by decide) rfl (fun ls hl => ?_)
  refine lv_iconst (v := (-1)) hx hb dX12_errorOf_3 (by decide) ?_
  refine lv_istore (lv' := [(5, .int (-1)), (4, .int (-1)), (0, .ref h), (1, .int a), (2, .int b), (3, .int d)]) hx hb dX12_errorOf_4 hl (by decide) rfl (fun ls hl => ?_)
  refine lv_iconst (v := 0) hx hb dX12_errorOf_6 (by decide) ?_
  refine lv_istore (lv' := [(6, .int 0), (5, .int (-1)), (4, .int (-1)), (0, .ref h), (1, .int a), (2, .int b), (3, .int d)]) hx hb dX12_errorOf_7 hl (by decide) rfl (fun ls hl => ?_)
  have lp645 : ∀ (nn645 : Nat) (x644_6 : Int32) (x644_5 : Int32) (x644_4 : Int32), 0 ≤ x644_6.toInt ∧ x644_6.toInt ≤ 30 → (-1) ≤ x644_5.toInt ∧ x644_5.toInt ≤ 29 → (-1) ≤ x644_4.toInt ∧ x644_4.toInt ≤ 29 → 30 - x644_6.toInt < (nn645 : Int) → ∀ (ls : Array Slot), lv_has ls 8 [(6, .int x644_6), (5, .int x644_5), (4, .int x644_4), (0, .ref h), (1, .int a), (2, .int b), (3, .int d)] → W p l e ({ frames := 0, cells := 0, slots := 0, locals := 0 } : Room) s m ([.ref h, .int a, .int b, .int d] : List Value).toArray below meth c s.heap [] 0 0 (MQ below (vp_Si (fun r => True)) ([.ref h, .int a, .int b, .int d] : List Value).toArray s 0 0 (fun _ => False)) (F0 m 9 ls []) := by
    intro nn645
    induction nn645 with
    | zero => intro x644_6 x644_5 x644_4 hx644_6 hx644_5 hx644_4 hm645; exfalso; omega
    | succ nn645 ih645 =>
      intro x644_6 x644_5 x644_4 hx644_6 hx644_5 hx644_4 hm645 ls hl
      refine lv_iload hx hb dX12_errorOf_9 (lv_at hl 0 rfl) ?_
      refine lv_aload_n hx hb dX12_errorOf_11 rfl (lv_at hl 3 rfl) ?_
      have i_12_13 : 0 ≤ (iv 12 13).toInt ∧ (iv 12 13).toInt ≤ 30 := hI.1 12 13
      refine gM_12_13 hx hb ht hown hK hP m_1152 (v := (iv 12 13)) rfl dX12_errorOf_12 ?_
      refine lv_icmp_ge (tgt := 80) hx hb dX12_errorOf_15 (by decide) (fun c646 => ?_) (fun c646 => ?_)
      · have fc646 := z_le (rfl : ((iv 12 13)).toInt = _) (rfl : (x644_6).toInt = _) c646
        refine lv_iload hx hb dX12_errorOf_80 (lv_at hl 2 rfl) ?_
        refine lv_if_ge (tgt := 92) hx hb dX12_errorOf_82 (by decide) (fun c647 => ?_) (fun c647 => ?_)
        · have fc647 := z_le (by decide : (0 : Int32).toInt = 0) (rfl : (x644_4).toInt = _) c647
          refine lv_aload_n hx hb dX12_errorOf_92 rfl (lv_at hl 3 rfl) ?_
          refine gM_12_15 hx hb ht hown hK hP m_1154 dX12_errorOf_93 ?_
          refine lv_iload hx hb dX12_errorOf_96 (lv_at hl 2 rfl) ?_
          refine lv_if_ge (tgt := 106) hx hb dX12_errorOf_98 (by decide) (fun c648 => ?_) (fun c648 => ?_)
          · skip
            refine lv_iload hx hb dX12_errorOf_106 (lv_at hl 2 rfl) ?_
            refine lM_12_15 hx hb hK hP (f := (fa 12 15)) rfl (vp_in_iff.mpr ⟨by omega, by omega⟩) dX12_errorOf_108 ?_
            refine lv_topi (fun v649 ev649 => ?_)
            refine lv_istore (lv' := [(6, .int v649), (5, .int x644_5), (4, .int x644_4), (0, .ref h), (1, .int a), (2, .int b), (3, .int d)]) hx hb dX12_errorOf_109 hl (by decide) rfl (fun ls hl => ?_)
            refine lv_aload_n hx hb dX12_errorOf_111 rfl (lv_at hl 3 rfl) ?_
            refine gM_12_15 hx hb ht hown hK hP m_1154 dX12_errorOf_112 ?_
            refine lv_iload hx hb dX12_errorOf_115 (lv_at hl 1 rfl) ?_
            refine lv_if_ge (tgt := 125) hx hb dX12_errorOf_117 (by decide) (fun c650 => ?_) (fun c650 => ?_)
            · have fc650 := z_le (by decide : (0 : Int32).toInt = 0) (rfl : (x644_5).toInt = _) c650
              refine lv_iload hx hb dX12_errorOf_125 (lv_at hl 1 rfl) ?_
              refine lM_12_15 hx hb hK hP (f := (fa 12 15)) rfl (vp_in_iff.mpr ⟨by omega, by omega⟩) dX12_errorOf_127 ?_
              refine lv_topi (fun v651 ev651 => ?_)
              refine lv_istore (lv' := [(7, .int v651), (6, .int v649), (5, .int x644_5), (4, .int x644_4), (0, .ref h), (1, .int a), (2, .int b), (3, .int d)]) hx hb dX12_errorOf_128 hl (by decide) rfl (fun ls hl => ?_)
              refine lv_iload_n hx hb dX12_errorOf_130 rfl (lv_at hl 7 rfl) ?_
              refine lv_iload hx hb dX12_errorOf_131 (lv_at hl 1 rfl) ?_
              refine lv_iload hx hb dX12_errorOf_133 (lv_at hl 0 rfl) ?_
              refine lv_icmp_le (tgt := 142) hx hb dX12_errorOf_135 (by decide) (fun c652 => ?_) (fun c652 => ?_)
              · have fc652 := z_le (rfl : (v649).toInt = _) (rfl : (v651).toInt = _) c652
                refine lv_iconst (v := 0) hx hb dX12_errorOf_142 (by decide) ?_
                refine lv_icmp_ne (tgt := 151) hx hb dX12_errorOf_143 (by decide) (fun c653 => ?_) (fun c653 => ?_)
                · have fc653 := z_ne (rfl : (d).toInt = _) (by decide : (0 : Int32).toInt = 0) c653
                  refine lv_iload hx hb dX12_errorOf_151 (lv_at hl 0 rfl) ?_
                  exact W.iret (v := v651) hx hb hr (fun t ht9 hW => ⟨v651, rfl, trivial, ht9⟩) (fun q hq => by cases hq) dX12_errorOf_153
                · have fc653 := z_eq (rfl : (d).toInt = _) (by decide : (0 : Int32).toInt = 0) c653
                  refine lv_iload hx hb dX12_errorOf_146 (lv_at hl 1 rfl) ?_
                  refine lv_goto (tgt := 153) hx hb dX12_errorOf_148 (by decide) ?_
                  exact W.iret (v := v649) hx hb hr (fun t ht9 hW => ⟨v649, rfl, trivial, ht9⟩) (fun q hq => by cases hq) dX12_errorOf_153
              · have fc652 := z_nle (rfl : (v649).toInt = _) (rfl : (v651).toInt = _) c652
                refine lv_iconst (v := 1) hx hb dX12_errorOf_138 (by decide) ?_
                refine lv_goto (tgt := 143) hx hb dX12_errorOf_139 (by decide) ?_
                refine lv_icmp_ne (tgt := 151) hx hb dX12_errorOf_143 (by decide) (fun c654 => ?_) (fun c654 => ?_)
                · have fc654 := z_ne (rfl : (d).toInt = _) (by decide : (1 : Int32).toInt = 1) c654
                  refine lv_iload hx hb dX12_errorOf_151 (lv_at hl 0 rfl) ?_
                  exact W.iret (v := v651) hx hb hr (fun t ht9 hW => ⟨v651, rfl, trivial, ht9⟩) (fun q hq => by cases hq) dX12_errorOf_153
                · have fc654 := z_eq (rfl : (d).toInt = _) (by decide : (1 : Int32).toInt = 1) c654
                  refine lv_iload hx hb dX12_errorOf_146 (lv_at hl 1 rfl) ?_
                  refine lv_goto (tgt := 153) hx hb dX12_errorOf_148 (by decide) ?_
                  exact W.iret (v := v649) hx hb hr (fun t ht9 hW => ⟨v649, rfl, trivial, ht9⟩) (fun q hq => by cases hq) dX12_errorOf_153
            · have fc650 := z_nle (by decide : (0 : Int32).toInt = 0) (rfl : (x644_5).toInt = _) c650
              refine lv_iload hx hb dX12_errorOf_120 (lv_at hl 2 rfl) ?_
              refine lv_goto (tgt := 127) hx hb dX12_errorOf_122 (by decide) ?_
              refine lM_12_15 hx hb hK hP (f := (fa 12 15)) rfl (vp_in_iff.mpr ⟨by omega, by omega⟩) dX12_errorOf_127 ?_
              refine lv_topi (fun v655 ev655 => ?_)
              obtain rfl : v649 = v655 := ev649.trans ev655.symm
              refine lv_istore (lv' := [(7, .int v649), (6, .int v649), (5, .int x644_5), (4, .int x644_4), (0, .ref h), (1, .int a), (2, .int b), (3, .int d)]) hx hb dX12_errorOf_128 hl (by decide) rfl (fun ls hl => ?_)
              refine lv_iload_n hx hb dX12_errorOf_130 rfl (lv_at hl 7 rfl) ?_
              refine lv_iload hx hb dX12_errorOf_131 (lv_at hl 1 rfl) ?_
              refine lv_iload hx hb dX12_errorOf_133 (lv_at hl 0 rfl) ?_
              refine lv_icmp_le (tgt := 142) hx hb dX12_errorOf_135 (by decide) (fun c656 => ?_) (fun c656 => ?_)
              · have fc656 := z_le (rfl : (v649).toInt = _) (rfl : (v649).toInt = _) c656
                refine lv_iconst (v := 0) hx hb dX12_errorOf_142 (by decide) ?_
                refine lv_icmp_ne (tgt := 151) hx hb dX12_errorOf_143 (by decide) (fun c657 => ?_) (fun c657 => ?_)
                · have fc657 := z_ne (rfl : (d).toInt = _) (by decide : (0 : Int32).toInt = 0) c657
                  refine lv_iload hx hb dX12_errorOf_151 (lv_at hl 0 rfl) ?_
                  exact W.iret (v := v649) hx hb hr (fun t ht9 hW => ⟨v649, rfl, trivial, ht9⟩) (fun q hq => by cases hq) dX12_errorOf_153
                · have fc657 := z_eq (rfl : (d).toInt = _) (by decide : (0 : Int32).toInt = 0) c657
                  refine lv_iload hx hb dX12_errorOf_146 (lv_at hl 1 rfl) ?_
                  refine lv_goto (tgt := 153) hx hb dX12_errorOf_148 (by decide) ?_
                  exact W.iret (v := v649) hx hb hr (fun t ht9 hW => ⟨v649, rfl, trivial, ht9⟩) (fun q hq => by cases hq) dX12_errorOf_153
              · have fc656 := z_nle (rfl : (v649).toInt = _) (rfl : (v649).toInt = _) c656
                refine lv_iconst (v := 1) hx hb dX12_errorOf_138 (by decide) ?_
                refine lv_goto (tgt := 143) hx hb dX12_errorOf_139 (by decide) ?_
                refine lv_icmp_ne (tgt := 151) hx hb dX12_errorOf_143 (by decide) (fun c658 => ?_) (fun c658 => ?_)
                · have fc658 := z_ne (rfl : (d).toInt = _) (by decide : (1 : Int32).toInt = 1) c658
                  refine lv_iload hx hb dX12_errorOf_151 (lv_at hl 0 rfl) ?_
                  exact W.iret (v := v649) hx hb hr (fun t ht9 hW => ⟨v649, rfl, trivial, ht9⟩) (fun q hq => by cases hq) dX12_errorOf_153
                · have fc658 := z_eq (rfl : (d).toInt = _) (by decide : (1 : Int32).toInt = 1) c658
                  refine lv_iload hx hb dX12_errorOf_146 (lv_at hl 1 rfl) ?_
                  refine lv_goto (tgt := 153) hx hb dX12_errorOf_148 (by decide) ?_
                  exact W.iret (v := v649) hx hb hr (fun t ht9 hW => ⟨v649, rfl, trivial, ht9⟩) (fun q hq => by cases hq) dX12_errorOf_153
          · have fc648 := z_nle (by decide : (0 : Int32).toInt = 0) (rfl : (x644_4).toInt = _) c648; exfalso; omega
        · have fc647 := z_nle (by decide : (0 : Int32).toInt = 0) (rfl : (x644_4).toInt = _) c647
          refine lv_iload hx hb dX12_errorOf_85 (lv_at hl 1 rfl) ?_
          refine lv_if_ge (tgt := 92) hx hb dX12_errorOf_87 (by decide) (fun c659 => ?_) (fun c659 => ?_)
          · have fc659 := z_le (by decide : (0 : Int32).toInt = 0) (rfl : (x644_5).toInt = _) c659
            refine lv_aload_n hx hb dX12_errorOf_92 rfl (lv_at hl 3 rfl) ?_
            refine gM_12_15 hx hb ht hown hK hP m_1154 dX12_errorOf_93 ?_
            refine lv_iload hx hb dX12_errorOf_96 (lv_at hl 2 rfl) ?_
            refine lv_if_ge (tgt := 106) hx hb dX12_errorOf_98 (by decide) (fun c660 => ?_) (fun c660 => ?_)
            · have fc660 := z_le (by decide : (0 : Int32).toInt = 0) (rfl : (x644_4).toInt = _) c660; exfalso; omega
            · skip
              refine lv_iload hx hb dX12_errorOf_101 (lv_at hl 1 rfl) ?_
              refine lv_goto (tgt := 108) hx hb dX12_errorOf_103 (by decide) ?_
              refine lM_12_15 hx hb hK hP (f := (fa 12 15)) rfl (vp_in_iff.mpr ⟨by omega, by omega⟩) dX12_errorOf_108 ?_
              refine lv_topi (fun v661 ev661 => ?_)
              refine lv_istore (lv' := [(6, .int v661), (5, .int x644_5), (4, .int x644_4), (0, .ref h), (1, .int a), (2, .int b), (3, .int d)]) hx hb dX12_errorOf_109 hl (by decide) rfl (fun ls hl => ?_)
              refine lv_aload_n hx hb dX12_errorOf_111 rfl (lv_at hl 3 rfl) ?_
              refine gM_12_15 hx hb ht hown hK hP m_1154 dX12_errorOf_112 ?_
              refine lv_iload hx hb dX12_errorOf_115 (lv_at hl 1 rfl) ?_
              refine lv_if_ge (tgt := 125) hx hb dX12_errorOf_117 (by decide) (fun c662 => ?_) (fun c662 => ?_)
              · skip
                refine lv_iload hx hb dX12_errorOf_125 (lv_at hl 1 rfl) ?_
                refine lM_12_15 hx hb hK hP (f := (fa 12 15)) rfl (vp_in_iff.mpr ⟨by omega, by omega⟩) dX12_errorOf_127 ?_
                refine lv_topi (fun v663 ev663 => ?_)
                obtain rfl : v661 = v663 := ev661.trans ev663.symm
                refine lv_istore (lv' := [(7, .int v661), (6, .int v661), (5, .int x644_5), (4, .int x644_4), (0, .ref h), (1, .int a), (2, .int b), (3, .int d)]) hx hb dX12_errorOf_128 hl (by decide) rfl (fun ls hl => ?_)
                refine lv_iload_n hx hb dX12_errorOf_130 rfl (lv_at hl 7 rfl) ?_
                refine lv_iload hx hb dX12_errorOf_131 (lv_at hl 1 rfl) ?_
                refine lv_iload hx hb dX12_errorOf_133 (lv_at hl 0 rfl) ?_
                refine lv_icmp_le (tgt := 142) hx hb dX12_errorOf_135 (by decide) (fun c664 => ?_) (fun c664 => ?_)
                · have fc664 := z_le (rfl : (v661).toInt = _) (rfl : (v661).toInt = _) c664
                  refine lv_iconst (v := 0) hx hb dX12_errorOf_142 (by decide) ?_
                  refine lv_icmp_ne (tgt := 151) hx hb dX12_errorOf_143 (by decide) (fun c665 => ?_) (fun c665 => ?_)
                  · have fc665 := z_ne (rfl : (d).toInt = _) (by decide : (0 : Int32).toInt = 0) c665
                    refine lv_iload hx hb dX12_errorOf_151 (lv_at hl 0 rfl) ?_
                    exact W.iret (v := v661) hx hb hr (fun t ht9 hW => ⟨v661, rfl, trivial, ht9⟩) (fun q hq => by cases hq) dX12_errorOf_153
                  · have fc665 := z_eq (rfl : (d).toInt = _) (by decide : (0 : Int32).toInt = 0) c665
                    refine lv_iload hx hb dX12_errorOf_146 (lv_at hl 1 rfl) ?_
                    refine lv_goto (tgt := 153) hx hb dX12_errorOf_148 (by decide) ?_
                    exact W.iret (v := v661) hx hb hr (fun t ht9 hW => ⟨v661, rfl, trivial, ht9⟩) (fun q hq => by cases hq) dX12_errorOf_153
                · have fc664 := z_nle (rfl : (v661).toInt = _) (rfl : (v661).toInt = _) c664
                  refine lv_iconst (v := 1) hx hb dX12_errorOf_138 (by decide) ?_
                  refine lv_goto (tgt := 143) hx hb dX12_errorOf_139 (by decide) ?_
                  refine lv_icmp_ne (tgt := 151) hx hb dX12_errorOf_143 (by decide) (fun c666 => ?_) (fun c666 => ?_)
                  · have fc666 := z_ne (rfl : (d).toInt = _) (by decide : (1 : Int32).toInt = 1) c666
                    refine lv_iload hx hb dX12_errorOf_151 (lv_at hl 0 rfl) ?_
                    exact W.iret (v := v661) hx hb hr (fun t ht9 hW => ⟨v661, rfl, trivial, ht9⟩) (fun q hq => by cases hq) dX12_errorOf_153
                  · have fc666 := z_eq (rfl : (d).toInt = _) (by decide : (1 : Int32).toInt = 1) c666
                    refine lv_iload hx hb dX12_errorOf_146 (lv_at hl 1 rfl) ?_
                    refine lv_goto (tgt := 153) hx hb dX12_errorOf_148 (by decide) ?_
                    exact W.iret (v := v661) hx hb hr (fun t ht9 hW => ⟨v661, rfl, trivial, ht9⟩) (fun q hq => by cases hq) dX12_errorOf_153
              · have fc662 := z_nle (by decide : (0 : Int32).toInt = 0) (rfl : (x644_5).toInt = _) c662; exfalso; omega
          · have fc659 := z_nle (by decide : (0 : Int32).toInt = 0) (rfl : (x644_5).toInt = _) c659
            refine lv_iconst (v := 0) hx hb dX12_errorOf_90 (by decide) ?_
            exact W.iret (v := 0) hx hb hr (fun t ht9 hW => ⟨0, rfl, trivial, ht9⟩) (fun q hq => by cases hq) dX12_errorOf_91
      · have fc646 := z_nle (rfl : ((iv 12 13)).toInt = _) (rfl : (x644_6).toInt = _) c646
        refine lv_aload_n hx hb dX12_errorOf_18 rfl (lv_at hl 3 rfl) ?_
        refine gM_12_14 hx hb ht hown hK hP m_1153 dX12_errorOf_19 ?_
        refine lv_iload hx hb dX12_errorOf_22 (lv_at hl 0 rfl) ?_
        refine lM_12_14 hx hb hK hP (f := (fa 12 14)) rfl (vp_in_iff.mpr ⟨by omega, by omega⟩) dX12_errorOf_24 ?_
        refine lv_topi (fun v667 ev667 => ?_)
        refine lv_iload_n hx hb dX12_errorOf_25 rfl (lv_at hl 4 rfl) ?_
        refine lv_icmp_ne (tgt := 74) hx hb dX12_errorOf_26 (by decide) (fun c668 => ?_) (fun c668 => ?_)
        · have fc668 := z_ne (rfl : (v667).toInt = _) (rfl : (a).toInt = _) c668
          obtain ⟨v669, ev669⟩ : ∃ y : Int32, y = x644_6 + 1 := ⟨_, rfl⟩
          have tv669 := z_add ev669 rfl (by decide : (1 : Int32).toInt = 1) (by omega) (by omega)
          refine lv_iinc (v := v669) (lv' := [(6, .int v669), (5, .int x644_5), (4, .int x644_4), (0, .ref h), (1, .int a), (2, .int b), (3, .int d)]) hx hb dX12_errorOf_74 hl (k := 0) rfl (by rw [ev669]; rfl) (by decide) rfl (fun ls hl => ?_)
          refine lv_goto (tgt := 9) hx hb dX12_errorOf_77 (by decide) ?_
          exact ih645 v669 x644_5 x644_4 ⟨by omega, by omega⟩ ⟨by omega, by omega⟩ ⟨by omega, by omega⟩ (by omega) ls (lv_sub hl [0, 1, 2, 3, 4, 5, 6] rfl)
        · have fc668 := z_eq (rfl : (v667).toInt = _) (rfl : (a).toInt = _) c668
          refine lv_aload_n hx hb dX12_errorOf_29 rfl (lv_at hl 3 rfl) ?_
          refine gM_12_16 hx hb ht hown hK hP m_1155 dX12_errorOf_30 ?_
          refine lv_iload hx hb dX12_errorOf_33 (lv_at hl 0 rfl) ?_
          refine lM_12_16 hx hb hK hP (f := (fa 12 16)) rfl (vp_in_iff.mpr ⟨by omega, by omega⟩) dX12_errorOf_35 ?_
          refine lv_topi (fun v670 ev670 => ?_)
          refine lv_iload_n hx hb dX12_errorOf_36 rfl (lv_at hl 5 rfl) ?_
          refine lv_icmp_gt (tgt := 45) hx hb dX12_errorOf_37 (by decide) (fun c671 => ?_) (fun c671 => ?_)
          · have fc671 := z_lt (rfl : (b).toInt = _) (rfl : (v670).toInt = _) c671
            refine lv_iload hx hb dX12_errorOf_45 (lv_at hl 2 rfl) ?_
            refine lv_istore (lv' := [(4, .int x644_4), (6, .int x644_6), (5, .int x644_5), (0, .ref h), (1, .int a), (2, .int b), (3, .int d)]) hx hb dX12_errorOf_47 hl (by decide) rfl (fun ls hl => ?_)
            refine lv_aload_n hx hb dX12_errorOf_49 rfl (lv_at hl 3 rfl) ?_
            refine gM_12_16 hx hb ht hown hK hP m_1155 dX12_errorOf_50 ?_
            refine lv_iload hx hb dX12_errorOf_53 (lv_at hl 1 rfl) ?_
            refine lM_12_16 hx hb hK hP (f := (fa 12 16)) rfl (vp_in_iff.mpr ⟨by omega, by omega⟩) dX12_errorOf_55 ?_
            refine lv_topi (fun v672 ev672 => ?_)
            obtain rfl : v670 = v672 := ev670.trans ev672.symm
            refine lv_iload_n hx hb dX12_errorOf_56 rfl (lv_at hl 5 rfl) ?_
            refine lv_icmp_le (tgt := 70) hx hb dX12_errorOf_57 (by decide) (fun c673 => ?_) (fun c673 => ?_)
            · have fc673 := z_le (rfl : (v670).toInt = _) (rfl : (b).toInt = _) c673
              refine lv_iload hx hb dX12_errorOf_70 (lv_at hl 2 rfl) ?_
              refine lv_istore (lv' := [(5, .int x644_5), (4, .int x644_4), (6, .int x644_6), (0, .ref h), (1, .int a), (2, .int b), (3, .int d)]) hx hb dX12_errorOf_72 hl (by decide) rfl (fun ls hl => ?_)
              obtain ⟨v674, ev674⟩ : ∃ y : Int32, y = x644_6 + 1 := ⟨_, rfl⟩
              have tv674 := z_add ev674 rfl (by decide : (1 : Int32).toInt = 1) (by omega) (by omega)
              refine lv_iinc (v := v674) (lv' := [(6, .int v674), (5, .int x644_5), (4, .int x644_4), (0, .ref h), (1, .int a), (2, .int b), (3, .int d)]) hx hb dX12_errorOf_74 hl (k := 2) rfl (by rw [ev674]; rfl) (by decide) rfl (fun ls hl => ?_)
              refine lv_goto (tgt := 9) hx hb dX12_errorOf_77 (by decide) ?_
              exact ih645 v674 x644_5 x644_4 ⟨by omega, by omega⟩ ⟨by omega, by omega⟩ ⟨by omega, by omega⟩ (by omega) ls (lv_sub hl [0, 1, 2, 3, 4, 5, 6] rfl)
            · have fc673 := z_nle (rfl : (v670).toInt = _) (rfl : (b).toInt = _) c673
              refine lv_iload hx hb dX12_errorOf_60 (lv_at hl 2 rfl) ?_
              refine lv_if_ge (tgt := 70) hx hb dX12_errorOf_62 (by decide) (fun c675 => ?_) (fun c675 => ?_)
              · have fc675 := z_le (by decide : (0 : Int32).toInt = 0) (rfl : (x644_5).toInt = _) c675
                refine lv_iload hx hb dX12_errorOf_70 (lv_at hl 2 rfl) ?_
                refine lv_istore (lv' := [(5, .int x644_5), (4, .int x644_4), (6, .int x644_6), (0, .ref h), (1, .int a), (2, .int b), (3, .int d)]) hx hb dX12_errorOf_72 hl (by decide) rfl (fun ls hl => ?_)
                obtain ⟨v676, ev676⟩ : ∃ y : Int32, y = x644_6 + 1 := ⟨_, rfl⟩
                have tv676 := z_add ev676 rfl (by decide : (1 : Int32).toInt = 1) (by omega) (by omega)
                refine lv_iinc (v := v676) (lv' := [(6, .int v676), (5, .int x644_5), (4, .int x644_4), (0, .ref h), (1, .int a), (2, .int b), (3, .int d)]) hx hb dX12_errorOf_74 hl (k := 2) rfl (by rw [ev676]; rfl) (by decide) rfl (fun ls hl => ?_)
                refine lv_goto (tgt := 9) hx hb dX12_errorOf_77 (by decide) ?_
                exact ih645 v676 x644_5 x644_4 ⟨by omega, by omega⟩ ⟨by omega, by omega⟩ ⟨by omega, by omega⟩ (by omega) ls (lv_sub hl [0, 1, 2, 3, 4, 5, 6] rfl)
              · have fc675 := z_nle (by decide : (0 : Int32).toInt = 0) (rfl : (x644_5).toInt = _) c675
                refine lv_iload hx hb dX12_errorOf_65 (lv_at hl 1 rfl) ?_
                refine lv_goto (tgt := 72) hx hb dX12_errorOf_67 (by decide) ?_
                refine lv_istore (lv' := [(5, .int x644_6), (4, .int x644_4), (6, .int x644_6), (0, .ref h), (1, .int a), (2, .int b), (3, .int d)]) hx hb dX12_errorOf_72 hl (by decide) rfl (fun ls hl => ?_)
                obtain ⟨v677, ev677⟩ : ∃ y : Int32, y = x644_6 + 1 := ⟨_, rfl⟩
                have tv677 := z_add ev677 rfl (by decide : (1 : Int32).toInt = 1) (by omega) (by omega)
                refine lv_iinc (v := v677) (lv' := [(6, .int v677), (5, .int x644_6), (4, .int x644_4), (0, .ref h), (1, .int a), (2, .int b), (3, .int d)]) hx hb dX12_errorOf_74 hl (k := 2) rfl (by rw [ev677]; rfl) (by decide) rfl (fun ls hl => ?_)
                refine lv_goto (tgt := 9) hx hb dX12_errorOf_77 (by decide) ?_
                exact ih645 v677 x644_6 x644_4 ⟨by omega, by omega⟩ ⟨by omega, by omega⟩ ⟨by omega, by omega⟩ (by omega) ls (lv_sub hl [0, 1, 2, 3, 4, 5, 6] rfl)
          · have fc671 := z_nlt (rfl : (b).toInt = _) (rfl : (v670).toInt = _) c671
            refine lv_iload hx hb dX12_errorOf_40 (lv_at hl 0 rfl) ?_
            refine lv_goto (tgt := 47) hx hb dX12_errorOf_42 (by decide) ?_
            refine lv_istore (lv' := [(4, .int x644_6), (6, .int x644_6), (5, .int x644_5), (0, .ref h), (1, .int a), (2, .int b), (3, .int d)]) hx hb dX12_errorOf_47 hl (by decide) rfl (fun ls hl => ?_)
            refine lv_aload_n hx hb dX12_errorOf_49 rfl (lv_at hl 3 rfl) ?_
            refine gM_12_16 hx hb ht hown hK hP m_1155 dX12_errorOf_50 ?_
            refine lv_iload hx hb dX12_errorOf_53 (lv_at hl 1 rfl) ?_
            refine lM_12_16 hx hb hK hP (f := (fa 12 16)) rfl (vp_in_iff.mpr ⟨by omega, by omega⟩) dX12_errorOf_55 ?_
            refine lv_topi (fun v678 ev678 => ?_)
            obtain rfl : v670 = v678 := ev670.trans ev678.symm
            refine lv_iload_n hx hb dX12_errorOf_56 rfl (lv_at hl 5 rfl) ?_
            refine lv_icmp_le (tgt := 70) hx hb dX12_errorOf_57 (by decide) (fun c679 => ?_) (fun c679 => ?_)
            · have fc679 := z_le (rfl : (v670).toInt = _) (rfl : (b).toInt = _) c679
              refine lv_iload hx hb dX12_errorOf_70 (lv_at hl 2 rfl) ?_
              refine lv_istore (lv' := [(5, .int x644_5), (4, .int x644_6), (6, .int x644_6), (0, .ref h), (1, .int a), (2, .int b), (3, .int d)]) hx hb dX12_errorOf_72 hl (by decide) rfl (fun ls hl => ?_)
              obtain ⟨v680, ev680⟩ : ∃ y : Int32, y = x644_6 + 1 := ⟨_, rfl⟩
              have tv680 := z_add ev680 rfl (by decide : (1 : Int32).toInt = 1) (by omega) (by omega)
              refine lv_iinc (v := v680) (lv' := [(6, .int v680), (5, .int x644_5), (4, .int x644_6), (0, .ref h), (1, .int a), (2, .int b), (3, .int d)]) hx hb dX12_errorOf_74 hl (k := 2) rfl (by rw [ev680]; rfl) (by decide) rfl (fun ls hl => ?_)
              refine lv_goto (tgt := 9) hx hb dX12_errorOf_77 (by decide) ?_
              exact ih645 v680 x644_5 x644_6 ⟨by omega, by omega⟩ ⟨by omega, by omega⟩ ⟨by omega, by omega⟩ (by omega) ls (lv_sub hl [0, 1, 2, 3, 4, 5, 6] rfl)
            · have fc679 := z_nle (rfl : (v670).toInt = _) (rfl : (b).toInt = _) c679
              refine lv_iload hx hb dX12_errorOf_60 (lv_at hl 2 rfl) ?_
              refine lv_if_ge (tgt := 70) hx hb dX12_errorOf_62 (by decide) (fun c681 => ?_) (fun c681 => ?_)
              · have fc681 := z_le (by decide : (0 : Int32).toInt = 0) (rfl : (x644_5).toInt = _) c681
                refine lv_iload hx hb dX12_errorOf_70 (lv_at hl 2 rfl) ?_
                refine lv_istore (lv' := [(5, .int x644_5), (4, .int x644_6), (6, .int x644_6), (0, .ref h), (1, .int a), (2, .int b), (3, .int d)]) hx hb dX12_errorOf_72 hl (by decide) rfl (fun ls hl => ?_)
                obtain ⟨v682, ev682⟩ : ∃ y : Int32, y = x644_6 + 1 := ⟨_, rfl⟩
                have tv682 := z_add ev682 rfl (by decide : (1 : Int32).toInt = 1) (by omega) (by omega)
                refine lv_iinc (v := v682) (lv' := [(6, .int v682), (5, .int x644_5), (4, .int x644_6), (0, .ref h), (1, .int a), (2, .int b), (3, .int d)]) hx hb dX12_errorOf_74 hl (k := 2) rfl (by rw [ev682]; rfl) (by decide) rfl (fun ls hl => ?_)
                refine lv_goto (tgt := 9) hx hb dX12_errorOf_77 (by decide) ?_
                exact ih645 v682 x644_5 x644_6 ⟨by omega, by omega⟩ ⟨by omega, by omega⟩ ⟨by omega, by omega⟩ (by omega) ls (lv_sub hl [0, 1, 2, 3, 4, 5, 6] rfl)
              · have fc681 := z_nle (by decide : (0 : Int32).toInt = 0) (rfl : (x644_5).toInt = _) c681
                refine lv_iload hx hb dX12_errorOf_65 (lv_at hl 1 rfl) ?_
                refine lv_goto (tgt := 72) hx hb dX12_errorOf_67 (by decide) ?_
                refine lv_istore (lv' := [(5, .int x644_6), (4, .int x644_6), (6, .int x644_6), (0, .ref h), (1, .int a), (2, .int b), (3, .int d)]) hx hb dX12_errorOf_72 hl (by decide) rfl (fun ls hl => ?_)
                obtain ⟨v683, ev683⟩ : ∃ y : Int32, y = x644_6 + 1 := ⟨_, rfl⟩
                have tv683 := z_add ev683 rfl (by decide : (1 : Int32).toInt = 1) (by omega) (by omega)
                refine lv_iinc (v := v683) (lv' := [(6, .int v683), (5, .int x644_6), (4, .int x644_6), (0, .ref h), (1, .int a), (2, .int b), (3, .int d)]) hx hb dX12_errorOf_74 hl (k := 2) rfl (by rw [ev683]; rfl) (by decide) rfl (fun ls hl => ?_)
                refine lv_goto (tgt := 9) hx hb dX12_errorOf_77 (by decide) ?_
                exact ih645 v683 x644_6 x644_6 ⟨by omega, by omega⟩ ⟨by omega, by omega⟩ ⟨by omega, by omega⟩ (by omega) ls (lv_sub hl [0, 1, 2, 3, 4, 5, 6] rfl)
  exact lp645 31 0 (-1) (-1) ⟨by decide, by decide⟩ ⟨by decide, by decide⟩ ⟨by decide, by decide⟩ (by first | decide | omega) ls (lv_sub hl [0, 1, 2, 3, 4, 5, 6] rfl)
set_option maxHeartbeats 4000000 in
set_option maxRecDepth 100000 in
/-- X12_error -/
theorem c_X12_error (l : Launch) (dC : Nat → ClassId) (dI : Nat → Nat → Nat) (h : Nat) (g : Nat → Nat → Nat) (ca : Nat → Nat → ClassId) (iv : Nat → Nat → Int32) (lv : Nat → Nat → Int64) (fa : Nat → Nat → Nat → Int32) (la : Nat → Nat → Nat → Int64) (hI : IX iv fa) (a : Int32) (b : Int32) (d : Int32) : Met l yX12_error (wc yX12_error cX12_error 4 (some .int)) ({ frames := 2, cells := 0, slots := 0, locals := 45 } : Room) (pR (dC, dI) classes (WM h g ca iv lv fa la) (TM ca) [.ref h, .int a, .int b, .int d]) (vp_Si (fun r => True)) 0 0 (fun _ => False) := by
  refine Met.ofW (cc := cX12_error) (maxL := 4) (ret := (some .int)) (by decide) rfl ?_
  intro p e s m args below meth c s₁ B hml hv
  obtain ⟨rfl, hP, hK⟩ := hv
  have hx := B.exec
  have hb := B.bytes
  have hr := B.returns
  have ht := tb_tl (atoms_spec (ws := wc yX12_error cX12_error 4 (some .int)) B.pre)
  have hown : s.vm.findClass RX12 = some m.cls := findClass_of_methodNamed B.named
  have hlocks := B.notSynchronized
  have hl := lv_entry [.ref h, .int a, .int b, .int d] (n := 4) (Nat.le_of_ble_eq_true rfl)
  rw [lg_entry_eq]
  generalize (lg_sl [.ref h, .int a, .int b, .int d] ++ List.replicate (4 - (lg_sl [.ref h, .int a, .int b, .int d]).length) Slot.unset).toArray = ls at hl ⊢
  have hl : lv_has ls 4 [(0, .ref h), (1, .int a), (2, .int b), (3, .int d)] := hl
  refine lv_iload_n hx hb dX12_error_0 rfl (lv_at hl 1 rfl) ?_
  refine lv_i2l (v := (a.toInt64)) hx hb dX12_error_1 rfl ?_
  refine lv_lconst (v := 0) hx hb dX12_error_2 (by decide) ?_
  refine lv_ldc2 hx hb hown (ht _ m_1391) dX12_error_3 ?_
  refine vp_callSi (W.runS (As := [.long (a.toInt64), .long 0, .long 3]) (rest := []) ⟨hx, hb, hml, hown, ht⟩ (c_X12_in l dC dI (a.toInt64) 0 3 (a.toInt) (0) (3) ((Int32.toInt_toInt64 a).trans rfl) (by decide : (0 : Int64).toInt = 0) (by decide : (3 : Int64).toInt = 3)) (kS 3 ht m_1370 m_1371 m_89 m_1372 rfl rfl hd_X12_in_v ⟨Nat.le_of_ble_eq_true rfl, Nat.le_of_ble_eq_true rfl⟩) (sR noP (hK.sub (tys' := []) [] rfl)) rfl rfl hl.1 rfl (lv_room (Nat.le_of_ble_eq_true rfl)) dX12_error_6 ⟨Nat.le_of_ble_eq_true rfl, Nat.le_of_ble_eq_true rfl⟩) (fun r1 hr1 => ?_)
  rcases hr1 with ⟨rfl, fr1⟩ | ⟨rfl, fr1⟩
  · skip
    refine lv_if_eq (tgt := 29) hx hb dX12_error_9 (by decide) (fun c2 => ?_) (fun c2 => ?_)
    · exact absurd c2 (by decide)
    · skip
      refine lv_iload_n hx hb dX12_error_12 rfl (lv_at hl 2 rfl) ?_
      refine vp_callSi (W.runS (As := [.int b]) (rest := []) ⟨hx, hb, hml, hown, ht⟩ (c_X12_isDay l dC dI b) (kS 1 ht m_1422 m_1423 m_89 m_1424 rfl rfl hd_X12_isDay_v ⟨Nat.le_of_ble_eq_true rfl, Nat.le_of_ble_eq_true rfl⟩) (sR noP (hK.sub (tys' := []) [] rfl)) rfl rfl hl.1 rfl (lv_room (Nat.le_of_ble_eq_true rfl)) dX12_error_13 ⟨Nat.le_of_ble_eq_true rfl, Nat.le_of_ble_eq_true rfl⟩) (fun r3 hr3 => ?_)
      rcases hr3 with ⟨rfl, fr3⟩ | ⟨rfl, fr3⟩
      · skip
        refine lv_if_eq (tgt := 29) hx hb dX12_error_16 (by decide) (fun c4 => ?_) (fun c4 => ?_)
        · exact absurd c4 (by decide)
        · skip
          refine lv_iload_n hx hb dX12_error_19 rfl (lv_at hl 3 rfl) ?_
          refine lv_i2l (v := (d.toInt64)) hx hb dX12_error_20 rfl ?_
          refine lv_lconst (v := 0) hx hb dX12_error_21 (by decide) ?_
          refine lv_lconst (v := 1) hx hb dX12_error_22 (by decide) ?_
          refine vp_callSi (W.runS (As := [.long (d.toInt64), .long 0, .long 1]) (rest := []) ⟨hx, hb, hml, hown, ht⟩ (c_X12_in l dC dI (d.toInt64) 0 1 (d.toInt) (0) (1) ((Int32.toInt_toInt64 d).trans rfl) (by decide : (0 : Int64).toInt = 0) (by decide : (1 : Int64).toInt = 1)) (kS 3 ht m_1370 m_1371 m_89 m_1372 rfl rfl hd_X12_in_v ⟨Nat.le_of_ble_eq_true rfl, Nat.le_of_ble_eq_true rfl⟩) (sR noP (hK.sub (tys' := []) [] rfl)) rfl rfl hl.1 rfl (lv_room (Nat.le_of_ble_eq_true rfl)) dX12_error_23 ⟨Nat.le_of_ble_eq_true rfl, Nat.le_of_ble_eq_true rfl⟩) (fun r5 hr5 => ?_)
          rcases hr5 with ⟨rfl, fr5⟩ | ⟨rfl, fr5⟩
          · skip
            refine lv_if_ne (tgt := 32) hx hb dX12_error_26 (by decide) (fun c6 => ?_) (fun c6 => ?_)
            · skip
              refine lv_aload_n hx hb dX12_error_32 rfl (lv_at hl 0 rfl) ?_
              refine lv_iload_n hx hb dX12_error_33 rfl (lv_at hl 1 rfl) ?_
              refine lv_iload_n hx hb dX12_error_34 rfl (lv_at hl 2 rfl) ?_
              refine lv_iload_n hx hb dX12_error_35 rfl (lv_at hl 3 rfl) ?_
              refine lv_iconst (v := 1) hx hb dX12_error_36 (by decide) ?_
              refine lv_icmp_ne (tgt := 44) hx hb dX12_error_37 (by decide) (fun c7 => ?_) (fun c7 => ?_)
              · have fc7 := z_ne (rfl : (d).toInt = _) (by decide : (1 : Int32).toInt = 1) c7
                refine lv_iconst (v := 0) hx hb dX12_error_44 (by decide) ?_
                refine vp_callSi (W.runV (As := [.int a, .int b, .int 0]) (rest := []) ⟨hx, hb, hml, hown, ht⟩ (c_X12_errorOf l dC dI h g ca iv lv fa la hI a b 0 ⟨by decide, by decide⟩) (kV 3 ht m_1426 m_1428 m_44 m_89 m_1429 rfl rfl hd_X12_errorOf_v ⟨Nat.le_of_ble_eq_true rfl, Nat.le_of_ble_eq_true rfl⟩) (vR hP hK (rM_12 hK hP)) rfl rfl hl.1 rfl (lv_room (Nat.le_of_ble_eq_true rfl)) dX12_error_45 ⟨Nat.le_of_ble_eq_true rfl, Nat.le_of_ble_eq_true rfl⟩) (fun r8 hr8 => ?_)
                exact W.iret (v := r8) hx hb hr (fun t ht9 hW => ⟨r8, rfl, trivial, ht9⟩) (fun q hq => by cases hq) dX12_error_48
              · have fc7 := z_eq (rfl : (d).toInt = _) (by decide : (1 : Int32).toInt = 1) c7
                refine lv_iconst (v := 1) hx hb dX12_error_40 (by decide) ?_
                refine lv_goto (tgt := 45) hx hb dX12_error_41 (by decide) ?_
                refine vp_callSi (W.runV (As := [.int a, .int b, .int 1]) (rest := []) ⟨hx, hb, hml, hown, ht⟩ (c_X12_errorOf l dC dI h g ca iv lv fa la hI a b 1 ⟨by decide, by decide⟩) (kV 3 ht m_1426 m_1428 m_44 m_89 m_1429 rfl rfl hd_X12_errorOf_v ⟨Nat.le_of_ble_eq_true rfl, Nat.le_of_ble_eq_true rfl⟩) (vR hP hK (rM_12 hK hP)) rfl rfl hl.1 rfl (lv_room (Nat.le_of_ble_eq_true rfl)) dX12_error_45 ⟨Nat.le_of_ble_eq_true rfl, Nat.le_of_ble_eq_true rfl⟩) (fun r9 hr9 => ?_)
                exact W.iret (v := r9) hx hb hr (fun t ht9 hW => ⟨r9, rfl, trivial, ht9⟩) (fun q hq => by cases hq) dX12_error_48
            · exact absurd c6 (by decide)
          · skip
            refine lv_if_ne (tgt := 32) hx hb dX12_error_26 (by decide) (fun c10 => ?_) (fun c10 => ?_)
            · exact absurd rfl c10
            · skip
              refine lv_ldc hx hb hown (ht _ m_1373) dX12_error_29 ?_
              exact W.iret (v := (-100002)) hx hb hr (fun t ht9 hW => ⟨(-100002), rfl, trivial, ht9⟩) (fun q hq => by cases hq) dX12_error_31
      · skip
        refine lv_if_eq (tgt := 29) hx hb dX12_error_16 (by decide) (fun c11 => ?_) (fun c11 => ?_)
        · skip
          refine lv_ldc hx hb hown (ht _ m_1373) dX12_error_29 ?_
          exact W.iret (v := (-100002)) hx hb hr (fun t ht9 hW => ⟨(-100002), rfl, trivial, ht9⟩) (fun q hq => by cases hq) dX12_error_31
        · exact absurd rfl c11
  · skip
    refine lv_if_eq (tgt := 29) hx hb dX12_error_9 (by decide) (fun c12 => ?_) (fun c12 => ?_)
    · skip
      refine lv_ldc hx hb hown (ht _ m_1373) dX12_error_29 ?_
      exact W.iret (v := (-100002)) hx hb hr (fun t ht9 hW => ⟨(-100002), rfl, trivial, ht9⟩) (fun q hq => by cases hq) dX12_error_31
    · exact absurd rfl c12
set_option maxHeartbeats 4000000 in
set_option maxRecDepth 100000 in
/-- X12_doPart -/
theorem c_X12_doPart (l : Launch) (dC : Nat → ClassId) (dI : Nat → Nat → Nat) (a : Int64) (b : Int64) (d : Int64) (k : Int64) (n : Int32) : Met l yX12_doPart (wc yX12_doPart cX12_doPart 9 (some .boolean)) ({ frames := 1, cells := 0, slots := 0, locals := 21 } : Room) (pR (dC, dI) classes [] [] [.long a, .long b, .long d, .long k, .int n]) (vp_Si (fun r => 0 ≤ r.toInt ∧ r.toInt ≤ 1)) 0 0 (fun _ => False) := by
  refine Met.ofW (cc := cX12_doPart) (maxL := 9) (ret := (some .boolean)) (by decide) rfl ?_
  intro p e s m args below meth c s₁ B hml hv
  obtain ⟨rfl, hP, hK⟩ := hv
  have hx := B.exec
  have hb := B.bytes
  have hr := B.returns
  have ht := tb_tl (atoms_spec (ws := wc yX12_doPart cX12_doPart 9 (some .boolean)) B.pre)
  have hown : s.vm.findClass RX12 = some m.cls := findClass_of_methodNamed B.named
  have hlocks := B.notSynchronized
  have hl := lv_entry [.long a, .long b, .long d, .long k, .int n] (n := 9) (Nat.le_of_ble_eq_true rfl)
  rw [lg_entry_eq]
  generalize (lg_sl [.long a, .long b, .long d, .long k, .int n] ++ List.replicate (9 - (lg_sl [.long a, .long b, .long d, .long k, .int n]).length) Slot.unset).toArray = ls at hl ⊢
  have hl : lv_has ls 9 [(0, .long a), (2, .long b), (4, .long d), (6, .long k), (8, .int n)] := hl
  refine lv_ldc2 hx hb hown (ht _ m_1543) dX12_doPart_0 ?_
  refine lv_lload_n hx hb dX12_doPart_3 rfl (lv_at hl 0 rfl) ?_
  refine lv_lload hx hb dX12_doPart_4 (lv_at hl 3 rfl) ?_
  refine lv_lmul hx hb dX12_doPart_6 ?_
  refine lv_topl (fun w1 ew1 => ?_)
  refine lv_lload hx hb dX12_doPart_7 (lv_at hl 2 rfl) ?_
  refine lv_lload_n hx hb dX12_doPart_9 rfl (lv_at hl 1 rfl) ?_
  refine lv_lmul hx hb dX12_doPart_10 ?_
  refine lv_topl (fun w2 ew2 => ?_)
  refine lv_lsub hx hb dX12_doPart_11 ?_
  refine lv_topl (fun w3 ew3 => ?_)
  refine vp_callSl (W.runS (As := [.long w3]) (rest := [.long 1000]) ⟨hx, hb, hml, hown, ht⟩ (c_X12_plain l dC dI w3) (kS 1 ht m_1445 m_1446 m_89 m_1447 rfl rfl hd_X12_plain_v ⟨Nat.le_of_ble_eq_true rfl, Nat.le_of_ble_eq_true rfl⟩) (sR noP (hK.sub (tys' := []) [] rfl)) rfl rfl hl.1 rfl (lv_room (Nat.le_of_ble_eq_true rfl)) dX12_doPart_12 ⟨Nat.le_of_ble_eq_true rfl, Nat.le_of_ble_eq_true rfl⟩) (fun r4 hr4 => ?_)
  refine lv_lmul hx hb dX12_doPart_15 ?_
  refine lv_topl (fun w5 ew5 => ?_)
  refine lv_iload hx hb dX12_doPart_16 (lv_at hl 4 rfl) ?_
  refine lv_i2l (v := (n.toInt64)) hx hb dX12_doPart_18 rfl ?_
  refine lv_lload_n hx hb dX12_doPart_19 rfl (lv_at hl 1 rfl) ?_
  refine lv_lmul hx hb dX12_doPart_20 ?_
  refine lv_topl (fun w6 ew6 => ?_)
  refine lv_lload hx hb dX12_doPart_21 (lv_at hl 3 rfl) ?_
  refine lv_lmul hx hb dX12_doPart_23 ?_
  refine lv_topl (fun w7 ew7 => ?_)
  refine W.lcmp hx hb dX12_doPart_24 ?_
  refine lv_topi (fun v8 ev8 => ?_)
  refine lv_if_le (tgt := 32) hx hb dX12_doPart_25 (by decide) (fun c9 => ?_) (fun c9 => ?_)
  · have fc9 := zc_ngt ev8 (rfl : (w5).toInt = _) (rfl : (w7).toInt = _) (Int32.not_lt.mpr c9)
    refine lv_iconst (v := 0) hx hb dX12_doPart_32 (by decide) ?_
    exact W.zret (v := 0) hx hb hr rfl (fun t ht9 hW => ⟨0, rfl, ⟨by decide, by decide⟩, ht9⟩) (fun q hq => by cases hq) dX12_doPart_33
  · have fc9 := zc_gt ev8 (rfl : (w5).toInt = _) (rfl : (w7).toInt = _) (Int32.not_le.mp c9)
    refine lv_iconst (v := 1) hx hb dX12_doPart_28 (by decide) ?_
    refine lv_goto (tgt := 33) hx hb dX12_doPart_29 (by decide) ?_
    exact W.zret (v := 1) hx hb hr rfl (fun t ht9 hW => ⟨1, rfl, ⟨by decide, by decide⟩, ht9⟩) (fun q hq => by cases hq) dX12_doPart_33
