/-! ===== m2 ===== -/
set_option maxRecDepth 100000 in
theorem m_44 : Cond.selects RX12 yX12_errorOf yX12_errorOf ∈ tb := tb_in 44 (by decide +kernel) rfl
set_option maxRecDepth 100000 in
theorem m_46 : Cond.selects RX12 yX12_isThere yX12_isThere ∈ tb := tb_in 46 (by decide +kernel) rfl
theorem m_1156 : Cond.fieldLink RX12 223 "SilkHouseModel" "sumDry" "J" ∈ tb := mb_5_4 _ (List.mem_of_getElem? (i := 21) rfl)
theorem m_1157 : Cond.fieldLink RX12 227 "SilkHouseModel" "sumRaw" "J" ∈ tb := mb_5_4 _ (List.mem_of_getElem? (i := 22) rfl)
theorem m_1158 : Cond.fieldLink RX12 230 "SilkHouseModel" "counted" "I" ∈ tb := mb_5_4 _ (List.mem_of_getElem? (i := 23) rfl)
theorem m_1159 : Cond.fieldLink RX12 49 "SilkHouseModel" "outOven" "I" ∈ tb := mb_5_5 _ (List.mem_of_getElem? (i := 0) rfl)
theorem m_1160 : Cond.fieldLink RX12 53 "SilkHouseModel" "outHand" "I" ∈ tb := mb_5_5 _ (List.mem_of_getElem? (i := 1) rfl)
theorem m_1161 : Cond.fieldLink RX12 56 "SilkHouseModel" "outSkein" "I" ∈ tb := mb_5_5 _ (List.mem_of_getElem? (i := 2) rfl)
theorem m_1422 : Cond.methodLink RX12 216 yX12_isDay ∈ tb := mb_6_2 _ (List.mem_of_getElem? (i := 7) rfl)
theorem m_1423 : Cond.static yX12_isDay ∈ tb := mb_6_2 _ (List.mem_of_getElem? (i := 8) rfl)
theorem m_1424 : Cond.code yX12_isDay cX12_isDay 1 (some .boolean) ∈ tb := mb_6_2 _ (List.mem_of_getElem? (i := 9) rfl)
theorem m_1426 : Cond.methodLink RX12 219 yX12_errorOf ∈ tb := mb_6_2 _ (List.mem_of_getElem? (i := 11) rfl)
theorem m_1428 : Cond.instanceMethod yX12_errorOf ∈ tb := mb_6_2 _ (List.mem_of_getElem? (i := 12) rfl)
theorem m_1429 : Cond.code yX12_errorOf cX12_errorOf 8 (some .int) ∈ tb := mb_6_2 _ (List.mem_of_getElem? (i := 13) rfl)
theorem m_1438 : Cond.methodLink RX12 233 yX12_isThere ∈ tb := mb_6_2 _ (List.mem_of_getElem? (i := 21) rfl)
theorem m_1440 : Cond.instanceMethod yX12_isThere ∈ tb := mb_6_2 _ (List.mem_of_getElem? (i := 22) rfl)
theorem m_1441 : Cond.code yX12_isThere cX12_isThere 3 (some .boolean) ∈ tb := mb_6_2 _ (List.mem_of_getElem? (i := 23) rfl)
theorem m_1445 : Cond.methodLink RX12 160 yX12_plain ∈ tb := mb_6_3 _ (List.mem_of_getElem? (i := 3) rfl)
theorem m_1446 : Cond.static yX12_plain ∈ tb := mb_6_3 _ (List.mem_of_getElem? (i := 4) rfl)
theorem m_1447 : Cond.code yX12_plain cX12_plain 2 (some .long) ∈ tb := mb_6_3 _ (List.mem_of_getElem? (i := 5) rfl)
theorem m_1543 : Cond.constantLong RX12 245 (1000) ∈ tb := mb_7_1 _ (List.mem_of_getElem? (i := 0) rfl)
theorem hd_X12_errorOf_v : yX12_errorOf.cls = RX12 ∧ yX12_errorOf.cls ≠ "java/lang/invoke/MethodHandle" ∧ yX12_errorOf.cls ≠ "java/lang/invoke/VarHandle" ∧ (parseMethodDescriptor yX12_errorOf.desc).map (fun d => d.parameters.length) = some 3 := by decide +kernel
theorem hd_X12_isDay_v : yX12_isDay.cls = RX12 ∧ yX12_isDay.cls ≠ "java/lang/invoke/MethodHandle" ∧ yX12_isDay.cls ≠ "java/lang/invoke/VarHandle" ∧ (parseMethodDescriptor yX12_isDay.desc).map (fun d => d.parameters.length) = some 1 := by decide +kernel
theorem hd_X12_isThere_v : yX12_isThere.cls = RX12 ∧ yX12_isThere.cls ≠ "java/lang/invoke/MethodHandle" ∧ yX12_isThere.cls ≠ "java/lang/invoke/VarHandle" ∧ (parseMethodDescriptor yX12_isThere.desc).map (fun d => d.parameters.length) = some 2 := by decide +kernel
theorem hd_X12_plain_v : yX12_plain.cls = RX12 ∧ yX12_plain.cls ≠ "java/lang/invoke/MethodHandle" ∧ yX12_plain.cls ≠ "java/lang/invoke/VarHandle" ∧ (parseMethodDescriptor yX12_plain.desc).map (fun d => d.parameters.length) = some 1 := by decide +kernel
set_option maxRecDepth 100000 in
theorem dvX12_doPart_0 : ([(0, .ldc2_w 245, 3), (3, .lload_n 0, 1), (4, .lload 6, 2), (6, .lmul, 1), (7, .lload 4, 2), (9, .lload_n 2, 1), (10, .lmul, 1), (11, .lsub, 1), (12, .invokestatic 160, 3), (15, .lmul, 1), (16, .iload 8, 2), (18, .i2l, 1), (19, .lload_n 2, 1), (20, .lmul, 1), (21, .lload 6, 2), (23, .lmul, 1), (24, .lcmp, 1), (25, .ifCond .le 7, 3), (28, .iconst 1, 1), (29, .goto 4, 3), (32, .iconst 0, 1), (33, .ireturn, 1)] : List (Nat × Instr × Nat)).all (fun q => decide (decode cX12_doPart q.1 = .ok (q.2.1, q.2.2))) = true := by decide +kernel
theorem dX12_doPart_0 : decode cX12_doPart 0 = .ok (.ldc2_w 245, 3) := all_at dvX12_doPart_0 0 rfl
theorem dX12_doPart_3 : decode cX12_doPart 3 = .ok (.lload_n 0, 1) := all_at dvX12_doPart_0 1 rfl
theorem dX12_doPart_4 : decode cX12_doPart 4 = .ok (.lload 6, 2) := all_at dvX12_doPart_0 2 rfl
theorem dX12_doPart_6 : decode cX12_doPart 6 = .ok (.lmul, 1) := all_at dvX12_doPart_0 3 rfl
theorem dX12_doPart_7 : decode cX12_doPart 7 = .ok (.lload 4, 2) := all_at dvX12_doPart_0 4 rfl
theorem dX12_doPart_9 : decode cX12_doPart 9 = .ok (.lload_n 2, 1) := all_at dvX12_doPart_0 5 rfl
theorem dX12_doPart_10 : decode cX12_doPart 10 = .ok (.lmul, 1) := all_at dvX12_doPart_0 6 rfl
theorem dX12_doPart_11 : decode cX12_doPart 11 = .ok (.lsub, 1) := all_at dvX12_doPart_0 7 rfl
theorem dX12_doPart_12 : decode cX12_doPart 12 = .ok (.invokestatic 160, 3) := all_at dvX12_doPart_0 8 rfl
theorem dX12_doPart_15 : decode cX12_doPart 15 = .ok (.lmul, 1) := all_at dvX12_doPart_0 9 rfl
theorem dX12_doPart_16 : decode cX12_doPart 16 = .ok (.iload 8, 2) := all_at dvX12_doPart_0 10 rfl
theorem dX12_doPart_18 : decode cX12_doPart 18 = .ok (.i2l, 1) := all_at dvX12_doPart_0 11 rfl
theorem dX12_doPart_19 : decode cX12_doPart 19 = .ok (.lload_n 2, 1) := all_at dvX12_doPart_0 12 rfl
theorem dX12_doPart_20 : decode cX12_doPart 20 = .ok (.lmul, 1) := all_at dvX12_doPart_0 13 rfl
theorem dX12_doPart_21 : decode cX12_doPart 21 = .ok (.lload 6, 2) := all_at dvX12_doPart_0 14 rfl
theorem dX12_doPart_23 : decode cX12_doPart 23 = .ok (.lmul, 1) := all_at dvX12_doPart_0 15 rfl
theorem dX12_doPart_24 : decode cX12_doPart 24 = .ok (.lcmp, 1) := all_at dvX12_doPart_0 16 rfl
theorem dX12_doPart_25 : decode cX12_doPart 25 = .ok (.ifCond .le 7, 3) := all_at dvX12_doPart_0 17 rfl
theorem dX12_doPart_28 : decode cX12_doPart 28 = .ok (.iconst 1, 1) := all_at dvX12_doPart_0 18 rfl
theorem dX12_doPart_29 : decode cX12_doPart 29 = .ok (.goto 4, 3) := all_at dvX12_doPart_0 19 rfl
theorem dX12_doPart_32 : decode cX12_doPart 32 = .ok (.iconst 0, 1) := all_at dvX12_doPart_0 20 rfl
theorem dX12_doPart_33 : decode cX12_doPart 33 = .ok (.ireturn, 1) := all_at dvX12_doPart_0 21 rfl
set_option maxRecDepth 100000 in
theorem dvX12_error_0 : ([(0, .iload_n 1, 1), (1, .i2l, 1), (2, .lconst 0, 1), (3, .ldc2_w 190, 3), (6, .invokestatic 167, 3), (9, .ifCond .eq 20, 3), (12, .iload_n 2, 1), (13, .invokestatic 216, 3), (16, .ifCond .eq 13, 3), (19, .iload_n 3, 1), (20, .i2l, 1), (21, .lconst 0, 1), (22, .lconst 1, 1), (23, .invokestatic 167, 3), (26, .ifCond .ne 6, 3), (29, .ldc 178, 2), (31, .ireturn, 1), (32, .aload_n 0, 1), (33, .iload_n 1, 1), (34, .iload_n 2, 1), (35, .iload_n 3, 1), (36, .iconst 1, 1), (37, .if_icmp .ne 7, 3), (40, .iconst 1, 1)] : List (Nat × Instr × Nat)).all (fun q => decide (decode cX12_error q.1 = .ok (q.2.1, q.2.2))) = true := by decide +kernel
theorem dX12_error_0 : decode cX12_error 0 = .ok (.iload_n 1, 1) := all_at dvX12_error_0 0 rfl
theorem dX12_error_1 : decode cX12_error 1 = .ok (.i2l, 1) := all_at dvX12_error_0 1 rfl
theorem dX12_error_2 : decode cX12_error 2 = .ok (.lconst 0, 1) := all_at dvX12_error_0 2 rfl
theorem dX12_error_3 : decode cX12_error 3 = .ok (.ldc2_w 190, 3) := all_at dvX12_error_0 3 rfl
theorem dX12_error_6 : decode cX12_error 6 = .ok (.invokestatic 167, 3) := all_at dvX12_error_0 4 rfl
theorem dX12_error_9 : decode cX12_error 9 = .ok (.ifCond .eq 20, 3) := all_at dvX12_error_0 5 rfl
theorem dX12_error_12 : decode cX12_error 12 = .ok (.iload_n 2, 1) := all_at dvX12_error_0 6 rfl
theorem dX12_error_13 : decode cX12_error 13 = .ok (.invokestatic 216, 3) := all_at dvX12_error_0 7 rfl
theorem dX12_error_16 : decode cX12_error 16 = .ok (.ifCond .eq 13, 3) := all_at dvX12_error_0 8 rfl
theorem dX12_error_19 : decode cX12_error 19 = .ok (.iload_n 3, 1) := all_at dvX12_error_0 9 rfl
theorem dX12_error_20 : decode cX12_error 20 = .ok (.i2l, 1) := all_at dvX12_error_0 10 rfl
theorem dX12_error_21 : decode cX12_error 21 = .ok (.lconst 0, 1) := all_at dvX12_error_0 11 rfl
theorem dX12_error_22 : decode cX12_error 22 = .ok (.lconst 1, 1) := all_at dvX12_error_0 12 rfl
theorem dX12_error_23 : decode cX12_error 23 = .ok (.invokestatic 167, 3) := all_at dvX12_error_0 13 rfl
theorem dX12_error_26 : decode cX12_error 26 = .ok (.ifCond .ne 6, 3) := all_at dvX12_error_0 14 rfl
theorem dX12_error_29 : decode cX12_error 29 = .ok (.ldc 178, 2) := all_at dvX12_error_0 15 rfl
theorem dX12_error_31 : decode cX12_error 31 = .ok (.ireturn, 1) := all_at dvX12_error_0 16 rfl
theorem dX12_error_32 : decode cX12_error 32 = .ok (.aload_n 0, 1) := all_at dvX12_error_0 17 rfl
theorem dX12_error_33 : decode cX12_error 33 = .ok (.iload_n 1, 1) := all_at dvX12_error_0 18 rfl
theorem dX12_error_34 : decode cX12_error 34 = .ok (.iload_n 2, 1) := all_at dvX12_error_0 19 rfl
theorem dX12_error_35 : decode cX12_error 35 = .ok (.iload_n 3, 1) := all_at dvX12_error_0 20 rfl
theorem dX12_error_36 : decode cX12_error 36 = .ok (.iconst 1, 1) := all_at dvX12_error_0 21 rfl
theorem dX12_error_37 : decode cX12_error 37 = .ok (.if_icmp .ne 7, 3) := all_at dvX12_error_0 22 rfl
theorem dX12_error_40 : decode cX12_error 40 = .ok (.iconst 1, 1) := all_at dvX12_error_0 23 rfl
set_option maxRecDepth 100000 in
theorem dvX12_error_41 : ([(41, .goto 4, 3), (44, .iconst 0, 1), (45, .invokevirtual 219, 3), (48, .ireturn, 1)] : List (Nat × Instr × Nat)).all (fun q => decide (decode cX12_error q.1 = .ok (q.2.1, q.2.2))) = true := by decide +kernel
theorem dX12_error_41 : decode cX12_error 41 = .ok (.goto 4, 3) := all_at dvX12_error_41 0 rfl
theorem dX12_error_44 : decode cX12_error 44 = .ok (.iconst 0, 1) := all_at dvX12_error_41 1 rfl
theorem dX12_error_45 : decode cX12_error 45 = .ok (.invokevirtual 219, 3) := all_at dvX12_error_41 2 rfl
theorem dX12_error_48 : decode cX12_error 48 = .ok (.ireturn, 1) := all_at dvX12_error_41 3 rfl
set_option maxRecDepth 100000 in
theorem dvX12_errorOf_0 : ([(0, .iconst (-1), 1), (1, .istore 4, 2), (3, .iconst (-1), 1), (4, .istore 5, 2), (6, .iconst 0, 1), (7, .istore 6, 2), (9, .iload 6, 2), (11, .aload_n 0, 1), (12, .getfield 213, 3), (15, .if_icmp .ge 65, 3), (18, .aload_n 0, 1), (19, .getfield 40, 3), (22, .iload 6, 2), (24, .iaload, 1), (25, .iload_n 1, 1), (26, .if_icmp .ne 48, 3), (29, .aload_n 0, 1), (30, .getfield 46, 3), (33, .iload 6, 2), (35, .iaload, 1), (36, .iload_n 2, 1), (37, .if_icmp .gt 8, 3), (40, .iload 6, 2), (42, .goto 5, 3)] : List (Nat × Instr × Nat)).all (fun q => decide (decode cX12_errorOf q.1 = .ok (q.2.1, q.2.2))) = true := by decide +kernel
theorem dX12_errorOf_0 : decode cX12_errorOf 0 = .ok (.iconst (-1), 1) := all_at dvX12_errorOf_0 0 rfl
theorem dX12_errorOf_1 : decode cX12_errorOf 1 = .ok (.istore 4, 2) := all_at dvX12_errorOf_0 1 rfl
theorem dX12_errorOf_3 : decode cX12_errorOf 3 = .ok (.iconst (-1), 1) := all_at dvX12_errorOf_0 2 rfl
theorem dX12_errorOf_4 : decode cX12_errorOf 4 = .ok (.istore 5, 2) := all_at dvX12_errorOf_0 3 rfl
theorem dX12_errorOf_6 : decode cX12_errorOf 6 = .ok (.iconst 0, 1) := all_at dvX12_errorOf_0 4 rfl
theorem dX12_errorOf_7 : decode cX12_errorOf 7 = .ok (.istore 6, 2) := all_at dvX12_errorOf_0 5 rfl
theorem dX12_errorOf_9 : decode cX12_errorOf 9 = .ok (.iload 6, 2) := all_at dvX12_errorOf_0 6 rfl
theorem dX12_errorOf_11 : decode cX12_errorOf 11 = .ok (.aload_n 0, 1) := all_at dvX12_errorOf_0 7 rfl
theorem dX12_errorOf_12 : decode cX12_errorOf 12 = .ok (.getfield 213, 3) := all_at dvX12_errorOf_0 8 rfl
theorem dX12_errorOf_15 : decode cX12_errorOf 15 = .ok (.if_icmp .ge 65, 3) := all_at dvX12_errorOf_0 9 rfl
theorem dX12_errorOf_18 : decode cX12_errorOf 18 = .ok (.aload_n 0, 1) := all_at dvX12_errorOf_0 10 rfl
theorem dX12_errorOf_19 : decode cX12_errorOf 19 = .ok (.getfield 40, 3) := all_at dvX12_errorOf_0 11 rfl
theorem dX12_errorOf_22 : decode cX12_errorOf 22 = .ok (.iload 6, 2) := all_at dvX12_errorOf_0 12 rfl
theorem dX12_errorOf_24 : decode cX12_errorOf 24 = .ok (.iaload, 1) := all_at dvX12_errorOf_0 13 rfl
theorem dX12_errorOf_25 : decode cX12_errorOf 25 = .ok (.iload_n 1, 1) := all_at dvX12_errorOf_0 14 rfl
theorem dX12_errorOf_26 : decode cX12_errorOf 26 = .ok (.if_icmp .ne 48, 3) := all_at dvX12_errorOf_0 15 rfl
theorem dX12_errorOf_29 : decode cX12_errorOf 29 = .ok (.aload_n 0, 1) := all_at dvX12_errorOf_0 16 rfl
theorem dX12_errorOf_30 : decode cX12_errorOf 30 = .ok (.getfield 46, 3) := all_at dvX12_errorOf_0 17 rfl
theorem dX12_errorOf_33 : decode cX12_errorOf 33 = .ok (.iload 6, 2) := all_at dvX12_errorOf_0 18 rfl
theorem dX12_errorOf_35 : decode cX12_errorOf 35 = .ok (.iaload, 1) := all_at dvX12_errorOf_0 19 rfl
theorem dX12_errorOf_36 : decode cX12_errorOf 36 = .ok (.iload_n 2, 1) := all_at dvX12_errorOf_0 20 rfl
theorem dX12_errorOf_37 : decode cX12_errorOf 37 = .ok (.if_icmp .gt 8, 3) := all_at dvX12_errorOf_0 21 rfl
theorem dX12_errorOf_40 : decode cX12_errorOf 40 = .ok (.iload 6, 2) := all_at dvX12_errorOf_0 22 rfl
theorem dX12_errorOf_42 : decode cX12_errorOf 42 = .ok (.goto 5, 3) := all_at dvX12_errorOf_0 23 rfl
set_option maxRecDepth 100000 in
theorem dvX12_errorOf_45 : ([(45, .iload 4, 2), (47, .istore 4, 2), (49, .aload_n 0, 1), (50, .getfield 46, 3), (53, .iload 6, 2), (55, .iaload, 1), (56, .iload_n 2, 1), (57, .if_icmp .le 13, 3), (60, .iload 5, 2), (62, .ifCond .ge 8, 3), (65, .iload 6, 2), (67, .goto 5, 3), (70, .iload 5, 2), (72, .istore 5, 2), (74, .iinc 6 1, 3), (77, .goto (-68), 3), (80, .iload 4, 2), (82, .ifCond .ge 10, 3), (85, .iload 5, 2), (87, .ifCond .ge 5, 3), (90, .iconst 0, 1), (91, .ireturn, 1), (92, .aload_n 0, 1), (93, .getfield 43, 3)] : List (Nat × Instr × Nat)).all (fun q => decide (decode cX12_errorOf q.1 = .ok (q.2.1, q.2.2))) = true := by decide +kernel
theorem dX12_errorOf_45 : decode cX12_errorOf 45 = .ok (.iload 4, 2) := all_at dvX12_errorOf_45 0 rfl
theorem dX12_errorOf_47 : decode cX12_errorOf 47 = .ok (.istore 4, 2) := all_at dvX12_errorOf_45 1 rfl
theorem dX12_errorOf_49 : decode cX12_errorOf 49 = .ok (.aload_n 0, 1) := all_at dvX12_errorOf_45 2 rfl
theorem dX12_errorOf_50 : decode cX12_errorOf 50 = .ok (.getfield 46, 3) := all_at dvX12_errorOf_45 3 rfl
theorem dX12_errorOf_53 : decode cX12_errorOf 53 = .ok (.iload 6, 2) := all_at dvX12_errorOf_45 4 rfl
theorem dX12_errorOf_55 : decode cX12_errorOf 55 = .ok (.iaload, 1) := all_at dvX12_errorOf_45 5 rfl
theorem dX12_errorOf_56 : decode cX12_errorOf 56 = .ok (.iload_n 2, 1) := all_at dvX12_errorOf_45 6 rfl
theorem dX12_errorOf_57 : decode cX12_errorOf 57 = .ok (.if_icmp .le 13, 3) := all_at dvX12_errorOf_45 7 rfl
theorem dX12_errorOf_60 : decode cX12_errorOf 60 = .ok (.iload 5, 2) := all_at dvX12_errorOf_45 8 rfl
theorem dX12_errorOf_62 : decode cX12_errorOf 62 = .ok (.ifCond .ge 8, 3) := all_at dvX12_errorOf_45 9 rfl
theorem dX12_errorOf_65 : decode cX12_errorOf 65 = .ok (.iload 6, 2) := all_at dvX12_errorOf_45 10 rfl
theorem dX12_errorOf_67 : decode cX12_errorOf 67 = .ok (.goto 5, 3) := all_at dvX12_errorOf_45 11 rfl
theorem dX12_errorOf_70 : decode cX12_errorOf 70 = .ok (.iload 5, 2) := all_at dvX12_errorOf_45 12 rfl
theorem dX12_errorOf_72 : decode cX12_errorOf 72 = .ok (.istore 5, 2) := all_at dvX12_errorOf_45 13 rfl
theorem dX12_errorOf_74 : decode cX12_errorOf 74 = .ok (.iinc 6 1, 3) := all_at dvX12_errorOf_45 14 rfl
theorem dX12_errorOf_77 : decode cX12_errorOf 77 = .ok (.goto (-68), 3) := all_at dvX12_errorOf_45 15 rfl
theorem dX12_errorOf_80 : decode cX12_errorOf 80 = .ok (.iload 4, 2) := all_at dvX12_errorOf_45 16 rfl
theorem dX12_errorOf_82 : decode cX12_errorOf 82 = .ok (.ifCond .ge 10, 3) := all_at dvX12_errorOf_45 17 rfl
theorem dX12_errorOf_85 : decode cX12_errorOf 85 = .ok (.iload 5, 2) := all_at dvX12_errorOf_45 18 rfl
theorem dX12_errorOf_87 : decode cX12_errorOf 87 = .ok (.ifCond .ge 5, 3) := all_at dvX12_errorOf_45 19 rfl
theorem dX12_errorOf_90 : decode cX12_errorOf 90 = .ok (.iconst 0, 1) := all_at dvX12_errorOf_45 20 rfl
theorem dX12_errorOf_91 : decode cX12_errorOf 91 = .ok (.ireturn, 1) := all_at dvX12_errorOf_45 21 rfl
theorem dX12_errorOf_92 : decode cX12_errorOf 92 = .ok (.aload_n 0, 1) := all_at dvX12_errorOf_45 22 rfl
theorem dX12_errorOf_93 : decode cX12_errorOf 93 = .ok (.getfield 43, 3) := all_at dvX12_errorOf_45 23 rfl
set_option maxRecDepth 100000 in
theorem dvX12_errorOf_96 : ([(96, .iload 4, 2), (98, .ifCond .ge 8, 3), (101, .iload 5, 2), (103, .goto 5, 3), (106, .iload 4, 2), (108, .iaload, 1), (109, .istore 6, 2), (111, .aload_n 0, 1), (112, .getfield 43, 3), (115, .iload 5, 2), (117, .ifCond .ge 8, 3), (120, .iload 4, 2), (122, .goto 5, 3), (125, .iload 5, 2), (127, .iaload, 1), (128, .istore 7, 2), (130, .iload_n 3, 1), (131, .iload 6, 2), (133, .iload 7, 2), (135, .if_icmp .le 7, 3), (138, .iconst 1, 1), (139, .goto 4, 3), (142, .iconst 0, 1), (143, .if_icmp .ne 8, 3)] : List (Nat × Instr × Nat)).all (fun q => decide (decode cX12_errorOf q.1 = .ok (q.2.1, q.2.2))) = true := by decide +kernel
theorem dX12_errorOf_96 : decode cX12_errorOf 96 = .ok (.iload 4, 2) := all_at dvX12_errorOf_96 0 rfl
theorem dX12_errorOf_98 : decode cX12_errorOf 98 = .ok (.ifCond .ge 8, 3) := all_at dvX12_errorOf_96 1 rfl
theorem dX12_errorOf_101 : decode cX12_errorOf 101 = .ok (.iload 5, 2) := all_at dvX12_errorOf_96 2 rfl
theorem dX12_errorOf_103 : decode cX12_errorOf 103 = .ok (.goto 5, 3) := all_at dvX12_errorOf_96 3 rfl
theorem dX12_errorOf_106 : decode cX12_errorOf 106 = .ok (.iload 4, 2) := all_at dvX12_errorOf_96 4 rfl
theorem dX12_errorOf_108 : decode cX12_errorOf 108 = .ok (.iaload, 1) := all_at dvX12_errorOf_96 5 rfl
theorem dX12_errorOf_109 : decode cX12_errorOf 109 = .ok (.istore 6, 2) := all_at dvX12_errorOf_96 6 rfl
theorem dX12_errorOf_111 : decode cX12_errorOf 111 = .ok (.aload_n 0, 1) := all_at dvX12_errorOf_96 7 rfl
theorem dX12_errorOf_112 : decode cX12_errorOf 112 = .ok (.getfield 43, 3) := all_at dvX12_errorOf_96 8 rfl
theorem dX12_errorOf_115 : decode cX12_errorOf 115 = .ok (.iload 5, 2) := all_at dvX12_errorOf_96 9 rfl
theorem dX12_errorOf_117 : decode cX12_errorOf 117 = .ok (.ifCond .ge 8, 3) := all_at dvX12_errorOf_96 10 rfl
theorem dX12_errorOf_120 : decode cX12_errorOf 120 = .ok (.iload 4, 2) := all_at dvX12_errorOf_96 11 rfl
theorem dX12_errorOf_122 : decode cX12_errorOf 122 = .ok (.goto 5, 3) := all_at dvX12_errorOf_96 12 rfl
theorem dX12_errorOf_125 : decode cX12_errorOf 125 = .ok (.iload 5, 2) := all_at dvX12_errorOf_96 13 rfl
theorem dX12_errorOf_127 : decode cX12_errorOf 127 = .ok (.iaload, 1) := all_at dvX12_errorOf_96 14 rfl
theorem dX12_errorOf_128 : decode cX12_errorOf 128 = .ok (.istore 7, 2) := all_at dvX12_errorOf_96 15 rfl
theorem dX12_errorOf_130 : decode cX12_errorOf 130 = .ok (.iload_n 3, 1) := all_at dvX12_errorOf_96 16 rfl
theorem dX12_errorOf_131 : decode cX12_errorOf 131 = .ok (.iload 6, 2) := all_at dvX12_errorOf_96 17 rfl
theorem dX12_errorOf_133 : decode cX12_errorOf 133 = .ok (.iload 7, 2) := all_at dvX12_errorOf_96 18 rfl
theorem dX12_errorOf_135 : decode cX12_errorOf 135 = .ok (.if_icmp .le 7, 3) := all_at dvX12_errorOf_96 19 rfl
theorem dX12_errorOf_138 : decode cX12_errorOf 138 = .ok (.iconst 1, 1) := all_at dvX12_errorOf_96 20 rfl
theorem dX12_errorOf_139 : decode cX12_errorOf 139 = .ok (.goto 4, 3) := all_at dvX12_errorOf_96 21 rfl
theorem dX12_errorOf_142 : decode cX12_errorOf 142 = .ok (.iconst 0, 1) := all_at dvX12_errorOf_96 22 rfl
theorem dX12_errorOf_143 : decode cX12_errorOf 143 = .ok (.if_icmp .ne 8, 3) := all_at dvX12_errorOf_96 23 rfl
set_option maxRecDepth 100000 in
theorem dvX12_errorOf_146 : ([(146, .iload 6, 2), (148, .goto 5, 3), (151, .iload 7, 2), (153, .ireturn, 1)] : List (Nat × Instr × Nat)).all (fun q => decide (decode cX12_errorOf q.1 = .ok (q.2.1, q.2.2))) = true := by decide +kernel
theorem dX12_errorOf_146 : decode cX12_errorOf 146 = .ok (.iload 6, 2) := all_at dvX12_errorOf_146 0 rfl
theorem dX12_errorOf_148 : decode cX12_errorOf 148 = .ok (.goto 5, 3) := all_at dvX12_errorOf_146 1 rfl
theorem dX12_errorOf_151 : decode cX12_errorOf 151 = .ok (.iload 7, 2) := all_at dvX12_errorOf_146 2 rfl
theorem dX12_errorOf_153 : decode cX12_errorOf 153 = .ok (.ireturn, 1) := all_at dvX12_errorOf_146 3 rfl
set_option maxRecDepth 100000 in
theorem dvX12_isThere_0 : ([(0, .aload_n 0, 1), (1, .getfield 34, 3), (4, .iload_n 1, 1), (5, .iaload, 1), (6, .iload_n 2, 1), (7, .if_icmp .gt 26, 3), (10, .aload_n 0, 1), (11, .getfield 37, 3), (14, .iload_n 1, 1), (15, .iaload, 1), (16, .ifCond .lt 13, 3), (19, .aload_n 0, 1), (20, .getfield 37, 3), (23, .iload_n 1, 1), (24, .iaload, 1), (25, .iload_n 2, 1), (26, .if_icmp .le 7, 3), (29, .iconst 1, 1), (30, .goto 4, 3), (33, .iconst 0, 1), (34, .ireturn, 1)] : List (Nat × Instr × Nat)).all (fun q => decide (decode cX12_isThere q.1 = .ok (q.2.1, q.2.2))) = true := by decide +kernel
theorem dX12_isThere_0 : decode cX12_isThere 0 = .ok (.aload_n 0, 1) := all_at dvX12_isThere_0 0 rfl
theorem dX12_isThere_1 : decode cX12_isThere 1 = .ok (.getfield 34, 3) := all_at dvX12_isThere_0 1 rfl
theorem dX12_isThere_4 : decode cX12_isThere 4 = .ok (.iload_n 1, 1) := all_at dvX12_isThere_0 2 rfl
theorem dX12_isThere_5 : decode cX12_isThere 5 = .ok (.iaload, 1) := all_at dvX12_isThere_0 3 rfl
theorem dX12_isThere_6 : decode cX12_isThere 6 = .ok (.iload_n 2, 1) := all_at dvX12_isThere_0 4 rfl
theorem dX12_isThere_7 : decode cX12_isThere 7 = .ok (.if_icmp .gt 26, 3) := all_at dvX12_isThere_0 5 rfl
theorem dX12_isThere_10 : decode cX12_isThere 10 = .ok (.aload_n 0, 1) := all_at dvX12_isThere_0 6 rfl
theorem dX12_isThere_11 : decode cX12_isThere 11 = .ok (.getfield 37, 3) := all_at dvX12_isThere_0 7 rfl
theorem dX12_isThere_14 : decode cX12_isThere 14 = .ok (.iload_n 1, 1) := all_at dvX12_isThere_0 8 rfl
theorem dX12_isThere_15 : decode cX12_isThere 15 = .ok (.iaload, 1) := all_at dvX12_isThere_0 9 rfl
theorem dX12_isThere_16 : decode cX12_isThere 16 = .ok (.ifCond .lt 13, 3) := all_at dvX12_isThere_0 10 rfl
theorem dX12_isThere_19 : decode cX12_isThere 19 = .ok (.aload_n 0, 1) := all_at dvX12_isThere_0 11 rfl
theorem dX12_isThere_20 : decode cX12_isThere 20 = .ok (.getfield 37, 3) := all_at dvX12_isThere_0 12 rfl
theorem dX12_isThere_23 : decode cX12_isThere 23 = .ok (.iload_n 1, 1) := all_at dvX12_isThere_0 13 rfl
theorem dX12_isThere_24 : decode cX12_isThere 24 = .ok (.iaload, 1) := all_at dvX12_isThere_0 14 rfl
theorem dX12_isThere_25 : decode cX12_isThere 25 = .ok (.iload_n 2, 1) := all_at dvX12_isThere_0 15 rfl
theorem dX12_isThere_26 : decode cX12_isThere 26 = .ok (.if_icmp .le 7, 3) := all_at dvX12_isThere_0 16 rfl
theorem dX12_isThere_29 : decode cX12_isThere 29 = .ok (.iconst 1, 1) := all_at dvX12_isThere_0 17 rfl
theorem dX12_isThere_30 : decode cX12_isThere 30 = .ok (.goto 4, 3) := all_at dvX12_isThere_0 18 rfl
theorem dX12_isThere_33 : decode cX12_isThere 33 = .ok (.iconst 0, 1) := all_at dvX12_isThere_0 19 rfl
theorem dX12_isThere_34 : decode cX12_isThere 34 = .ok (.ireturn, 1) := all_at dvX12_isThere_0 20 rfl
set_option maxRecDepth 100000 in
theorem dvX12_leaveOut_0 : ([(0, .aload_n 0, 1), (1, .iload_n 1, 1), (2, .putfield 49, 3), (5, .aload_n 0, 1), (6, .iload_n 2, 1), (7, .putfield 53, 3), (10, .aload_n 0, 1), (11, .iload_n 3, 1), (12, .putfield 56, 3), (15, .return_, 1)] : List (Nat × Instr × Nat)).all (fun q => decide (decode cX12_leaveOut q.1 = .ok (q.2.1, q.2.2))) = true := by decide +kernel
theorem dX12_leaveOut_0 : decode cX12_leaveOut 0 = .ok (.aload_n 0, 1) := all_at dvX12_leaveOut_0 0 rfl
theorem dX12_leaveOut_1 : decode cX12_leaveOut 1 = .ok (.iload_n 1, 1) := all_at dvX12_leaveOut_0 1 rfl
theorem dX12_leaveOut_2 : decode cX12_leaveOut 2 = .ok (.putfield 49, 3) := all_at dvX12_leaveOut_0 2 rfl
theorem dX12_leaveOut_5 : decode cX12_leaveOut 5 = .ok (.aload_n 0, 1) := all_at dvX12_leaveOut_0 3 rfl
theorem dX12_leaveOut_6 : decode cX12_leaveOut 6 = .ok (.iload_n 2, 1) := all_at dvX12_leaveOut_0 4 rfl
theorem dX12_leaveOut_7 : decode cX12_leaveOut 7 = .ok (.putfield 53, 3) := all_at dvX12_leaveOut_0 5 rfl
theorem dX12_leaveOut_10 : decode cX12_leaveOut 10 = .ok (.aload_n 0, 1) := all_at dvX12_leaveOut_0 6 rfl
theorem dX12_leaveOut_11 : decode cX12_leaveOut 11 = .ok (.iload_n 3, 1) := all_at dvX12_leaveOut_0 7 rfl
theorem dX12_leaveOut_12 : decode cX12_leaveOut 12 = .ok (.putfield 56, 3) := all_at dvX12_leaveOut_0 8 rfl
theorem dX12_leaveOut_15 : decode cX12_leaveOut 15 = .ok (.return_, 1) := all_at dvX12_leaveOut_0 9 rfl
set_option maxRecDepth 100000 in
theorem dvX12_sumUp_0 : ([(0, .aload_n 0, 1), (1, .lconst 0, 1), (2, .putfield 223, 3), (5, .aload_n 0, 1), (6, .lconst 0, 1), (7, .putfield 227, 3), (10, .aload_n 0, 1), (11, .iconst 0, 1), (12, .putfield 230, 3), (15, .iconst 0, 1), (16, .istore 4, 2), (18, .iload 4, 2), (20, .aload_n 0, 1), (21, .getfield 200, 3), (24, .if_icmp .ge 134, 3), (27, .aload_n 0, 1), (28, .getfield 28, 3), (31, .iload 4, 2), (33, .iaload, 1), (34, .aload_n 0, 1), (35, .getfield 49, 3), (38, .if_icmp .eq 26, 3), (41, .aload_n 0, 1), (42, .getfield 31, 3)] : List (Nat × Instr × Nat)).all (fun q => decide (decode cX12_sumUp q.1 = .ok (q.2.1, q.2.2))) = true := by decide +kernel
theorem dX12_sumUp_0 : decode cX12_sumUp 0 = .ok (.aload_n 0, 1) := all_at dvX12_sumUp_0 0 rfl
theorem dX12_sumUp_1 : decode cX12_sumUp 1 = .ok (.lconst 0, 1) := all_at dvX12_sumUp_0 1 rfl
theorem dX12_sumUp_2 : decode cX12_sumUp 2 = .ok (.putfield 223, 3) := all_at dvX12_sumUp_0 2 rfl
theorem dX12_sumUp_5 : decode cX12_sumUp 5 = .ok (.aload_n 0, 1) := all_at dvX12_sumUp_0 3 rfl
theorem dX12_sumUp_6 : decode cX12_sumUp 6 = .ok (.lconst 0, 1) := all_at dvX12_sumUp_0 4 rfl
theorem dX12_sumUp_7 : decode cX12_sumUp 7 = .ok (.putfield 227, 3) := all_at dvX12_sumUp_0 5 rfl
theorem dX12_sumUp_10 : decode cX12_sumUp 10 = .ok (.aload_n 0, 1) := all_at dvX12_sumUp_0 6 rfl
theorem dX12_sumUp_11 : decode cX12_sumUp 11 = .ok (.iconst 0, 1) := all_at dvX12_sumUp_0 7 rfl
theorem dX12_sumUp_12 : decode cX12_sumUp 12 = .ok (.putfield 230, 3) := all_at dvX12_sumUp_0 8 rfl
theorem dX12_sumUp_15 : decode cX12_sumUp 15 = .ok (.iconst 0, 1) := all_at dvX12_sumUp_0 9 rfl
theorem dX12_sumUp_16 : decode cX12_sumUp 16 = .ok (.istore 4, 2) := all_at dvX12_sumUp_0 10 rfl
theorem dX12_sumUp_18 : decode cX12_sumUp 18 = .ok (.iload 4, 2) := all_at dvX12_sumUp_0 11 rfl
theorem dX12_sumUp_20 : decode cX12_sumUp 20 = .ok (.aload_n 0, 1) := all_at dvX12_sumUp_0 12 rfl
theorem dX12_sumUp_21 : decode cX12_sumUp 21 = .ok (.getfield 200, 3) := all_at dvX12_sumUp_0 13 rfl
theorem dX12_sumUp_24 : decode cX12_sumUp 24 = .ok (.if_icmp .ge 134, 3) := all_at dvX12_sumUp_0 14 rfl
theorem dX12_sumUp_27 : decode cX12_sumUp 27 = .ok (.aload_n 0, 1) := all_at dvX12_sumUp_0 15 rfl
theorem dX12_sumUp_28 : decode cX12_sumUp 28 = .ok (.getfield 28, 3) := all_at dvX12_sumUp_0 16 rfl
theorem dX12_sumUp_31 : decode cX12_sumUp 31 = .ok (.iload 4, 2) := all_at dvX12_sumUp_0 17 rfl
theorem dX12_sumUp_33 : decode cX12_sumUp 33 = .ok (.iaload, 1) := all_at dvX12_sumUp_0 18 rfl
theorem dX12_sumUp_34 : decode cX12_sumUp 34 = .ok (.aload_n 0, 1) := all_at dvX12_sumUp_0 19 rfl
theorem dX12_sumUp_35 : decode cX12_sumUp 35 = .ok (.getfield 49, 3) := all_at dvX12_sumUp_0 20 rfl
theorem dX12_sumUp_38 : decode cX12_sumUp 38 = .ok (.if_icmp .eq 26, 3) := all_at dvX12_sumUp_0 21 rfl
theorem dX12_sumUp_41 : decode cX12_sumUp 41 = .ok (.aload_n 0, 1) := all_at dvX12_sumUp_0 22 rfl
theorem dX12_sumUp_42 : decode cX12_sumUp 42 = .ok (.getfield 31, 3) := all_at dvX12_sumUp_0 23 rfl
set_option maxRecDepth 100000 in
theorem dvX12_sumUp_45 : ([(45, .iload 4, 2), (47, .iaload, 1), (48, .aload_n 0, 1), (49, .getfield 53, 3), (52, .if_icmp .eq 12, 3), (55, .iload 4, 2), (57, .aload_n 0, 1), (58, .getfield 56, 3), (61, .if_icmp .ne 7, 3), (64, .iconst 1, 1), (65, .goto 4, 3), (68, .iconst 0, 1), (69, .istore 5, 2), (71, .aload_n 0, 1), (72, .getfield 13, 3), (75, .iload 4, 2), (77, .iaload, 1), (78, .iload_n 1, 1), (79, .if_icmp .ne 73, 3), (82, .aload_n 0, 1), (83, .getfield 16, 3), (86, .iload 4, 2), (88, .iaload, 1), (89, .iload_n 2, 1)] : List (Nat × Instr × Nat)).all (fun q => decide (decode cX12_sumUp q.1 = .ok (q.2.1, q.2.2))) = true := by decide +kernel
theorem dX12_sumUp_45 : decode cX12_sumUp 45 = .ok (.iload 4, 2) := all_at dvX12_sumUp_45 0 rfl
theorem dX12_sumUp_47 : decode cX12_sumUp 47 = .ok (.iaload, 1) := all_at dvX12_sumUp_45 1 rfl
theorem dX12_sumUp_48 : decode cX12_sumUp 48 = .ok (.aload_n 0, 1) := all_at dvX12_sumUp_45 2 rfl
theorem dX12_sumUp_49 : decode cX12_sumUp 49 = .ok (.getfield 53, 3) := all_at dvX12_sumUp_45 3 rfl
theorem dX12_sumUp_52 : decode cX12_sumUp 52 = .ok (.if_icmp .eq 12, 3) := all_at dvX12_sumUp_45 4 rfl
theorem dX12_sumUp_55 : decode cX12_sumUp 55 = .ok (.iload 4, 2) := all_at dvX12_sumUp_45 5 rfl
theorem dX12_sumUp_57 : decode cX12_sumUp 57 = .ok (.aload_n 0, 1) := all_at dvX12_sumUp_45 6 rfl
theorem dX12_sumUp_58 : decode cX12_sumUp 58 = .ok (.getfield 56, 3) := all_at dvX12_sumUp_45 7 rfl
theorem dX12_sumUp_61 : decode cX12_sumUp 61 = .ok (.if_icmp .ne 7, 3) := all_at dvX12_sumUp_45 8 rfl
theorem dX12_sumUp_64 : decode cX12_sumUp 64 = .ok (.iconst 1, 1) := all_at dvX12_sumUp_45 9 rfl
theorem dX12_sumUp_65 : decode cX12_sumUp 65 = .ok (.goto 4, 3) := all_at dvX12_sumUp_45 10 rfl
theorem dX12_sumUp_68 : decode cX12_sumUp 68 = .ok (.iconst 0, 1) := all_at dvX12_sumUp_45 11 rfl
theorem dX12_sumUp_69 : decode cX12_sumUp 69 = .ok (.istore 5, 2) := all_at dvX12_sumUp_45 12 rfl
theorem dX12_sumUp_71 : decode cX12_sumUp 71 = .ok (.aload_n 0, 1) := all_at dvX12_sumUp_45 13 rfl
theorem dX12_sumUp_72 : decode cX12_sumUp 72 = .ok (.getfield 13, 3) := all_at dvX12_sumUp_45 14 rfl
theorem dX12_sumUp_75 : decode cX12_sumUp 75 = .ok (.iload 4, 2) := all_at dvX12_sumUp_45 15 rfl
theorem dX12_sumUp_77 : decode cX12_sumUp 77 = .ok (.iaload, 1) := all_at dvX12_sumUp_45 16 rfl
theorem dX12_sumUp_78 : decode cX12_sumUp 78 = .ok (.iload_n 1, 1) := all_at dvX12_sumUp_45 17 rfl
theorem dX12_sumUp_79 : decode cX12_sumUp 79 = .ok (.if_icmp .ne 73, 3) := all_at dvX12_sumUp_45 18 rfl
theorem dX12_sumUp_82 : decode cX12_sumUp 82 = .ok (.aload_n 0, 1) := all_at dvX12_sumUp_45 19 rfl
theorem dX12_sumUp_83 : decode cX12_sumUp 83 = .ok (.getfield 16, 3) := all_at dvX12_sumUp_45 20 rfl
theorem dX12_sumUp_86 : decode cX12_sumUp 86 = .ok (.iload 4, 2) := all_at dvX12_sumUp_45 21 rfl
theorem dX12_sumUp_88 : decode cX12_sumUp 88 = .ok (.iaload, 1) := all_at dvX12_sumUp_45 22 rfl
theorem dX12_sumUp_89 : decode cX12_sumUp 89 = .ok (.iload_n 2, 1) := all_at dvX12_sumUp_45 23 rfl
set_option maxRecDepth 100000 in
theorem dvX12_sumUp_90 : ([(90, .if_icmp .ne 62, 3), (93, .aload_n 0, 1), (94, .iload 4, 2), (96, .iload_n 3, 1), (97, .invokevirtual 233, 3), (100, .ifCond .eq 52, 3), (103, .iload 5, 2), (105, .ifCond .ne 47, 3), (108, .aload_n 0, 1), (109, .dup, 1), (110, .getfield 223, 3), (113, .aload_n 0, 1), (114, .getfield 25, 3), (117, .iload 4, 2), (119, .iaload, 1), (120, .i2l, 1), (121, .ladd, 1), (122, .putfield 223, 3), (125, .aload_n 0, 1), (126, .dup, 1), (127, .getfield 227, 3), (130, .aload_n 0, 1), (131, .getfield 22, 3), (134, .iload 4, 2)] : List (Nat × Instr × Nat)).all (fun q => decide (decode cX12_sumUp q.1 = .ok (q.2.1, q.2.2))) = true := by decide +kernel
theorem dX12_sumUp_90 : decode cX12_sumUp 90 = .ok (.if_icmp .ne 62, 3) := all_at dvX12_sumUp_90 0 rfl
theorem dX12_sumUp_93 : decode cX12_sumUp 93 = .ok (.aload_n 0, 1) := all_at dvX12_sumUp_90 1 rfl
theorem dX12_sumUp_94 : decode cX12_sumUp 94 = .ok (.iload 4, 2) := all_at dvX12_sumUp_90 2 rfl
theorem dX12_sumUp_96 : decode cX12_sumUp 96 = .ok (.iload_n 3, 1) := all_at dvX12_sumUp_90 3 rfl
theorem dX12_sumUp_97 : decode cX12_sumUp 97 = .ok (.invokevirtual 233, 3) := all_at dvX12_sumUp_90 4 rfl
theorem dX12_sumUp_100 : decode cX12_sumUp 100 = .ok (.ifCond .eq 52, 3) := all_at dvX12_sumUp_90 5 rfl
theorem dX12_sumUp_103 : decode cX12_sumUp 103 = .ok (.iload 5, 2) := all_at dvX12_sumUp_90 6 rfl
theorem dX12_sumUp_105 : decode cX12_sumUp 105 = .ok (.ifCond .ne 47, 3) := all_at dvX12_sumUp_90 7 rfl
theorem dX12_sumUp_108 : decode cX12_sumUp 108 = .ok (.aload_n 0, 1) := all_at dvX12_sumUp_90 8 rfl
theorem dX12_sumUp_109 : decode cX12_sumUp 109 = .ok (.dup, 1) := all_at dvX12_sumUp_90 9 rfl
theorem dX12_sumUp_110 : decode cX12_sumUp 110 = .ok (.getfield 223, 3) := all_at dvX12_sumUp_90 10 rfl
theorem dX12_sumUp_113 : decode cX12_sumUp 113 = .ok (.aload_n 0, 1) := all_at dvX12_sumUp_90 11 rfl
theorem dX12_sumUp_114 : decode cX12_sumUp 114 = .ok (.getfield 25, 3) := all_at dvX12_sumUp_90 12 rfl
theorem dX12_sumUp_117 : decode cX12_sumUp 117 = .ok (.iload 4, 2) := all_at dvX12_sumUp_90 13 rfl
theorem dX12_sumUp_119 : decode cX12_sumUp 119 = .ok (.iaload, 1) := all_at dvX12_sumUp_90 14 rfl
theorem dX12_sumUp_120 : decode cX12_sumUp 120 = .ok (.i2l, 1) := all_at dvX12_sumUp_90 15 rfl
theorem dX12_sumUp_121 : decode cX12_sumUp 121 = .ok (.ladd, 1) := all_at dvX12_sumUp_90 16 rfl
theorem dX12_sumUp_122 : decode cX12_sumUp 122 = .ok (.putfield 223, 3) := all_at dvX12_sumUp_90 17 rfl
theorem dX12_sumUp_125 : decode cX12_sumUp 125 = .ok (.aload_n 0, 1) := all_at dvX12_sumUp_90 18 rfl
theorem dX12_sumUp_126 : decode cX12_sumUp 126 = .ok (.dup, 1) := all_at dvX12_sumUp_90 19 rfl
theorem dX12_sumUp_127 : decode cX12_sumUp 127 = .ok (.getfield 227, 3) := all_at dvX12_sumUp_90 20 rfl
theorem dX12_sumUp_130 : decode cX12_sumUp 130 = .ok (.aload_n 0, 1) := all_at dvX12_sumUp_90 21 rfl
theorem dX12_sumUp_131 : decode cX12_sumUp 131 = .ok (.getfield 22, 3) := all_at dvX12_sumUp_90 22 rfl
theorem dX12_sumUp_134 : decode cX12_sumUp 134 = .ok (.iload 4, 2) := all_at dvX12_sumUp_90 23 rfl
set_option maxRecDepth 100000 in
theorem dvX12_sumUp_136 : ([(136, .iaload, 1), (137, .i2l, 1), (138, .ladd, 1), (139, .putfield 227, 3), (142, .aload_n 0, 1), (143, .dup, 1), (144, .getfield 230, 3), (147, .iconst 1, 1), (148, .iadd, 1), (149, .putfield 230, 3), (152, .iinc 4 1, 3), (155, .goto (-137), 3), (158, .aload_n 0, 1), (159, .getfield 230, 3), (162, .ireturn, 1)] : List (Nat × Instr × Nat)).all (fun q => decide (decode cX12_sumUp q.1 = .ok (q.2.1, q.2.2))) = true := by decide +kernel
theorem dX12_sumUp_136 : decode cX12_sumUp 136 = .ok (.iaload, 1) := all_at dvX12_sumUp_136 0 rfl
theorem dX12_sumUp_137 : decode cX12_sumUp 137 = .ok (.i2l, 1) := all_at dvX12_sumUp_136 1 rfl
theorem dX12_sumUp_138 : decode cX12_sumUp 138 = .ok (.ladd, 1) := all_at dvX12_sumUp_136 2 rfl
theorem dX12_sumUp_139 : decode cX12_sumUp 139 = .ok (.putfield 227, 3) := all_at dvX12_sumUp_136 3 rfl
theorem dX12_sumUp_142 : decode cX12_sumUp 142 = .ok (.aload_n 0, 1) := all_at dvX12_sumUp_136 4 rfl
theorem dX12_sumUp_143 : decode cX12_sumUp 143 = .ok (.dup, 1) := all_at dvX12_sumUp_136 5 rfl
theorem dX12_sumUp_144 : decode cX12_sumUp 144 = .ok (.getfield 230, 3) := all_at dvX12_sumUp_136 6 rfl
theorem dX12_sumUp_147 : decode cX12_sumUp 147 = .ok (.iconst 1, 1) := all_at dvX12_sumUp_136 7 rfl
theorem dX12_sumUp_148 : decode cX12_sumUp 148 = .ok (.iadd, 1) := all_at dvX12_sumUp_136 8 rfl
theorem dX12_sumUp_149 : decode cX12_sumUp 149 = .ok (.putfield 230, 3) := all_at dvX12_sumUp_136 9 rfl
theorem dX12_sumUp_152 : decode cX12_sumUp 152 = .ok (.iinc 4 1, 3) := all_at dvX12_sumUp_136 10 rfl
theorem dX12_sumUp_155 : decode cX12_sumUp 155 = .ok (.goto (-137), 3) := all_at dvX12_sumUp_136 11 rfl
theorem dX12_sumUp_158 : decode cX12_sumUp 158 = .ok (.aload_n 0, 1) := all_at dvX12_sumUp_136 12 rfl
theorem dX12_sumUp_159 : decode cX12_sumUp 159 = .ok (.getfield 230, 3) := all_at dvX12_sumUp_136 13 rfl
theorem dX12_sumUp_162 : decode cX12_sumUp 162 = .ok (.ireturn, 1) := all_at dvX12_sumUp_136 14 rfl
set_option maxHeartbeats 4000000 in
set_option maxRecDepth 100000 in
/-- X12_errorOf -/
theorem c_X12_errorOf (l : Launch) (dC : Nat → ClassId) (dI : Nat → Nat → Nat) (h : Nat) (g : Nat → Nat → Nat) (ca : Nat → Nat → ClassId) (iv : Nat → Nat → Int32) (lv : Nat → Nat → Int64) (fa : Nat → Nat → Nat → Int32) (la : Nat → Nat → Nat → Int64) (hI : IX iv fa) (a : Int32) (b : Int32) (d : Int32) (h_d : 0 ≤ d.toInt ∧ d.toInt ≤ 1) : Met l yX12_errorOf (wc yX12_errorOf cX12_errorOf 8 (some .int)) ({ frames := 0, cells := 0, slots := 0, locals := 0 } : Room) (pR (dC, dI) classes (WM h g ca iv lv fa la) (TM ca) [.ref h, .int a, .int b, .int d]) (vp_Si (fun r => True)) 0 0 (fun _ => False) := by
  refine Met.ofW (cc := cX12_errorOf) (maxL := 8) (ret := (some .int)) (by decide) rfl ?_
  intro p e s m args below meth c s₁ B hml hv
  obtain ⟨rfl, hP, hK⟩ := hv
  have hx := B.exec
  have hb := B.bytes
  have hr := B.returns
  have ht := tb_tl (atoms_spec (ws := wc yX12_errorOf cX12_errorOf 8 (some .int)) B.pre)
  have hown : s.vm.findClass RX12 = some m.cls := findClass_of_methodNamed B.named
  have hlocks := B.notSynchronized
  have hl := lv_entry [.ref h, .int a, .int b, .int d] (n := 8) (Nat.le_of_ble_eq_true rfl)
  rw [lg_entry_eq]
  generalize (lg_sl [.ref h, .int a, .int b, .int d] ++ List.replicate (8 - (lg_sl [.ref h, .int a, .int b, .int d]).length) Slot.unset).toArray = ls at hl ⊢
  have hl : lv_has ls 8 [(0, .ref h), (1, .int a), (2, .int b), (3, .int d)] := hl
  refine lv_iconst (v := (-1)) hx hb dX12_errorOf_0 (by decide) ?_
  refine lv_istore (lv' := [(4, .int (-1)), (0, .ref h), (1, .int a), (2, .int b), (3, .int d)]) hx hb dX12_errorOf_1 hl (by decide) rfl (fun ls hl => ?_)
  refine lv_iconst (v := (-1)) hx hb dX12_errorOf_3 (by decide) ?_
  refine lv_istore (lv' := [(5, .int (-1)), (4, .int (-1)), (0, .ref h), (1, .int a), (2, .int b), (3, .int d)]) hx hb dX12_errorOf_4 hl (by decide) rfl (fun ls hl => ?_)
  refine lv_iconst (v := 0) hx hb dX12_errorOf_6 (by decide) ?_
  refine lv_istore (lv' := [(6, .int 0), (5, .int (-1)), (4, .int (-1)), (0, .ref h), (1, .int a), (2, .int b), (3, .int d)]) hx hb dX12_errorOf_7 hl (by decide) rfl (fun ls hl => ?_)
  have lp645 : ∀ (nn645 : Nat) (x644_6 : Int32) (x644_5 : Int32) (x644_4 : Int32), 0 ≤ x644_6.toInt ∧ x644_6.toInt ≤ 30 → (-1) ≤ x644_5.toInt ∧ x644_5.toInt ≤ 29 → (-1) ≤ x644_4.toInt ∧ x644_4.toInt ≤ 29 → 30 - x644_6.toInt < (nn645 : Int) → ∀ (ls : Array Slot), lv_has ls 8 [(6, .int x644_6), (5, .int x644_5), (4, .int x644_4), (0, .ref h), (1, .int a), (2, .int b), (3, .int d)] → W p l e ({ frames := 0, cells := 0, slots := 0, locals := 0 } : Room) s m ([.ref h, .int a, .int b, .int d] : List Value).toArray below meth c s.heap [] 0 0 (MQ below (vp_Si (fun r => True)) ([.ref h, .int a, .int b, .int d] : List Value).toArray s 0 0 (fun _ => False)) (F0 m 9 ls []) := by
    intro nn645
    induction nn645 with
    | zero => intro x644_6 x644_5 x644_4 hx644_6 hx644_5 hx644_4 hm645; exfalso; omega
    | succ nn645 ih645 =>
      intro x644_6 x644_5 x644_4 hx644_6 hx644_5 hx644_4 hm645 ls hl
      refine lv_iload hx hb dX12_errorOf_9 (lv_at hl 0 rfl) ?_
      refine lv_aload_n hx hb dX12_errorOf_11 rfl (lv_at hl 3 rfl) ?_
      have i_12_13 : 0 ≤ (iv 12 13).toInt ∧ (iv 12 13).toInt ≤ 30 := hI.1 12 13
      refine gM_12_13 hx hb ht hown hK hP m_1152 (v := (iv 12 13)) rfl dX12_errorOf_12 ?_
      refine lv_icmp_ge (tgt := 80) hx hb dX12_errorOf_15 (by decide) (fun c646 => ?_) (fun c646 => ?_)
      · have fc646 := z_le (rfl : ((iv 12 13)).toInt = _) (rfl : (x644_6).toInt = _) c646
        refine lv_iload hx hb dX12_errorOf_80 (lv_at hl 2 rfl) ?_
        refine lv_if_ge (tgt := 92) hx hb dX12_errorOf_82 (by decide) (fun c647 => ?_) (fun c647 => ?_)
        · have fc647 := z_le (by decide : (0 : Int32).toInt = 0) (rfl : (x644_4).toInt = _) c647
          refine lv_aload_n hx hb dX12_errorOf_92 rfl (lv_at hl 3 rfl) ?_
          refine gM_12_15 hx hb ht hown hK hP m_1154 dX12_errorOf_93 ?_
          refine lv_iload hx hb dX12_errorOf_96 (lv_at hl 2 rfl) ?_
          refine lv_if_ge (tgt := 106) hx hb dX12_errorOf_98 (by decide) (fun c648 => ?_) (fun c648 => ?_)
          · skip
            refine lv_iload hx hb dX12_errorOf_106 (lv_at hl 2 rfl) ?_
            refine lM_12_15 hx hb hK hP (f := (fa 12 15)) rfl (vp_in_iff.mpr ⟨by omega, by omega⟩) dX12_errorOf_108 ?_
            refine lv_topi (fun v649 ev649 => ?_)
            refine lv_istore (lv' := [(6, .int v649), (5, .int x644_5), (4, .int x644_4), (0, .ref h), (1, .int a), (2, .int b), (3, .int d)]) hx hb dX12_errorOf_109 hl (by decide) rfl (fun ls hl => ?_)
            refine lv_aload_n hx hb dX12_errorOf_111 rfl (lv_at hl 3 rfl) ?_
            refine gM_12_15 hx hb ht hown hK hP m_1154 dX12_errorOf_112 ?_
            refine lv_iload hx hb dX12_errorOf_115 (lv_at hl 1 rfl) ?_
            refine lv_if_ge (tgt := 125) hx hb dX12_errorOf_117 (by decide) (fun c650 => ?_) (fun c650 => ?_)
            · have fc650 := z_le (by decide : (0 : Int32).toInt = 0) (rfl : (x644_5).toInt = _) c650
              refine lv_iload hx hb dX12_errorOf_125 (lv_at hl 1 rfl) ?_
              refine lM_12_15 hx hb hK hP (f := (fa 12 15)) rfl (vp_in_iff.mpr ⟨by omega, by omega⟩) dX12_errorOf_127 ?_
              refine lv_topi (fun v651 ev651 => ?_)
              refine lv_istore (lv' := [(7, .int v651), (6, .int v649), (5, .int x644_5), (4, .int x644_4), (0, .ref h), (1, .int a), (2, .int b), (3, .int d)]) hx hb dX12_errorOf_128 hl (by decide) rfl (fun ls hl => ?_)
              refine lv_iload_n hx hb dX12_errorOf_130 rfl (lv_at hl 7 rfl) ?_
              refine lv_iload hx hb dX12_errorOf_131 (lv_at hl 1 rfl) ?_
              refine lv_iload hx hb dX12_errorOf_133 (lv_at hl 0 rfl) ?_
              refine lv_icmp_le (tgt := 142) hx hb dX12_errorOf_135 (by decide) (fun c652 => ?_) (fun c652 => ?_)
              · have fc652 := z_le (rfl : (v649).toInt = _) (rfl : (v651).toInt = _) c652
                refine lv_iconst (v := 0) hx hb dX12_errorOf_142 (by decide) ?_
                refine lv_icmp_ne (tgt := 151) hx hb dX12_errorOf_143 (by decide) (fun c653 => ?_) (fun c653 => ?_)
                · have fc653 := z_ne (rfl : (d).toInt = _) (by decide : (0 : Int32).toInt = 0) c653
                  refine lv_iload hx hb dX12_errorOf_151 (lv_at hl 0 rfl) ?_
                  exact W.iret (v := v651) hx hb hr (fun t ht9 hW => ⟨v651, rfl, trivial, ht9⟩) (fun q hq => by cases hq) dX12_errorOf_153
                · have fc653 := z_eq (rfl : (d).toInt = _) (by decide : (0 : Int32).toInt = 0) c653
                  refine lv_iload hx hb dX12_errorOf_146 (lv_at hl 1 rfl) ?_
                  refine lv_goto (tgt := 153) hx hb dX12_errorOf_148 (by decide) ?_
                  exact W.iret (v := v649) hx hb hr (fun t ht9 hW => ⟨v649, rfl, trivial, ht9⟩) (fun q hq => by cases hq) dX12_errorOf_153
              · have fc652 := z_nle (rfl : (v649).toInt = _) (rfl : (v651).toInt = _) c652
                refine lv_iconst (v := 1) hx hb dX12_errorOf_138 (by decide) ?_
                refine lv_goto (tgt := 143) hx hb dX12_errorOf_139 (by decide) ?_
                refine lv_icmp_ne (tgt := 151) hx hb dX12_errorOf_143 (by decide) (fun c654 => ?_) (fun c654 => ?_)
                · have fc654 := z_ne (rfl : (d).toInt = _) (by decide : (1 : Int32).toInt = 1) c654
                  refine lv_iload hx hb dX12_errorOf_151 (lv_at hl 0 rfl) ?_
                  exact W.iret (v := v651) hx hb hr (fun t ht9 hW => ⟨v651, rfl, trivial, ht9⟩) (fun q hq => by cases hq) dX12_errorOf_153
                · have fc654 := z_eq (rfl : (d).toInt = _) (by decide : (1 : Int32).toInt = 1) c654
                  refine lv_iload hx hb dX12_errorOf_146 (lv_at hl 1 rfl) ?_
                  refine lv_goto (tgt := 153) hx hb dX12_errorOf_148 (by decide) ?_
                  exact W.iret (v := v649) hx hb hr (fun t ht9 hW => ⟨v649, rfl, trivial, ht9⟩) (fun q hq => by cases hq) dX12_errorOf_153
            · have fc650 := z_nle (by decide : (0 : Int32).toInt = 0) (rfl : (x644_5).toInt = _) c650
              refine lv_iload hx hb dX12_errorOf_120 (lv_at hl 2 rfl) ?_
              refine lv_goto (tgt := 127) hx hb dX12_errorOf_122 (by decide) ?_
              refine lM_12_15 hx hb hK hP (f := (fa 12 15)) rfl (vp_in_iff.mpr ⟨by omega, by omega⟩) dX12_errorOf_127 ?_
              refine lv_topi (fun v655 ev655 => ?_)
              obtain rfl : v649 = v655 := ev649.trans ev655.symm
              refine lv_istore (lv' := [(7, .int v649), (6, .int v649), (5, .int x644_5), (4, .int x644_4), (0, .ref h), (1, .int a), (2, .int b), (3, .int d)]) hx hb dX12_errorOf_128 hl (by decide) rfl (fun ls hl => ?_)
              refine lv_iload_n hx hb dX12_errorOf_130 rfl (lv_at hl 7 rfl) ?_
              refine lv_iload hx hb dX12_errorOf_131 (lv_at hl 1 rfl) ?_
              refine lv_iload hx hb dX12_errorOf_133 (lv_at hl 0 rfl) ?_
              refine lv_icmp_le (tgt := 142) hx hb dX12_errorOf_135 (by decide) (fun c656 => ?_) (fun c656 => ?_)
              · have fc656 := z_le (rfl : (v649).toInt = _) (rfl : (v649).toInt = _) c656
                refine lv_iconst (v := 0) hx hb dX12_errorOf_142 (by decide) ?_
                refine lv_icmp_ne (tgt := 151) hx hb dX12_errorOf_143 (by decide) (fun c657 => ?_) (fun c657 => ?_)
                · have fc657 := z_ne (rfl : (d).toInt = _) (by decide : (0 : Int32).toInt = 0) c657
                  refine lv_iload hx hb dX12_errorOf_151 (lv_at hl 0 rfl) ?_
                  exact W.iret (v := v649) hx hb hr (fun t ht9 hW => ⟨v649, rfl, trivial, ht9⟩) (fun q hq => by cases hq) dX12_errorOf_153
                · have fc657 := z_eq (rfl : (d).toInt = _) (by decide : (0 : Int32).toInt = 0) c657
                  refine lv_iload hx hb dX12_errorOf_146 (lv_at hl 1 rfl) ?_
                  refine lv_goto (tgt := 153) hx hb dX12_errorOf_148 (by decide) ?_
                  exact W.iret (v := v649) hx hb hr (fun t ht9 hW => ⟨v649, rfl, trivial, ht9⟩) (fun q hq => by cases hq) dX12_errorOf_153
              · have fc656 := z_nle (rfl : (v649).toInt = _) (rfl : (v649).toInt = _) c656
                refine lv_iconst (v := 1) hx hb dX12_errorOf_138 (by decide) ?_
                refine lv_goto (tgt := 143) hx hb dX12_errorOf_139 (by decide) ?_
                refine lv_icmp_ne (tgt := 151) hx hb dX12_errorOf_143 (by decide) (fun c658 => ?_) (fun c658 => ?_)
                · have fc658 := z_ne (rfl : (d).toInt = _) (by decide : (1 : Int32).toInt = 1) c658
                  refine lv_iload hx hb dX12_errorOf_151 (lv_at hl 0 rfl) ?_
                  exact W.iret (v := v649) hx hb hr (fun t ht9 hW => ⟨v649, rfl, trivial, ht9⟩) (fun q hq => by cases hq) dX12_errorOf_153
                · have fc658 := z_eq (rfl : (d).toInt = _) (by decide : (1 : Int32).toInt = 1) c658
                  refine lv_iload hx hb dX12_errorOf_146 (lv_at hl 1 rfl) ?_
                  refine lv_goto (tgt := 153) hx hb dX12_errorOf_148 (by decide) ?_
                  exact W.iret (v := v649) hx hb hr (fun t ht9 hW => ⟨v649, rfl, trivial, ht9⟩) (fun q hq => by cases hq) dX12_errorOf_153
          · have fc648 := z_nle (by decide : (0 : Int32).toInt = 0) (rfl : (x644_4).toInt = _) c648; exfalso; omega
        · have fc647 := z_nle (by decide : (0 : Int32).toInt = 0) (rfl : (x644_4).toInt = _) c647
          refine lv_iload hx hb dX12_errorOf_85 (lv_at hl 1 rfl) ?_
          refine lv_if_ge (tgt := 92) hx hb dX12_errorOf_87 (by decide) (fun c659 => ?_) (fun c659 => ?_)
          · have fc659 := z_le (by decide : (0 : Int32).toInt = 0) (rfl : (x644_5).toInt = _) c659
            refine lv_aload_n hx hb dX12_errorOf_92 rfl (lv_at hl 3 rfl) ?_
            refine gM_12_15 hx hb ht hown hK hP m_1154 dX12_errorOf_93 ?_
            refine lv_iload hx hb dX12_errorOf_96 (lv_at hl 2 rfl) ?_
            refine lv_if_ge (tgt := 106) hx hb dX12_errorOf_98 (by decide) (fun c660 => ?_) (fun c660 => ?_)
            · have fc660 := z_le (by decide : (0 : Int32).toInt = 0) (rfl : (x644_4).toInt = _) c660; exfalso; omega
            · skip
              refine lv_iload hx hb dX12_errorOf_101 (lv_at hl 1 rfl) ?_
              refine lv_goto (tgt := 108) hx hb dX12_errorOf_103 (by decide) ?_
              refine lM_12_15 hx hb hK hP (f := (fa 12 15)) rfl (vp_in_iff.mpr ⟨by omega, by omega⟩) dX12_errorOf_108 ?_
              refine lv_topi (fun v661 ev661 => ?_)
              refine lv_istore (lv' := [(6, .int v661), (5, .int x644_5), (4, .int x644_4), (0, .ref h), (1, .int a), (2, .int b), (3, .int d)]) hx hb dX12_errorOf_109 hl (by decide) rfl (fun ls hl => ?_)
              refine lv_aload_n hx hb dX12_errorOf_111 rfl (lv_at hl 3 rfl) ?_
              refine gM_12_15 hx hb ht hown hK hP m_1154 dX12_errorOf_112 ?_
              refine lv_iload hx hb dX12_errorOf_115 (lv_at hl 1 rfl) ?_
              refine lv_if_ge (tgt := 125) hx hb dX12_errorOf_117 (by decide) (fun c662 => ?_) (fun c662 => ?_)
              · skip
                refine lv_iload hx hb dX12_errorOf_125 (lv_at hl 1 rfl) ?_
                refine lM_12_15 hx hb hK hP (f := (fa 12 15)) rfl (vp_in_iff.mpr ⟨by omega, by omega⟩) dX12_errorOf_127 ?_
                refine lv_topi (fun v663 ev663 => ?_)
                obtain rfl : v661 = v663 := ev661.trans ev663.symm
                refine lv_istore (lv' := [(7, .int v661), (6, .int v661), (5, .int x644_5), (4, .int x644_4), (0, .ref h), (1, .int a), (2, .int b), (3, .int d)]) hx hb dX12_errorOf_128 hl (by decide) rfl (fun ls hl => ?_)
                refine lv_iload_n hx hb dX12_errorOf_130 rfl (lv_at hl 7 rfl) ?_
                refine lv_iload hx hb dX12_errorOf_131 (lv_at hl 1 rfl) ?_
                refine lv_iload hx hb dX12_errorOf_133 (lv_at hl 0 rfl) ?_
                refine lv_icmp_le (tgt := 142) hx hb dX12_errorOf_135 (by decide) (fun c664 => ?_) (fun c664 => ?_)
                · have fc664 := z_le (rfl : (v661).toInt = _) (rfl : (v661).toInt = _) c664
                  refine lv_iconst (v := 0) hx hb dX12_errorOf_142 (by decide) ?_
                  refine lv_icmp_ne (tgt := 151) hx hb dX12_errorOf_143 (by decide) (fun c665 => ?_) (fun c665 => ?_)
                  · have fc665 := z_ne (rfl : (d).toInt = _) (by decide : (0 : Int32).toInt = 0) c665
                    refine lv_iload hx hb dX12_errorOf_151 (lv_at hl 0 rfl) ?_
                    exact W.iret (v := v661) hx hb hr (fun t ht9 hW => ⟨v661, rfl, trivial, ht9⟩) (fun q hq => by cases hq) dX12_errorOf_153
                  · have fc665 := z_eq (rfl : (d).toInt = _) (by decide : (0 : Int32).toInt = 0) c665
                    refine lv_iload hx hb dX12_errorOf_146 (lv_at hl 1 rfl) ?_
                    refine lv_goto (tgt := 153) hx hb dX12_errorOf_148 (by decide) ?_
                    exact W.iret (v := v661) hx hb hr (fun t ht9 hW => ⟨v661, rfl, trivial, ht9⟩) (fun q hq => by cases hq) dX12_errorOf_153
                · have fc664 := z_nle (rfl : (v661).toInt = _) (rfl : (v661).toInt = _) c664
                  refine lv_iconst (v := 1) hx hb dX12_errorOf_138 (by decide) ?_
                  refine lv_goto (tgt := 143) hx hb dX12_errorOf_139 (by decide) ?_
                  refine lv_icmp_ne (tgt := 151) hx hb dX12_errorOf_143 (by decide) (fun c666 => ?_) (fun c666 => ?_)
                  · have fc666 := z_ne (rfl : (d).toInt = _) (by decide : (1 : Int32).toInt = 1) c666
                    refine lv_iload hx hb dX12_errorOf_151 (lv_at hl 0 rfl) ?_
                    exact W.iret (v := v661) hx hb hr (fun t ht9 hW => ⟨v661, rfl, trivial, ht9⟩) (fun q hq => by cases hq) dX12_errorOf_153
                  · have fc666 := z_eq (rfl : (d).toInt = _) (by decide : (1 : Int32).toInt = 1) c666
                    refine lv_iload hx hb dX12_errorOf_146 (lv_at hl 1 rfl) ?_
                    refine lv_goto (tgt := 153) hx hb dX12_errorOf_148 (by decide) ?_
                    exact W.iret (v := v661) hx hb hr (fun t ht9 hW => ⟨v661, rfl, trivial, ht9⟩) (fun q hq => by cases hq) dX12_errorOf_153
              · have fc662 := z_nle (by decide : (0 : Int32).toInt = 0) (rfl : (x644_5).toInt = _) c662; exfalso; omega
          · have fc659 := z_nle (by decide : (0 : Int32).toInt = 0) (rfl : (x644_5).toInt = _) c659
            refine lv_iconst (v := 0) hx hb dX12_errorOf_90 (by decide) ?_
            exact W.iret (v := 0) hx hb hr (fun t ht9 hW => ⟨0, rfl, trivial, ht9⟩) (fun q hq => by cases hq) dX12_errorOf_91
      · have fc646 := z_nle (rfl : ((iv 12 13)).toInt = _) (rfl : (x644_6).toInt = _) c646
        refine lv_aload_n hx hb dX12_errorOf_18 rfl (lv_at hl 3 rfl) ?_
        refine gM_12_14 hx hb ht hown hK hP m_1153 dX12_errorOf_19 ?_
        refine lv_iload hx hb dX12_errorOf_22 (lv_at hl 0 rfl) ?_
        refine lM_12_14 hx hb hK hP (f := (fa 12 14)) rfl (vp_in_iff.mpr ⟨by omega, by omega⟩) dX12_errorOf_24 ?_
        refine lv_topi (fun v667 ev667 => ?_)
        refine lv_iload_n hx hb dX12_errorOf_25 rfl (lv_at hl 4 rfl) ?_
        refine lv_icmp_ne (tgt := 74) hx hb dX12_errorOf_26 (by decide) (fun c668 => ?_) (fun c668 => ?_)
        · have fc668 := z_ne (rfl : (v667).toInt = _) (rfl : (a).toInt = _) c668
          obtain ⟨v669, ev669⟩ : ∃ y : Int32, y = x644_6 + 1 := ⟨_, rfl⟩
          have tv669 := z_add ev669 rfl (by decide : (1 : Int32).toInt = 1) (by omega) (by omega)
          refine lv_iinc (v := v669) (lv' := [(6, .int v669), (5, .int x644_5), (4, .int x644_4), (0, .ref h), (1, .int a), (2, .int b), (3, .int d)]) hx hb dX12_errorOf_74 hl (k := 0) rfl (by rw [ev669]; rfl) (by decide) rfl (fun ls hl => ?_)
          refine lv_goto (tgt := 9) hx hb dX12_errorOf_77 (by decide) ?_
          exact ih645 v669 x644_5 x644_4 ⟨by omega, by omega⟩ ⟨by omega, by omega⟩ ⟨by omega, by omega⟩ (by omega) ls (lv_sub hl [0, 1, 2, 3, 4, 5, 6] rfl)
        · have fc668 := z_eq (rfl : (v667).toInt = _) (rfl : (a).toInt = _) c668
          refine lv_aload_n hx hb dX12_errorOf_29 rfl (lv_at hl 3 rfl) ?_
          refine gM_12_16 hx hb ht hown hK hP m_1155 dX12_errorOf_30 ?_
          refine lv_iload hx hb dX12_errorOf_33 (lv_at hl 0 rfl) ?_
          refine lM_12_16 hx hb hK hP (f := (fa 12 16)) rfl (vp_in_iff.mpr ⟨by omega, by omega⟩) dX12_errorOf_35 ?_
          refine lv_topi (fun v670 ev670 => ?_)
          refine lv_iload_n hx hb dX12_errorOf_36 rfl (lv_at hl 5 rfl) ?_
          refine lv_icmp_gt (tgt := 45) hx hb dX12_errorOf_37 (by decide) (fun c671 => ?_) (fun c671 => ?_)
          · have fc671 := z_lt (rfl : (b).toInt = _) (rfl : (v670).toInt = _) c671
            refine lv_iload hx hb dX12_errorOf_45 (lv_at hl 2 rfl) ?_
            refine lv_istore (lv' := [(4, .int x644_4), (6, .int x644_6), (5, .int x644_5), (0, .ref h), (1, .int a), (2, .int b), (3, .int d)]) hx hb dX12_errorOf_47 hl (by decide) rfl (fun ls hl => ?_)
            refine lv_aload_n hx hb dX12_errorOf_49 rfl (lv_at hl 3 rfl) ?_
            refine gM_12_16 hx hb ht hown hK hP m_1155 dX12_errorOf_50 ?_
            refine lv_iload hx hb dX12_errorOf_53 (lv_at hl 1 rfl) ?_
            refine lM_12_16 hx hb hK hP (f := (fa 12 16)) rfl (vp_in_iff.mpr ⟨by omega, by omega⟩) dX12_errorOf_55 ?_
            refine lv_topi (fun v672 ev672 => ?_)
            obtain rfl : v670 = v672 := ev670.trans ev672.symm
            refine lv_iload_n hx hb dX12_errorOf_56 rfl (lv_at hl 5 rfl) ?_
            refine lv_icmp_le (tgt := 70) hx hb dX12_errorOf_57 (by decide) (fun c673 => ?_) (fun c673 => ?_)
            · have fc673 := z_le (rfl : (v670).toInt = _) (rfl : (b).toInt = _) c673
              refine lv_iload hx hb dX12_errorOf_70 (lv_at hl 2 rfl) ?_
              refine lv_istore (lv' := [(5, .int x644_5), (4, .int x644_4), (6, .int x644_6), (0, .ref h), (1, .int a), (2, .int b), (3, .int d)]) hx hb dX12_errorOf_72 hl (by decide) rfl (fun ls hl => ?_)
              obtain ⟨v674, ev674⟩ : ∃ y : Int32, y = x644_6 + 1 := ⟨_, rfl⟩
              have tv674 := z_add ev674 rfl (by decide : (1 : Int32).toInt = 1) (by omega) (by omega)
              refine lv_iinc (v := v674) (lv' := [(6, .int v674), (5, .int x644_5), (4, .int x644_4), (0, .ref h), (1, .int a), (2, .int b), (3, .int d)]) hx hb dX12_errorOf_74 hl (k := 2) rfl (by rw [ev674]; rfl) (by decide) rfl (fun ls hl => ?_)
              refine lv_goto (tgt := 9) hx hb dX12_errorOf_77 (by decide) ?_
              exact ih645 v674 x644_5 x644_4 ⟨by omega, by omega⟩ ⟨by omega, by omega⟩ ⟨by omega, by omega⟩ (by omega) ls (lv_sub hl [0, 1, 2, 3, 4, 5, 6] rfl)
            · have fc673 := z_nle (rfl : (v670).toInt = _) (rfl : (b).toInt = _) c673
              refine lv_iload hx hb dX12_errorOf_60 (lv_at hl 2 rfl) ?_
              refine lv_if_ge (tgt := 70) hx hb dX12_errorOf_62 (by decide) (fun c675 => ?_) (fun c675 => ?_)
              · have fc675 := z_le (by decide : (0 : Int32).toInt = 0) (rfl : (x644_5).toInt = _) c675
                refine lv_iload hx hb dX12_errorOf_70 (lv_at hl 2 rfl) ?_
                refine lv_istore (lv' := [(5, .int x644_5), (4, .int x644_4), (6, .int x644_6), (0, .ref h), (1, .int a), (2, .int b), (3, .int d)]) hx hb dX12_errorOf_72 hl (by decide) rfl (fun ls hl => ?_)
                obtain ⟨v676, ev676⟩ : ∃ y : Int32, y = x644_6 + 1 := ⟨_, rfl⟩
                have tv676 := z_add ev676 rfl (by decide : (1 : Int32).toInt = 1) (by omega) (by omega)
                refine lv_iinc (v := v676) (lv' := [(6, .int v676), (5, .int x644_5), (4, .int x644_4), (0, .ref h), (1, .int a), (2, .int b), (3, .int d)]) hx hb dX12_errorOf_74 hl (k := 2) rfl (by rw [ev676]; rfl) (by decide) rfl (fun ls hl => ?_)
                refine lv_goto (tgt := 9) hx hb dX12_errorOf_77 (by decide) ?_
                exact ih645 v676 x644_5 x644_4 ⟨by omega, by omega⟩ ⟨by omega, by omega⟩ ⟨by omega, by omega⟩ (by omega) ls (lv_sub hl [0, 1, 2, 3, 4, 5, 6] rfl)
              · have fc675 := z_nle (by decide : (0 : Int32).toInt = 0) (rfl : (x644_5).toInt = _) c675
                refine lv_iload hx hb dX12_errorOf_65 (lv_at hl 1 rfl) ?_
                refine lv_goto (tgt := 72) hx hb dX12_errorOf_67 (by decide) ?_
                refine lv_istore (lv' := [(5, .int x644_6), (4, .int x644_4), (6, .int x644_6), (0, .ref h), (1, .int a), (2, .int b), (3, .int d)]) hx hb dX12_errorOf_72 hl (by decide) rfl (fun ls hl => ?_)
                obtain ⟨v677, ev677⟩ : ∃ y : Int32, y = x644_6 + 1 := ⟨_, rfl⟩
                have tv677 := z_add ev677 rfl (by decide : (1 : Int32).toInt = 1) (by omega) (by omega)
                refine lv_iinc (v := v677) (lv' := [(6, .int v677), (5, .int x644_6), (4, .int x644_4), (0, .ref h), (1, .int a), (2, .int b), (3, .int d)]) hx hb dX12_errorOf_74 hl (k := 2) rfl (by rw [ev677]; rfl) (by decide) rfl (fun ls hl => ?_)
                refine lv_goto (tgt := 9) hx hb dX12_errorOf_77 (by decide) ?_
                exact ih645 v677 x644_6 x644_4 ⟨by omega, by omega⟩ ⟨by omega, by omega⟩ ⟨by omega, by omega⟩ (by omega) ls (lv_sub hl [0, 1, 2, 3, 4, 5, 6] rfl)
          · have fc671 := z_nlt (rfl : (b).toInt = _) (rfl : (v670).toInt = _) c671
            refine lv_iload hx hb dX12_errorOf_40 (lv_at hl 0 rfl) ?_
            refine lv_goto (tgt := 47) hx hb dX12_errorOf_42 (by decide) ?_
            refine lv_istore (lv' := [(4, .int x644_6), (6, .int x644_6), (5, .int x644_5), (0, .ref h), (1, .int a), (2, .int b), (3, .int d)]) hx hb dX12_errorOf_47 hl (by decide) rfl (fun ls hl => ?_)
            refine lv_aload_n hx hb dX12_errorOf_49 rfl (lv_at hl 3 rfl) ?_
            refine gM_12_16 hx hb ht hown hK hP m_1155 dX12_errorOf_50 ?_
            refine lv_iload hx hb dX12_errorOf_53 (lv_at hl 1 rfl) ?_
            refine lM_12_16 hx hb hK hP (f := (fa 12 16)) rfl (vp_in_iff.mpr ⟨by omega, by omega⟩) dX12_errorOf_55 ?_
            refine lv_topi (fun v678 ev678 => ?_)
            obtain rfl : v670 = v678 := ev670.trans ev678.symm
            refine lv_iload_n hx hb dX12_errorOf_56 rfl (lv_at hl 5 rfl) ?_
            refine lv_icmp_le (tgt := 70) hx hb dX12_errorOf_57 (by decide) (fun c679 => ?_) (fun c679 => ?_)
            · have fc679 := z_le (rfl : (v670).toInt = _) (rfl : (b).toInt = _) c679
              refine lv_iload hx hb dX12_errorOf_70 (lv_at hl 2 rfl) ?_
              refine lv_istore (lv' := [(5, .int x644_5), (4, .int x644_6), (6, .int x644_6), (0, .ref h), (1, .int a), (2, .int b), (3, .int d)]) hx hb dX12_errorOf_72 hl (by decide) rfl (fun ls hl => ?_)
              obtain ⟨v680, ev680⟩ : ∃ y : Int32, y = x644_6 + 1 := ⟨_, rfl⟩
              have tv680 := z_add ev680 rfl (by decide : (1 : Int32).toInt = 1) (by omega) (by omega)
              refine lv_iinc (v := v680) (lv' := [(6, .int v680), (5, .int x644_5), (4, .int x644_6), (0, .ref h), (1, .int a), (2, .int b), (3, .int d)]) hx hb dX12_errorOf_74 hl (k := 2) rfl (by rw [ev680]; rfl) (by decide) rfl (fun ls hl => ?_)
              refine lv_goto (tgt := 9) hx hb dX12_errorOf_77 (by decide) ?_
              exact ih645 v680 x644_5 x644_6 ⟨by omega, by omega⟩ ⟨by omega, by omega⟩ ⟨by omega, by omega⟩ (by omega) ls (lv_sub hl [0, 1, 2, 3, 4, 5, 6] rfl)
            · have fc679 := z_nle (rfl : (v670).toInt = _) (rfl : (b).toInt = _) c679
              refine lv_iload hx hb dX12_errorOf_60 (lv_at hl 2 rfl) ?_
              refine lv_if_ge (tgt := 70) hx hb dX12_errorOf_62 (by decide) (fun c681 => ?_) (fun c681 => ?_)
              · have fc681 := z_le (by decide : (0 : Int32).toInt = 0) (rfl : (x644_5).toInt = _) c681
                refine lv_iload hx hb dX12_errorOf_70 (lv_at hl 2 rfl) ?_
                refine lv_istore (lv' := [(5, .int x644_5), (4, .int x644_6), (6, .int x644_6), (0, .ref h), (1, .int a), (2, .int b), (3, .int d)]) hx hb dX12_errorOf_72 hl (by decide) rfl (fun ls hl => ?_)
                obtain ⟨v682, ev682⟩ : ∃ y : Int32, y = x644_6 + 1 := ⟨_, rfl⟩
                have tv682 := z_add ev682 rfl (by decide : (1 : Int32).toInt = 1) (by omega) (by omega)
                refine lv_iinc (v := v682) (lv' := [(6, .int v682), (5, .int x644_5), (4, .int x644_6), (0, .ref h), (1, .int a), (2, .int b), (3, .int d)]) hx hb dX12_errorOf_74 hl (k := 2) rfl (by rw [ev682]; rfl) (by decide) rfl (fun ls hl => ?_)
                refine lv_goto (tgt := 9) hx hb dX12_errorOf_77 (by decide) ?_
                exact ih645 v682 x644_5 x644_6 ⟨by omega, by omega⟩ ⟨by omega, by omega⟩ ⟨by omega, by omega⟩ (by omega) ls (lv_sub hl [0, 1, 2, 3, 4, 5, 6] rfl)
              · have fc681 := z_nle (by decide : (0 : Int32).toInt = 0) (rfl : (x644_5).toInt = _) c681
                refine lv_iload hx hb dX12_errorOf_65 (lv_at hl 1 rfl) ?_
                refine lv_goto (tgt := 72) hx hb dX12_errorOf_67 (by decide) ?_
                refine lv_istore (lv' := [(5, .int x644_6), (4, .int x644_6), (6, .int x644_6), (0, .ref h), (1, .int a), (2, .int b), (3, .int d)]) hx hb dX12_errorOf_72 hl (by decide) rfl (fun ls hl => ?_)
                obtain ⟨v683, ev683⟩ : ∃ y : Int32, y = x644_6 + 1 := ⟨_, rfl⟩
                have tv683 := z_add ev683 rfl (by decide : (1 : Int32).toInt = 1) (by omega) (by omega)
                refine lv_iinc (v := v683) (lv' := [(6, .int v683), (5, .int x644_6), (4, .int x644_6), (0, .ref h), (1, .int a), (2, .int b), (3, .int d)]) hx hb dX12_errorOf_74 hl (k := 2) rfl (by rw [ev683]; rfl) (by decide) rfl (fun ls hl => ?_)
                refine lv_goto (tgt := 9) hx hb dX12_errorOf_77 (by decide) ?_
                exact ih645 v683 x644_6 x644_6 ⟨by omega, by omega⟩ ⟨by omega, by omega⟩ ⟨by omega, by omega⟩ (by omega) ls (lv_sub hl [0, 1, 2, 3, 4, 5, 6] rfl)
  exact lp645 31 0 (-1) (-1) ⟨by decide, by decide⟩ ⟨by decide, by decide⟩ ⟨by decide, by decide⟩ (by first | decide | omega) ls (lv_sub hl [0, 1, 2, 3, 4, 5, 6] rfl)
set_option maxHeartbeats 4000000 in
set_option maxRecDepth 100000 in
/-- X12_error -/
theorem c_X12_error (l : Launch) (dC : Nat → ClassId) (dI : Nat → Nat → Nat) (h : Nat) (g : Nat → Nat → Nat) (ca : Nat → Nat → ClassId) (iv : Nat → Nat → Int32) (lv : Nat → Nat → Int64) (fa : Nat → Nat → Nat → Int32) (la : Nat → Nat → Nat → Int64) (hI : IX iv fa) (a : Int32) (b : Int32) (d : Int32) : Met l yX12_error (wc yX12_error cX12_error 4 (some .int)) ({ frames := 2, cells := 0, slots := 0, locals := 45 } : Room) (pR (dC, dI) classes (WM h g ca iv lv fa la) (TM ca) [.ref h, .int a, .int b, .int d]) (vp_Si (fun r => True)) 0 0 (fun _ => False) := by
  refine Met.ofW (cc := cX12_error) (maxL := 4) (ret := (some .int)) (by decide) rfl ?_
  intro p e s m args below meth c s₁ B hml hv
  obtain ⟨rfl, hP, hK⟩ := hv
  have hx := B.exec
  have hb := B.bytes
  have hr := B.returns
  have ht := tb_tl (atoms_spec (ws := wc yX12_error cX12_error 4 (some .int)) B.pre)
  have hown : s.vm.findClass RX12 = some m.cls := findClass_of_methodNamed B.named
  have hlocks := B.notSynchronized
  have hl := lv_entry [.ref h, .int a, .int b, .int d] (n := 4) (Nat.le_of_ble_eq_true rfl)
  rw [lg_entry_eq]
  generalize (lg_sl [.ref h, .int a, .int b, .int d] ++ List.replicate (4 - (lg_sl [.ref h, .int a, .int b, .int d]).length) Slot.unset).toArray = ls at hl ⊢
  have hl : lv_has ls 4 [(0, .ref h), (1, .int a), (2, .int b), (3, .int d)] := hl
  refine lv_iload_n hx hb dX12_error_0 rfl (lv_at hl 1 rfl) ?_
  refine lv_i2l (v := (a.toInt64)) hx hb dX12_error_1 rfl ?_
  refine lv_lconst (v := 0) hx hb dX12_error_2 (by decide) ?_
  refine lv_ldc2 hx hb hown (ht _ m_1391) dX12_error_3 ?_
  refine vp_callSi (W.runS (As := [.long (a.toInt64), .long 0, .long 3]) (rest := []) ⟨hx, hb, hml, hown, ht⟩ (c_X12_in l dC dI (a.toInt64) 0 3 (a.toInt) (0) (3) ((Int32.toInt_toInt64 a).trans rfl) (by decide : (0 : Int64).toInt = 0) (by decide : (3 : Int64).toInt = 3)) (kS 3 ht m_1370 m_1371 m_89 m_1372 rfl rfl hd_X12_in_v ⟨Nat.le_of_ble_eq_true rfl, Nat.le_of_ble_eq_true rfl⟩) (sR noP (hK.sub (tys' := []) [] rfl)) rfl rfl hl.1 rfl (lv_room (Nat.le_of_ble_eq_true rfl)) dX12_error_6 ⟨Nat.le_of_ble_eq_true rfl, Nat.le_of_ble_eq_true rfl⟩) (fun r1 hr1 => ?_)
  rcases hr1 with ⟨rfl, fr1⟩ | ⟨rfl, fr1⟩
  · skip
    refine lv_if_eq (tgt := 29) hx hb dX12_error_9 (by decide) (fun c2 => ?_) (fun c2 => ?_)
    · exact absurd c2 (by decide)
    · skip
      refine lv_iload_n hx hb dX12_error_12 rfl (lv_at hl 2 rfl) ?_
      refine vp_callSi (W.runS (As := [.int b]) (rest := []) ⟨hx, hb, hml, hown, ht⟩ (c_X12_isDay l dC dI b) (kS 1 ht m_1422 m_1423 m_89 m_1424 rfl rfl hd_X12_isDay_v ⟨Nat.le_of_ble_eq_true rfl, Nat.le_of_ble_eq_true rfl⟩) (sR noP (hK.sub (tys' := []) [] rfl)) rfl rfl hl.1 rfl (lv_room (Nat.le_of_ble_eq_true rfl)) dX12_error_13 ⟨Nat.le_of_ble_eq_true rfl, Nat.le_of_ble_eq_true rfl⟩) (fun r3 hr3 => ?_)
      rcases hr3 with ⟨rfl, fr3⟩ | ⟨rfl, fr3⟩
      · skip
        refine lv_if_eq (tgt := 29) hx hb dX12_error_16 (by decide) (fun c4 => ?_) (fun c4 => ?_)
        · exact absurd c4 (by decide)
        · skip
          refine lv_iload_n hx hb dX12_error_19 rfl (lv_at hl 3 rfl) ?_
          refine lv_i2l (v := (d.toInt64)) hx hb dX12_error_20 rfl ?_
          refine lv_lconst (v := 0) hx hb dX12_error_21 (by decide) ?_
          refine lv_lconst (v := 1) hx hb dX12_error_22 (by decide) ?_
          refine vp_callSi (W.runS (As := [.long (d.toInt64), .long 0, .long 1]) (rest := []) ⟨hx, hb, hml, hown, ht⟩ (c_X12_in l dC dI (d.toInt64) 0 1 (d.toInt) (0) (1) ((Int32.toInt_toInt64 d).trans rfl) (by decide : (0 : Int64).toInt = 0) (by decide : (1 : Int64).toInt = 1)) (kS 3 ht m_1370 m_1371 m_89 m_1372 rfl rfl hd_X12_in_v ⟨Nat.le_of_ble_eq_true rfl, Nat.le_of_ble_eq_true rfl⟩) (sR noP (hK.sub (tys' := []) [] rfl)) rfl rfl hl.1 rfl (lv_room (Nat.le_of_ble_eq_true rfl)) dX12_error_23 ⟨Nat.le_of_ble_eq_true rfl, Nat.le_of_ble_eq_true rfl⟩) (fun r5 hr5 => ?_)
          rcases hr5 with ⟨rfl, fr5⟩ | ⟨rfl, fr5⟩
          · skip
            refine lv_if_ne (tgt := 32) hx hb dX12_error_26 (by decide) (fun c6 => ?_) (fun c6 => ?_)
            · skip
              refine lv_aload_n hx hb dX12_error_32 rfl (lv_at hl 0 rfl) ?_
              refine lv_iload_n hx hb dX12_error_33 rfl (lv_at hl 1 rfl) ?_
              refine lv_iload_n hx hb dX12_error_34 rfl (lv_at hl 2 rfl) ?_
              refine lv_iload_n hx hb dX12_error_35 rfl (lv_at hl 3 rfl) ?_
              refine lv_iconst (v := 1) hx hb dX12_error_36 (by decide) ?_
              refine lv_icmp_ne (tgt := 44) hx hb dX12_error_37 (by decide) (fun c7 => ?_) (fun c7 => ?_)
              · have fc7 := z_ne (rfl : (d).toInt = _) (by decide : (1 : Int32).toInt = 1) c7
                refine lv_iconst (v := 0) hx hb dX12_error_44 (by decide) ?_
                refine vp_callSi (W.runV (As := [.int a, .int b, .int 0]) (rest := []) ⟨hx, hb, hml, hown, ht⟩ (c_X12_errorOf l dC dI h g ca iv lv fa la hI a b 0 ⟨by decide, by decide⟩) (kV 3 ht m_1426 m_1428 m_44 m_89 m_1429 rfl rfl hd_X12_errorOf_v ⟨Nat.le_of_ble_eq_true rfl, Nat.le_of_ble_eq_true rfl⟩) (vR hP hK (rM_12 hK hP)) rfl rfl hl.1 rfl (lv_room (Nat.le_of_ble_eq_true rfl)) dX12_error_45 ⟨Nat.le_of_ble_eq_true rfl, Nat.le_of_ble_eq_true rfl⟩) (fun r8 hr8 => ?_)
                exact W.iret (v := r8) hx hb hr (fun t ht9 hW => ⟨r8, rfl, trivial, ht9⟩) (fun q hq => by cases hq) dX12_error_48
              · have fc7 := z_eq (rfl : (d).toInt = _) (by decide : (1 : Int32).toInt = 1) c7
                refine lv_iconst (v := 1) hx hb dX12_error_40 (by decide) ?_
                refine lv_goto (tgt := 45) hx hb dX12_error_41 (by decide) ?_
                refine vp_callSi (W.runV (As := [.int a, .int b, .int 1]) (rest := []) ⟨hx, hb, hml, hown, ht⟩ (c_X12_errorOf l dC dI h g ca iv lv fa la hI a b 1 ⟨by decide, by decide⟩) (kV 3 ht m_1426 m_1428 m_44 m_89 m_1429 rfl rfl hd_X12_errorOf_v ⟨Nat.le_of_ble_eq_true rfl, Nat.le_of_ble_eq_true rfl⟩) (vR hP hK (rM_12 hK hP)) rfl rfl hl.1 rfl (lv_room (Nat.le_of_ble_eq_true rfl)) dX12_error_45 ⟨Nat.le_of_ble_eq_true rfl, Nat.le_of_ble_eq_true rfl⟩) (fun r9 hr9 => ?_)
                exact W.iret (v := r9) hx hb hr (fun t ht9 hW => ⟨r9, rfl, trivial, ht9⟩) (fun q hq => by cases hq) dX12_error_48
            · exact absurd c6 (by decide)
          · skip
            refine lv_if_ne (tgt := 32) hx hb dX12_error_26 (by decide) (fun c10 => ?_) (fun c10 => ?_)
            · exact absurd rfl c10
            · skip
              refine lv_ldc hx hb hown (ht _ m_1373) dX12_error_29 ?_
              exact W.iret (v := (-100002)) hx hb hr (fun t ht9 hW => ⟨(-100002), rfl, trivial, ht9⟩) (fun q hq => by cases hq) dX12_error_31
      · skip
        refine lv_if_eq (tgt := 29) hx hb dX12_error_16 (by decide) (fun c11 => ?_) (fun c11 => ?_)
        · skip
          refine lv_ldc hx hb hown (ht _ m_1373) dX12_error_29 ?_
          exact W.iret (v := (-100002)) hx hb hr (fun t ht9 hW => ⟨(-100002), rfl, trivial, ht9⟩) (fun q hq => by cases hq) dX12_error_31
        · exact absurd rfl c11
  · skip
    refine lv_if_eq (tgt := 29) hx hb dX12_error_9 (by decide) (fun c12 => ?_) (fun c12 => ?_)
    · skip
      refine lv_ldc hx hb hown (ht _ m_1373) dX12_error_29 ?_
      exact W.iret (v := (-100002)) hx hb hr (fun t ht9 hW => ⟨(-100002), rfl, trivial, ht9⟩) (fun q hq => by cases hq) dX12_error_31
    · exact absurd rfl c12
set_option maxHeartbeats 4000000 in
set_option maxRecDepth 100000 in
/-- X12_doPart -/
theorem c_X12_doPart (l : Launch) (dC : Nat → ClassId) (dI : Nat → Nat → Nat) (a : Int64) (b : Int64) (d : Int64) (k : Int64) (n : Int32) : Met l yX12_doPart (wc yX12_doPart cX12_doPart 9 (some .boolean)) ({ frames := 1, cells := 0, slots := 0, locals := 21 } : Room) (pR (dC, dI) classes [] [] [.long a, .long b, .long d, .long k, .int n]) (vp_Si (fun r => 0 ≤ r.toInt ∧ r.toInt ≤ 1)) 0 0 (fun _ => False) := by
  refine Met.ofW (cc := cX12_doPart) (maxL := 9) (ret := (some .boolean)) (by decide) rfl ?_
  intro p e s m args below meth c s₁ B hml hv
  obtain ⟨rfl, hP, hK⟩ := hv
  have hx := B.exec
  have hb := B.bytes
  have hr := B.returns
  have ht := tb_tl (atoms_spec (ws := wc yX12_doPart cX12_doPart 9 (some .boolean)) B.pre)
  have hown : s.vm.findClass RX12 = some m.cls := findClass_of_methodNamed B.named
  have hlocks := B.notSynchronized
  have hl := lv_entry [.long a, .long b, .long d, .long k, .int n] (n := 9) (Nat.le_of_ble_eq_true rfl)
  rw [lg_entry_eq]
  generalize (lg_sl [.long a, .long b, .long d, .long k, .int n] ++ List.replicate (9 - (lg_sl [.long a, .long b, .long d, .long k, .int n]).length) Slot.unset).toArray = ls at hl ⊢
  have hl : lv_has ls 9 [(0, .long a), (2, .long b), (4, .long d), (6, .long k), (8, .int n)] := hl
  refine lv_ldc2 hx hb hown (ht _ m_1543) dX12_doPart_0 ?_
  refine lv_lload_n hx hb dX12_doPart_3 rfl (lv_at hl 0 rfl) ?_
  refine lv_lload hx hb dX12_doPart_4 (lv_at hl 3 rfl) ?_
  refine lv_lmul hx hb dX12_doPart_6 ?_
  refine lv_topl (fun w1 ew1 => ?_)
  refine lv_lload hx hb dX12_doPart_7 (lv_at hl 2 rfl) ?_
  refine lv_lload_n hx hb dX12_doPart_9 rfl (lv_at hl 1 rfl) ?_
  refine lv_lmul hx hb dX12_doPart_10 ?_
  refine lv_topl (fun w2 ew2 => ?_)
  refine lv_lsub hx hb dX12_doPart_11 ?_
  refine lv_topl (fun w3 ew3 => ?_)
  refine vp_callSl (W.runS (As := [.long w3]) (rest := [.long 1000]) ⟨hx, hb, hml, hown, ht⟩ (c_X12_plain l dC dI w3) (kS 1 ht m_1445 m_1446 m_89 m_1447 rfl rfl hd_X12_plain_v ⟨Nat.le_of_ble_eq_true rfl, Nat.le_of_ble_eq_true rfl⟩) (sR noP (hK.sub (tys' := []) [] rfl)) rfl rfl hl.1 rfl (lv_room (Nat.le_of_ble_eq_true rfl)) dX12_doPart_12 ⟨Nat.le_of_ble_eq_true rfl, Nat.le_of_ble_eq_true rfl⟩) (fun r4 hr4 => ?_)
  refine lv_lmul hx hb dX12_doPart_15 ?_
  refine lv_topl (fun w5 ew5 => ?_)
  refine lv_iload hx hb dX12_doPart_16 (lv_at hl 4 rfl) ?_
  refine lv_i2l (v := (n.toInt64)) hx hb dX12_doPart_18 rfl ?_
  refine lv_lload_n hx hb dX12_doPart_19 rfl (lv_at hl 1 rfl) ?_
  refine lv_lmul hx hb dX12_doPart_20 ?_
  refine lv_topl (fun w6 ew6 => ?_)
  refine lv_lload hx hb dX12_doPart_21 (lv_at hl 3 rfl) ?_
  refine lv_lmul hx hb dX12_doPart_23 ?_
  refine lv_topl (fun w7 ew7 => ?_)
  refine W.lcmp hx hb dX12_doPart_24 ?_
  refine lv_topi (fun v8 ev8 => ?_)
  refine lv_if_le (tgt := 32) hx hb dX12_doPart_25 (by decide) (fun c9 => ?_) (fun c9 => ?_)
  · have fc9 := zc_ngt ev8 (rfl : (w5).toInt = _) (rfl : (w7).toInt = _) (Int32.not_lt.mpr c9)
    refine lv_iconst (v := 0) hx hb dX12_doPart_32 (by decide) ?_
    exact W.zret (v := 0) hx hb hr rfl (fun t ht9 hW => ⟨0, rfl, ⟨by decide, by decide⟩, ht9⟩) (fun q hq => by cases hq) dX12_doPart_33
  · have fc9 := zc_gt ev8 (rfl : (w5).toInt = _) (rfl : (w7).toInt = _) (Int32.not_le.mp c9)
    refine lv_iconst (v := 1) hx hb dX12_doPart_28 (by decide) ?_
    refine lv_goto (tgt := 33) hx hb dX12_doPart_29 (by decide) ?_
    exact W.zret (v := 1) hx hb hr rfl (fun t ht9 hW => ⟨1, rfl, ⟨by decide, by decide⟩, ht9⟩) (fun q hq => by cases hq) dX12_doPart_33
/-! ===== m3 ===== -/
set_option maxRecDepth 100000 in
theorem m_47 : Cond.selects RX12 yX12_here yX12_here ∈ tb := tb_in 47 (by decide +kernel) rfl
theorem m_1171 : Cond.fieldLink RX12 83 "SilkHouseModel" "text" "[I" ∈ tb := mb_5_5 _ (List.mem_of_getElem? (i := 12) rfl)
theorem m_1172 : Cond.fieldLink RX12 249 "SilkHouseModel" "textSize" "I" ∈ tb := mb_5_5 _ (List.mem_of_getElem? (i := 13) rfl)
theorem m_1173 : Cond.fieldLink RX12 254 "SilkHouseModel" "at" "I" ∈ tb := mb_5_5 _ (List.mem_of_getElem? (i := 14) rfl)
theorem m_1174 : Cond.fieldLink RX12 257 "SilkHouseModel" "faultOf" "I" ∈ tb := mb_5_5 _ (List.mem_of_getElem? (i := 15) rfl)
theorem m_1175 : Cond.fieldLink RX12 86 "SilkHouseModel" "place" "I" ∈ tb := mb_5_5 _ (List.mem_of_getElem? (i := 16) rfl)
theorem m_1176 : Cond.fieldLink RX12 264 "SilkHouseModel" "from" "I" ∈ tb := mb_5_5 _ (List.mem_of_getElem? (i := 17) rfl)
theorem m_1452 : Cond.constantLong RX12 247 (8) ∈ tb := mb_6_3 _ (List.mem_of_getElem? (i := 10) rfl)
theorem m_1453 : Cond.constantLong RX12 252 (255) ∈ tb := mb_6_3 _ (List.mem_of_getElem? (i := 11) rfl)
theorem m_1458 : Cond.methodLink RX12 260 yX12_here ∈ tb := mb_6_3 _ (List.mem_of_getElem? (i := 16) rfl)
theorem m_1460 : Cond.instanceMethod yX12_here ∈ tb := mb_6_3 _ (List.mem_of_getElem? (i := 17) rfl)
theorem m_1461 : Cond.code yX12_here cX12_here 1 (some .int) ∈ tb := mb_6_3 _ (List.mem_of_getElem? (i := 18) rfl)
theorem hd_X12_here_v : yX12_here.cls = RX12 ∧ yX12_here.cls ≠ "java/lang/invoke/MethodHandle" ∧ yX12_here.cls ≠ "java/lang/invoke/VarHandle" ∧ (parseMethodDescriptor yX12_here.desc).map (fun d => d.parameters.length) = some 0 := by decide +kernel
set_option maxRecDepth 100000 in
theorem dvX12_atFirst_0 : ([(0, .iload_n 0, 1), (1, .tableswitch 47 0 4 #[35, 38, 40, 42, 44], 35), (36, .bipush 110, 2), (38, .ireturn, 1), (39, .iconst 3, 1), (40, .ireturn, 1), (41, .iconst 5, 1), (42, .ireturn, 1), (43, .iconst 2, 1), (44, .ireturn, 1), (45, .bipush 10, 2), (47, .ireturn, 1), (48, .iconst 0, 1), (49, .ireturn, 1)] : List (Nat × Instr × Nat)).all (fun q => decide (decode cX12_atFirst q.1 = .ok (q.2.1, q.2.2))) = true := by decide +kernel
theorem dX12_atFirst_0 : decode cX12_atFirst 0 = .ok (.iload_n 0, 1) := all_at dvX12_atFirst_0 0 rfl
theorem dX12_atFirst_1 : decode cX12_atFirst 1 = .ok (.tableswitch 47 0 4 #[35, 38, 40, 42, 44], 35) := all_at dvX12_atFirst_0 1 rfl
theorem dX12_atFirst_36 : decode cX12_atFirst 36 = .ok (.bipush 110, 2) := all_at dvX12_atFirst_0 2 rfl
theorem dX12_atFirst_38 : decode cX12_atFirst 38 = .ok (.ireturn, 1) := all_at dvX12_atFirst_0 3 rfl
theorem dX12_atFirst_39 : decode cX12_atFirst 39 = .ok (.iconst 3, 1) := all_at dvX12_atFirst_0 4 rfl
theorem dX12_atFirst_40 : decode cX12_atFirst 40 = .ok (.ireturn, 1) := all_at dvX12_atFirst_0 5 rfl
theorem dX12_atFirst_41 : decode cX12_atFirst 41 = .ok (.iconst 5, 1) := all_at dvX12_atFirst_0 6 rfl
theorem dX12_atFirst_42 : decode cX12_atFirst 42 = .ok (.ireturn, 1) := all_at dvX12_atFirst_0 7 rfl
theorem dX12_atFirst_43 : decode cX12_atFirst 43 = .ok (.iconst 2, 1) := all_at dvX12_atFirst_0 8 rfl
theorem dX12_atFirst_44 : decode cX12_atFirst 44 = .ok (.ireturn, 1) := all_at dvX12_atFirst_0 9 rfl
theorem dX12_atFirst_45 : decode cX12_atFirst 45 = .ok (.bipush 10, 2) := all_at dvX12_atFirst_0 10 rfl
theorem dX12_atFirst_47 : decode cX12_atFirst 47 = .ok (.ireturn, 1) := all_at dvX12_atFirst_0 11 rfl
theorem dX12_atFirst_48 : decode cX12_atFirst 48 = .ok (.iconst 0, 1) := all_at dvX12_atFirst_0 12 rfl
theorem dX12_atFirst_49 : decode cX12_atFirst 49 = .ok (.ireturn, 1) := all_at dvX12_atFirst_0 13 rfl
theorem dX12_fault_0 : decode cX12_fault 0 = .ok (.aload_n 0, 1) := by decide +kernel
theorem dX12_fault_1 : decode cX12_fault 1 = .ok (.getfield 86, 3) := by decide +kernel
theorem dX12_fault_4 : decode cX12_fault 4 = .ok (.ireturn, 1) := by decide +kernel
set_option maxRecDepth 100000 in
theorem dvX12_feed_0 : ([(0, .iload_n 1, 1), (1, .i2l, 1), (2, .lconst 1, 1), (3, .ldc2_w 247, 3), (6, .invokestatic 167, 3), (9, .ifCond .ne 6, 3), (15, .aload_n 0, 1), (16, .getfield 249, 3), (19, .iload_n 1, 1), (20, .iadd, 1), (21, .sipush 200, 3), (24, .if_icmp .le 6, 3), (30, .iload_n 1, 1), (31, .iconst 1, 1), (32, .isub, 1), (33, .istore 4, 2), (35, .iload 4, 2), (37, .ifCond .lt 40, 3), (40, .aload_n 0, 1), (41, .getfield 83, 3), (44, .aload_n 0, 1), (45, .getfield 249, 3), (48, .lload_n 2, 1), (49, .bipush 8, 2)] : List (Nat × Instr × Nat)).all (fun q => decide (decode cX12_feed q.1 = .ok (q.2.1, q.2.2))) = true := by decide +kernel
theorem dX12_feed_0 : decode cX12_feed 0 = .ok (.iload_n 1, 1) := all_at dvX12_feed_0 0 rfl
theorem dX12_feed_1 : decode cX12_feed 1 = .ok (.i2l, 1) := all_at dvX12_feed_0 1 rfl
theorem dX12_feed_2 : decode cX12_feed 2 = .ok (.lconst 1, 1) := all_at dvX12_feed_0 2 rfl
theorem dX12_feed_3 : decode cX12_feed 3 = .ok (.ldc2_w 247, 3) := all_at dvX12_feed_0 3 rfl
theorem dX12_feed_6 : decode cX12_feed 6 = .ok (.invokestatic 167, 3) := all_at dvX12_feed_0 4 rfl
theorem dX12_feed_9 : decode cX12_feed 9 = .ok (.ifCond .ne 6, 3) := all_at dvX12_feed_0 5 rfl
theorem dX12_feed_15 : decode cX12_feed 15 = .ok (.aload_n 0, 1) := all_at dvX12_feed_0 6 rfl
theorem dX12_feed_16 : decode cX12_feed 16 = .ok (.getfield 249, 3) := all_at dvX12_feed_0 7 rfl
theorem dX12_feed_19 : decode cX12_feed 19 = .ok (.iload_n 1, 1) := all_at dvX12_feed_0 8 rfl
theorem dX12_feed_20 : decode cX12_feed 20 = .ok (.iadd, 1) := all_at dvX12_feed_0 9 rfl
theorem dX12_feed_21 : decode cX12_feed 21 = .ok (.sipush 200, 3) := all_at dvX12_feed_0 10 rfl
theorem dX12_feed_24 : decode cX12_feed 24 = .ok (.if_icmp .le 6, 3) := all_at dvX12_feed_0 11 rfl
theorem dX12_feed_30 : decode cX12_feed 30 = .ok (.iload_n 1, 1) := all_at dvX12_feed_0 12 rfl
theorem dX12_feed_31 : decode cX12_feed 31 = .ok (.iconst 1, 1) := all_at dvX12_feed_0 13 rfl
theorem dX12_feed_32 : decode cX12_feed 32 = .ok (.isub, 1) := all_at dvX12_feed_0 14 rfl
theorem dX12_feed_33 : decode cX12_feed 33 = .ok (.istore 4, 2) := all_at dvX12_feed_0 15 rfl
theorem dX12_feed_35 : decode cX12_feed 35 = .ok (.iload 4, 2) := all_at dvX12_feed_0 16 rfl
theorem dX12_feed_37 : decode cX12_feed 37 = .ok (.ifCond .lt 40, 3) := all_at dvX12_feed_0 17 rfl
theorem dX12_feed_40 : decode cX12_feed 40 = .ok (.aload_n 0, 1) := all_at dvX12_feed_0 18 rfl
theorem dX12_feed_41 : decode cX12_feed 41 = .ok (.getfield 83, 3) := all_at dvX12_feed_0 19 rfl
theorem dX12_feed_44 : decode cX12_feed 44 = .ok (.aload_n 0, 1) := all_at dvX12_feed_0 20 rfl
theorem dX12_feed_45 : decode cX12_feed 45 = .ok (.getfield 249, 3) := all_at dvX12_feed_0 21 rfl
theorem dX12_feed_48 : decode cX12_feed 48 = .ok (.lload_n 2, 1) := all_at dvX12_feed_0 22 rfl
theorem dX12_feed_49 : decode cX12_feed 49 = .ok (.bipush 8, 2) := all_at dvX12_feed_0 23 rfl
set_option maxRecDepth 100000 in
theorem dvX12_feed_51 : ([(51, .iload 4, 2), (53, .imul, 1), (54, .lshr, 1), (55, .ldc2_w 252, 3), (58, .land, 1), (59, .l2i, 1), (60, .iastore, 1)] : List (Nat × Instr × Nat)).all (fun q => decide (decode cX12_feed q.1 = .ok (q.2.1, q.2.2))) = true := by decide +kernel
theorem dX12_feed_51 : decode cX12_feed 51 = .ok (.iload 4, 2) := all_at dvX12_feed_51 0 rfl
theorem dX12_feed_53 : decode cX12_feed 53 = .ok (.imul, 1) := all_at dvX12_feed_51 1 rfl
theorem dX12_feed_54 : decode cX12_feed 54 = .ok (.lshr, 1) := all_at dvX12_feed_51 2 rfl
theorem dX12_feed_55 : decode cX12_feed 55 = .ok (.ldc2_w 252, 3) := all_at dvX12_feed_51 3 rfl
theorem dX12_feed_58 : decode cX12_feed 58 = .ok (.land, 1) := all_at dvX12_feed_51 4 rfl
theorem dX12_feed_59 : decode cX12_feed 59 = .ok (.l2i, 1) := all_at dvX12_feed_51 5 rfl
theorem dX12_feed_60 : decode cX12_feed 60 = .ok (.iastore, 1) := all_at dvX12_feed_51 6 rfl
set_option maxRecDepth 100000 in
theorem dvX12_here_0 : ([(0, .aload_n 0, 1), (1, .getfield 254, 3), (4, .aload_n 0, 1), (5, .getfield 249, 3), (8, .if_icmp .ge 30, 3), (11, .aload_n 0, 1), (12, .getfield 83, 3), (15, .aload_n 0, 1), (16, .getfield 254, 3), (19, .iaload, 1), (20, .bipush 32, 2), (22, .if_icmp .ne 16, 3), (25, .aload_n 0, 1), (26, .dup, 1), (27, .getfield 254, 3), (30, .iconst 1, 1), (31, .iadd, 1), (32, .putfield 254, 3), (35, .goto (-35), 3), (38, .aload_n 0, 1), (39, .getfield 254, 3), (42, .aload_n 0, 1), (43, .getfield 249, 3), (46, .if_icmp .ge 15, 3)] : List (Nat × Instr × Nat)).all (fun q => decide (decode cX12_here q.1 = .ok (q.2.1, q.2.2))) = true := by decide +kernel
theorem dX12_here_0 : decode cX12_here 0 = .ok (.aload_n 0, 1) := all_at dvX12_here_0 0 rfl
theorem dX12_here_1 : decode cX12_here 1 = .ok (.getfield 254, 3) := all_at dvX12_here_0 1 rfl
theorem dX12_here_4 : decode cX12_here 4 = .ok (.aload_n 0, 1) := all_at dvX12_here_0 2 rfl
theorem dX12_here_5 : decode cX12_here 5 = .ok (.getfield 249, 3) := all_at dvX12_here_0 3 rfl
theorem dX12_here_8 : decode cX12_here 8 = .ok (.if_icmp .ge 30, 3) := all_at dvX12_here_0 4 rfl
theorem dX12_here_11 : decode cX12_here 11 = .ok (.aload_n 0, 1) := all_at dvX12_here_0 5 rfl
theorem dX12_here_12 : decode cX12_here 12 = .ok (.getfield 83, 3) := all_at dvX12_here_0 6 rfl
theorem dX12_here_15 : decode cX12_here 15 = .ok (.aload_n 0, 1) := all_at dvX12_here_0 7 rfl
theorem dX12_here_16 : decode cX12_here 16 = .ok (.getfield 254, 3) := all_at dvX12_here_0 8 rfl
theorem dX12_here_19 : decode cX12_here 19 = .ok (.iaload, 1) := all_at dvX12_here_0 9 rfl
theorem dX12_here_20 : decode cX12_here 20 = .ok (.bipush 32, 2) := all_at dvX12_here_0 10 rfl
theorem dX12_here_22 : decode cX12_here 22 = .ok (.if_icmp .ne 16, 3) := all_at dvX12_here_0 11 rfl
theorem dX12_here_25 : decode cX12_here 25 = .ok (.aload_n 0, 1) := all_at dvX12_here_0 12 rfl
theorem dX12_here_26 : decode cX12_here 26 = .ok (.dup, 1) := all_at dvX12_here_0 13 rfl
theorem dX12_here_27 : decode cX12_here 27 = .ok (.getfield 254, 3) := all_at dvX12_here_0 14 rfl
theorem dX12_here_30 : decode cX12_here 30 = .ok (.iconst 1, 1) := all_at dvX12_here_0 15 rfl
theorem dX12_here_31 : decode cX12_here 31 = .ok (.iadd, 1) := all_at dvX12_here_0 16 rfl
theorem dX12_here_32 : decode cX12_here 32 = .ok (.putfield 254, 3) := all_at dvX12_here_0 17 rfl
theorem dX12_here_35 : decode cX12_here 35 = .ok (.goto (-35), 3) := all_at dvX12_here_0 18 rfl
theorem dX12_here_38 : decode cX12_here 38 = .ok (.aload_n 0, 1) := all_at dvX12_here_0 19 rfl
theorem dX12_here_39 : decode cX12_here 39 = .ok (.getfield 254, 3) := all_at dvX12_here_0 20 rfl
theorem dX12_here_42 : decode cX12_here 42 = .ok (.aload_n 0, 1) := all_at dvX12_here_0 21 rfl
theorem dX12_here_43 : decode cX12_here 43 = .ok (.getfield 249, 3) := all_at dvX12_here_0 22 rfl
theorem dX12_here_46 : decode cX12_here 46 = .ok (.if_icmp .ge 15, 3) := all_at dvX12_here_0 23 rfl
set_option maxRecDepth 100000 in
theorem dvX12_here_49 : ([(49, .aload_n 0, 1), (50, .getfield 83, 3), (53, .aload_n 0, 1), (54, .getfield 254, 3), (57, .iaload, 1), (58, .goto 4, 3), (61, .iconst (-1), 1), (62, .ireturn, 1)] : List (Nat × Instr × Nat)).all (fun q => decide (decode cX12_here q.1 = .ok (q.2.1, q.2.2))) = true := by decide +kernel
theorem dX12_here_49 : decode cX12_here 49 = .ok (.aload_n 0, 1) := all_at dvX12_here_49 0 rfl
theorem dX12_here_50 : decode cX12_here 50 = .ok (.getfield 83, 3) := all_at dvX12_here_49 1 rfl
theorem dX12_here_53 : decode cX12_here 53 = .ok (.aload_n 0, 1) := all_at dvX12_here_49 2 rfl
theorem dX12_here_54 : decode cX12_here 54 = .ok (.getfield 254, 3) := all_at dvX12_here_49 3 rfl
theorem dX12_here_57 : decode cX12_here 57 = .ok (.iaload, 1) := all_at dvX12_here_49 4 rfl
theorem dX12_here_58 : decode cX12_here 58 = .ok (.goto 4, 3) := all_at dvX12_here_49 5 rfl
theorem dX12_here_61 : decode cX12_here 61 = .ok (.iconst (-1), 1) := all_at dvX12_here_49 6 rfl
theorem dX12_here_62 : decode cX12_here 62 = .ok (.ireturn, 1) := all_at dvX12_here_49 7 rfl
set_option maxRecDepth 100000 in
theorem dvX12_leastOf_0 : ([(0, .iload_n 0, 1), (1, .iconst 1, 1), (2, .if_icmp .eq 8, 3), (5, .iload_n 0, 1), (6, .iconst 3, 1), (7, .if_icmp .ne 7, 3), (10, .iconst 1, 1), (11, .goto 4, 3), (14, .iconst 0, 1), (15, .ireturn, 1)] : List (Nat × Instr × Nat)).all (fun q => decide (decode cX12_leastOf q.1 = .ok (q.2.1, q.2.2))) = true := by decide +kernel
theorem dX12_leastOf_0 : decode cX12_leastOf 0 = .ok (.iload_n 0, 1) := all_at dvX12_leastOf_0 0 rfl
theorem dX12_leastOf_1 : decode cX12_leastOf 1 = .ok (.iconst 1, 1) := all_at dvX12_leastOf_0 1 rfl
theorem dX12_leastOf_2 : decode cX12_leastOf 2 = .ok (.if_icmp .eq 8, 3) := all_at dvX12_leastOf_0 2 rfl
theorem dX12_leastOf_5 : decode cX12_leastOf 5 = .ok (.iload_n 0, 1) := all_at dvX12_leastOf_0 3 rfl
theorem dX12_leastOf_6 : decode cX12_leastOf 6 = .ok (.iconst 3, 1) := all_at dvX12_leastOf_0 4 rfl
theorem dX12_leastOf_7 : decode cX12_leastOf 7 = .ok (.if_icmp .ne 7, 3) := all_at dvX12_leastOf_0 5 rfl
theorem dX12_leastOf_10 : decode cX12_leastOf 10 = .ok (.iconst 1, 1) := all_at dvX12_leastOf_0 6 rfl
theorem dX12_leastOf_11 : decode cX12_leastOf 11 = .ok (.goto 4, 3) := all_at dvX12_leastOf_0 7 rfl
theorem dX12_leastOf_14 : decode cX12_leastOf 14 = .ok (.iconst 0, 1) := all_at dvX12_leastOf_0 8 rfl
theorem dX12_leastOf_15 : decode cX12_leastOf 15 = .ok (.ireturn, 1) := all_at dvX12_leastOf_0 9 rfl
set_option maxRecDepth 100000 in
theorem dvX12_mostOf_0 : ([(0, .iload_n 0, 1), (1, .tableswitch 44 0 3 #[31, 35, 38, 42], 31), (32, .sipush 300, 3), (35, .ireturn, 1), (36, .bipush 9, 2), (38, .ireturn, 1), (39, .sipush 200, 3), (42, .ireturn, 1), (43, .iconst 2, 1), (44, .ireturn, 1), (45, .sipush 999, 3), (48, .ireturn, 1)] : List (Nat × Instr × Nat)).all (fun q => decide (decode cX12_mostOf q.1 = .ok (q.2.1, q.2.2))) = true := by decide +kernel
theorem dX12_mostOf_0 : decode cX12_mostOf 0 = .ok (.iload_n 0, 1) := all_at dvX12_mostOf_0 0 rfl
theorem dX12_mostOf_1 : decode cX12_mostOf 1 = .ok (.tableswitch 44 0 3 #[31, 35, 38, 42], 31) := all_at dvX12_mostOf_0 1 rfl
theorem dX12_mostOf_32 : decode cX12_mostOf 32 = .ok (.sipush 300, 3) := all_at dvX12_mostOf_0 2 rfl
theorem dX12_mostOf_35 : decode cX12_mostOf 35 = .ok (.ireturn, 1) := all_at dvX12_mostOf_0 3 rfl
theorem dX12_mostOf_36 : decode cX12_mostOf 36 = .ok (.bipush 9, 2) := all_at dvX12_mostOf_0 4 rfl
theorem dX12_mostOf_38 : decode cX12_mostOf 38 = .ok (.ireturn, 1) := all_at dvX12_mostOf_0 5 rfl
theorem dX12_mostOf_39 : decode cX12_mostOf 39 = .ok (.sipush 200, 3) := all_at dvX12_mostOf_0 6 rfl
theorem dX12_mostOf_42 : decode cX12_mostOf 42 = .ok (.ireturn, 1) := all_at dvX12_mostOf_0 7 rfl
theorem dX12_mostOf_43 : decode cX12_mostOf 43 = .ok (.iconst 2, 1) := all_at dvX12_mostOf_0 8 rfl
theorem dX12_mostOf_44 : decode cX12_mostOf 44 = .ok (.ireturn, 1) := all_at dvX12_mostOf_0 9 rfl
theorem dX12_mostOf_45 : decode cX12_mostOf 45 = .ok (.sipush 999, 3) := all_at dvX12_mostOf_0 10 rfl
theorem dX12_mostOf_48 : decode cX12_mostOf 48 = .ok (.ireturn, 1) := all_at dvX12_mostOf_0 11 rfl
set_option maxRecDepth 100000 in
theorem dvX12_takeWord_0 : ([(0, .aload_n 0, 1), (1, .invokevirtual 260, 3), (4, .istore_n 1, 1), (5, .aload_n 0, 1), (6, .aload_n 0, 1), (7, .getfield 254, 3), (10, .putfield 264, 3), (13, .aload_n 0, 1), (14, .getfield 254, 3), (17, .aload_n 0, 1), (18, .getfield 249, 3), (21, .if_icmp .ge 38, 3), (59, .aload_n 0, 1), (60, .aload_n 0, 1), (61, .getfield 254, 3), (64, .aload_n 0, 1), (65, .getfield 264, 3), (68, .isub, 1), (69, .putfield 271, 3)] : List (Nat × Instr × Nat)).all (fun q => decide (decode cX12_takeWord q.1 = .ok (q.2.1, q.2.2))) = true := by decide +kernel
theorem dX12_takeWord_0 : decode cX12_takeWord 0 = .ok (.aload_n 0, 1) := all_at dvX12_takeWord_0 0 rfl
theorem dX12_takeWord_1 : decode cX12_takeWord 1 = .ok (.invokevirtual 260, 3) := all_at dvX12_takeWord_0 1 rfl
theorem dX12_takeWord_4 : decode cX12_takeWord 4 = .ok (.istore_n 1, 1) := all_at dvX12_takeWord_0 2 rfl
theorem dX12_takeWord_5 : decode cX12_takeWord 5 = .ok (.aload_n 0, 1) := all_at dvX12_takeWord_0 3 rfl
theorem dX12_takeWord_6 : decode cX12_takeWord 6 = .ok (.aload_n 0, 1) := all_at dvX12_takeWord_0 4 rfl
theorem dX12_takeWord_7 : decode cX12_takeWord 7 = .ok (.getfield 254, 3) := all_at dvX12_takeWord_0 5 rfl
theorem dX12_takeWord_10 : decode cX12_takeWord 10 = .ok (.putfield 264, 3) := all_at dvX12_takeWord_0 6 rfl
theorem dX12_takeWord_13 : decode cX12_takeWord 13 = .ok (.aload_n 0, 1) := all_at dvX12_takeWord_0 7 rfl
theorem dX12_takeWord_14 : decode cX12_takeWord 14 = .ok (.getfield 254, 3) := all_at dvX12_takeWord_0 8 rfl
theorem dX12_takeWord_17 : decode cX12_takeWord 17 = .ok (.aload_n 0, 1) := all_at dvX12_takeWord_0 9 rfl
theorem dX12_takeWord_18 : decode cX12_takeWord 18 = .ok (.getfield 249, 3) := all_at dvX12_takeWord_0 10 rfl
theorem dX12_takeWord_21 : decode cX12_takeWord 21 = .ok (.if_icmp .ge 38, 3) := all_at dvX12_takeWord_0 11 rfl
theorem dX12_takeWord_59 : decode cX12_takeWord 59 = .ok (.aload_n 0, 1) := all_at dvX12_takeWord_0 12 rfl
theorem dX12_takeWord_60 : decode cX12_takeWord 60 = .ok (.aload_n 0, 1) := all_at dvX12_takeWord_0 13 rfl
theorem dX12_takeWord_61 : decode cX12_takeWord 61 = .ok (.getfield 254, 3) := all_at dvX12_takeWord_0 14 rfl
theorem dX12_takeWord_64 : decode cX12_takeWord 64 = .ok (.aload_n 0, 1) := all_at dvX12_takeWord_0 15 rfl
theorem dX12_takeWord_65 : decode cX12_takeWord 65 = .ok (.getfield 264, 3) := all_at dvX12_takeWord_0 16 rfl
theorem dX12_takeWord_68 : decode cX12_takeWord 68 = .ok (.isub, 1) := all_at dvX12_takeWord_0 17 rfl
theorem dX12_takeWord_69 : decode cX12_takeWord 69 = .ok (.putfield 271, 3) := all_at dvX12_takeWord_0 18 rfl
set_option maxRecDepth 100000 in
theorem dvX12_want_0 : ([(0, .iload_n 1, 1), (1, .ifCond .ne 20, 3), (4, .aload_n 0, 1), (5, .getfield 257, 3), (8, .ifCond .ne 13, 3), (11, .aload_n 0, 1), (12, .iload_n 2, 1), (13, .putfield 257, 3), (16, .aload_n 0, 1), (17, .iload_n 3, 1), (18, .putfield 86, 3), (21, .aload_n 0, 1), (22, .getfield 257, 3), (25, .ifCond .ne 7, 3), (28, .iconst 1, 1), (29, .goto 4, 3), (32, .iconst 0, 1), (33, .ireturn, 1)] : List (Nat × Instr × Nat)).all (fun q => decide (decode cX12_want q.1 = .ok (q.2.1, q.2.2))) = true := by decide +kernel
theorem dX12_want_0 : decode cX12_want 0 = .ok (.iload_n 1, 1) := all_at dvX12_want_0 0 rfl
theorem dX12_want_1 : decode cX12_want 1 = .ok (.ifCond .ne 20, 3) := all_at dvX12_want_0 1 rfl
theorem dX12_want_4 : decode cX12_want 4 = .ok (.aload_n 0, 1) := all_at dvX12_want_0 2 rfl
theorem dX12_want_5 : decode cX12_want 5 = .ok (.getfield 257, 3) := all_at dvX12_want_0 3 rfl
theorem dX12_want_8 : decode cX12_want 8 = .ok (.ifCond .ne 13, 3) := all_at dvX12_want_0 4 rfl
theorem dX12_want_11 : decode cX12_want 11 = .ok (.aload_n 0, 1) := all_at dvX12_want_0 5 rfl
theorem dX12_want_12 : decode cX12_want 12 = .ok (.iload_n 2, 1) := all_at dvX12_want_0 6 rfl
theorem dX12_want_13 : decode cX12_want 13 = .ok (.putfield 257, 3) := all_at dvX12_want_0 7 rfl
theorem dX12_want_16 : decode cX12_want 16 = .ok (.aload_n 0, 1) := all_at dvX12_want_0 8 rfl
theorem dX12_want_17 : decode cX12_want 17 = .ok (.iload_n 3, 1) := all_at dvX12_want_0 9 rfl
theorem dX12_want_18 : decode cX12_want 18 = .ok (.putfield 86, 3) := all_at dvX12_want_0 10 rfl
theorem dX12_want_21 : decode cX12_want 21 = .ok (.aload_n 0, 1) := all_at dvX12_want_0 11 rfl
theorem dX12_want_22 : decode cX12_want 22 = .ok (.getfield 257, 3) := all_at dvX12_want_0 12 rfl
theorem dX12_want_25 : decode cX12_want 25 = .ok (.ifCond .ne 7, 3) := all_at dvX12_want_0 13 rfl
theorem dX12_want_28 : decode cX12_want 28 = .ok (.iconst 1, 1) := all_at dvX12_want_0 14 rfl
theorem dX12_want_29 : decode cX12_want 29 = .ok (.goto 4, 3) := all_at dvX12_want_0 15 rfl
theorem dX12_want_32 : decode cX12_want 32 = .ok (.iconst 0, 1) := all_at dvX12_want_0 16 rfl
theorem dX12_want_33 : decode cX12_want 33 = .ok (.ireturn, 1) := all_at dvX12_want_0 17 rfl
theorem sw_0_3 (x : Int32) : (x.toInt < 0 ∨ 3 < x.toInt) ∨ x = 0 ∨ x = 1 ∨ x = 2 ∨ x = 3 := by
  by_cases h : x.toInt < 0 ∨ 3 < x.toInt
  · exact Or.inl h
  · right
    have h2 : x.toInt = 0 ∨ x.toInt = 1 ∨ x.toInt = 2 ∨ x.toInt = 3 := by omega
    rcases h2 with h2 | h2 | h2 | h2
    · exact Or.inl (z_of (by decide) h2)
    · exact Or.inr (Or.inl (z_of (by decide) h2))
    · exact Or.inr (Or.inr (Or.inl (z_of (by decide) h2)))
    · exact Or.inr (Or.inr (Or.inr (z_of (by decide) h2)))
theorem sw_0_4 (x : Int32) : (x.toInt < 0 ∨ 4 < x.toInt) ∨ x = 0 ∨ x = 1 ∨ x = 2 ∨ x = 3 ∨ x = 4 := by
  by_cases h : x.toInt < 0 ∨ 4 < x.toInt
  · exact Or.inl h
  · right
    have h2 : x.toInt = 0 ∨ x.toInt = 1 ∨ x.toInt = 2 ∨ x.toInt = 3 ∨ x.toInt = 4 := by omega
    rcases h2 with h2 | h2 | h2 | h2 | h2
    · exact Or.inl (z_of (by decide) h2)
    · exact Or.inr (Or.inl (z_of (by decide) h2))
    · exact Or.inr (Or.inr (Or.inl (z_of (by decide) h2)))
    · exact Or.inr (Or.inr (Or.inr (Or.inl (z_of (by decide) h2))))
    · exact Or.inr (Or.inr (Or.inr (Or.inr (z_of (by decide) h2))))
set_option maxHeartbeats 4000000 in
set_option maxRecDepth 100000 in
/-- X12_atFirst -/
theorem c_X12_atFirst (l : Launch) (dC : Nat → ClassId) (dI : Nat → Nat → Nat) (a : Int32) : Met l yX12_atFirst (wc yX12_atFirst cX12_atFirst 1 (some .int)) ({ frames := 0, cells := 0, slots := 0, locals := 0 } : Room) (pR (dC, dI) classes [] [] [.int a]) (vp_Si (fun r => 0 ≤ r.toInt ∧ r.toInt ≤ 110)) 0 0 (fun _ => False) := by
  refine Met.ofW (cc := cX12_atFirst) (maxL := 1) (ret := (some .int)) (by decide) rfl ?_
  intro p e s m args below meth c s₁ B hml hv
  obtain ⟨rfl, hP, hK⟩ := hv
  have hx := B.exec
  have hb := B.bytes
  have hr := B.returns
  have ht := tb_tl (atoms_spec (ws := wc yX12_atFirst cX12_atFirst 1 (some .int)) B.pre)
  have hown : s.vm.findClass RX12 = some m.cls := findClass_of_methodNamed B.named
  have hlocks := B.notSynchronized
  have hl := lv_entry [.int a] (n := 1) (Nat.le_of_ble_eq_true rfl)
  rw [lg_entry_eq]
  generalize (lg_sl [.int a] ++ List.replicate (1 - (lg_sl [.int a]).length) Slot.unset).toArray = ls at hl ⊢
  have hl : lv_has ls 1 [(0, .int a)] := hl
  refine lv_iload_n hx hb dX12_atFirst_0 rfl (lv_at hl 0 rfl) ?_
  rcases sw_0_4 a with h1 | rfl | rfl | rfl | rfl | rfl
  · refine lv_tableOut (tgt := 48) hx hb dX12_atFirst_1 h1 (by decide) ?_
    refine lv_iconst (v := 0) hx hb dX12_atFirst_48 (by decide) ?_
    exact W.iret (v := 0) hx hb hr (fun t ht9 hW => ⟨0, rfl, ⟨by decide, by decide⟩, ht9⟩) (fun q hq => by cases hq) dX12_atFirst_49
  · refine lv_tableIn (tgt := 36) (off := 35) hx hb dX12_atFirst_1 (by decide) (by decide) rfl (by decide) ?_
    refine lv_bipush (v := 110) hx hb dX12_atFirst_36 (by decide) ?_
    exact W.iret (v := 110) hx hb hr (fun t ht9 hW => ⟨110, rfl, ⟨by decide, by decide⟩, ht9⟩) (fun q hq => by cases hq) dX12_atFirst_38
  · refine lv_tableIn (tgt := 39) (off := 38) hx hb dX12_atFirst_1 (by decide) (by decide) rfl (by decide) ?_
    refine lv_iconst (v := 3) hx hb dX12_atFirst_39 (by decide) ?_
    exact W.iret (v := 3) hx hb hr (fun t ht9 hW => ⟨3, rfl, ⟨by decide, by decide⟩, ht9⟩) (fun q hq => by cases hq) dX12_atFirst_40
  · refine lv_tableIn (tgt := 41) (off := 40) hx hb dX12_atFirst_1 (by decide) (by decide) rfl (by decide) ?_
    refine lv_iconst (v := 5) hx hb dX12_atFirst_41 (by decide) ?_
    exact W.iret (v := 5) hx hb hr (fun t ht9 hW => ⟨5, rfl, ⟨by decide, by decide⟩, ht9⟩) (fun q hq => by cases hq) dX12_atFirst_42
  · refine lv_tableIn (tgt := 43) (off := 42) hx hb dX12_atFirst_1 (by decide) (by decide) rfl (by decide) ?_
    refine lv_iconst (v := 2) hx hb dX12_atFirst_43 (by decide) ?_
    exact W.iret (v := 2) hx hb hr (fun t ht9 hW => ⟨2, rfl, ⟨by decide, by decide⟩, ht9⟩) (fun q hq => by cases hq) dX12_atFirst_44
  · refine lv_tableIn (tgt := 45) (off := 44) hx hb dX12_atFirst_1 (by decide) (by decide) rfl (by decide) ?_
    refine lv_bipush (v := 10) hx hb dX12_atFirst_45 (by decide) ?_
    exact W.iret (v := 10) hx hb hr (fun t ht9 hW => ⟨10, rfl, ⟨by decide, by decide⟩, ht9⟩) (fun q hq => by cases hq) dX12_atFirst_47
/-! ===== m4 ===== -/
set_option maxRecDepth 100000 in
theorem m_59 : Cond.selects RX12 yX12_only yX12_only ∈ tb := tb_in 59 (by decide +kernel) rfl
set_option maxRecDepth 100000 in
theorem m_61 : Cond.selects RX12 yX12_half yX12_half ∈ tb := tb_in 61 (by decide +kernel) rfl
theorem m_1162 : Cond.fieldLink RX12 303 "SilkHouseModel" "rules" "I" ∈ tb := mb_5_5 _ (List.mem_of_getElem? (i := 3) rfl)
theorem m_1164 : Cond.fieldLink RX12 62 "SilkHouseModel" "clauses" "[I" ∈ tb := mb_5_5 _ (List.mem_of_getElem? (i := 5) rfl)
theorem m_1165 : Cond.fieldLink RX12 65 "SilkHouseModel" "kindOf" "[I" ∈ tb := mb_5_5 _ (List.mem_of_getElem? (i := 6) rfl)
theorem m_1169 : Cond.fieldLink RX12 77 "SilkHouseModel" "wordSize" "[I" ∈ tb := mb_5_5 _ (List.mem_of_getElem? (i := 10) rfl)
theorem m_1170 : Cond.fieldLink RX12 80 "SilkHouseModel" "word" "[I" ∈ tb := mb_5_5 _ (List.mem_of_getElem? (i := 11) rfl)
theorem m_1181 : Cond.fieldLink RX12 96 "SilkHouseModel" "dryOf" "[J" ∈ tb := mb_5_5 _ (List.mem_of_getElem? (i := 22) rfl)
theorem m_1182 : Cond.fieldLink RX12 100 "SilkHouseModel" "rawOf" "[J" ∈ tb := mb_5_5 _ (List.mem_of_getElem? (i := 23) rfl)
theorem m_1183 : Cond.fieldLink RX12 328 "SilkHouseModel" "resultUp" "J" ∈ tb := mb_5_6 _ (List.mem_of_getElem? (i := 0) rfl)
theorem m_1184 : Cond.fieldLink RX12 331 "SilkHouseModel" "resultDown" "J" ∈ tb := mb_5_6 _ (List.mem_of_getElem? (i := 1) rfl)
theorem m_1536 : Cond.methodLink RX12 337 yX12_only ∈ tb := mb_7_0 _ (List.mem_of_getElem? (i := 18) rfl)
theorem m_1538 : Cond.instanceMethod yX12_only ∈ tb := mb_7_0 _ (List.mem_of_getElem? (i := 19) rfl)
theorem m_1539 : Cond.code yX12_only cX12_only 2 none ∈ tb := mb_7_0 _ (List.mem_of_getElem? (i := 20) rfl)
theorem m_1548 : Cond.methodLink RX12 334 yX12_half ∈ tb := mb_7_1 _ (List.mem_of_getElem? (i := 4) rfl)
theorem m_1550 : Cond.instanceMethod yX12_half ∈ tb := mb_7_1 _ (List.mem_of_getElem? (i := 5) rfl)
theorem m_1551 : Cond.code yX12_half cX12_half 3 none ∈ tb := mb_7_1 _ (List.mem_of_getElem? (i := 6) rfl)
theorem hd_X12_half_v : yX12_half.cls = RX12 ∧ yX12_half.cls ≠ "java/lang/invoke/MethodHandle" ∧ yX12_half.cls ≠ "java/lang/invoke/VarHandle" ∧ (parseMethodDescriptor yX12_half.desc).map (fun d => d.parameters.length) = some 2 := by decide +kernel
theorem hd_X12_only_v : yX12_only.cls = RX12 ∧ yX12_only.cls ≠ "java/lang/invoke/MethodHandle" ∧ yX12_only.cls ≠ "java/lang/invoke/VarHandle" ∧ (parseMethodDescriptor yX12_only.desc).map (fun d => d.parameters.length) = some 1 := by decide +kernel
set_option maxRecDepth 100000 in
theorem dvX12_half_0 : ([(0, .aload_n 0, 1), (1, .aload_n 0, 1), (2, .getfield 96, 3), (5, .iload_n 1, 1), (6, .laload, 1), (7, .aload_n 0, 1), (8, .getfield 100, 3), (11, .iload_n 2, 1), (12, .laload, 1), (13, .lmul, 1), (14, .aload_n 0, 1), (15, .getfield 96, 3), (18, .iload_n 2, 1), (19, .laload, 1), (20, .aload_n 0, 1), (21, .getfield 100, 3), (24, .iload_n 1, 1), (25, .laload, 1), (26, .lmul, 1), (27, .ladd, 1), (28, .putfield 328, 3), (31, .aload_n 0, 1), (32, .ldc2_w 188, 3), (35, .aload_n 0, 1)] : List (Nat × Instr × Nat)).all (fun q => decide (decode cX12_half q.1 = .ok (q.2.1, q.2.2))) = true := by decide +kernel
theorem dX12_half_0 : decode cX12_half 0 = .ok (.aload_n 0, 1) := all_at dvX12_half_0 0 rfl
theorem dX12_half_1 : decode cX12_half 1 = .ok (.aload_n 0, 1) := all_at dvX12_half_0 1 rfl
theorem dX12_half_2 : decode cX12_half 2 = .ok (.getfield 96, 3) := all_at dvX12_half_0 2 rfl
theorem dX12_half_5 : decode cX12_half 5 = .ok (.iload_n 1, 1) := all_at dvX12_half_0 3 rfl
theorem dX12_half_6 : decode cX12_half 6 = .ok (.laload, 1) := all_at dvX12_half_0 4 rfl
theorem dX12_half_7 : decode cX12_half 7 = .ok (.aload_n 0, 1) := all_at dvX12_half_0 5 rfl
theorem dX12_half_8 : decode cX12_half 8 = .ok (.getfield 100, 3) := all_at dvX12_half_0 6 rfl
theorem dX12_half_11 : decode cX12_half 11 = .ok (.iload_n 2, 1) := all_at dvX12_half_0 7 rfl
theorem dX12_half_12 : decode cX12_half 12 = .ok (.laload, 1) := all_at dvX12_half_0 8 rfl
theorem dX12_half_13 : decode cX12_half 13 = .ok (.lmul, 1) := all_at dvX12_half_0 9 rfl
theorem dX12_half_14 : decode cX12_half 14 = .ok (.aload_n 0, 1) := all_at dvX12_half_0 10 rfl
theorem dX12_half_15 : decode cX12_half 15 = .ok (.getfield 96, 3) := all_at dvX12_half_0 11 rfl
theorem dX12_half_18 : decode cX12_half 18 = .ok (.iload_n 2, 1) := all_at dvX12_half_0 12 rfl
theorem dX12_half_19 : decode cX12_half 19 = .ok (.laload, 1) := all_at dvX12_half_0 13 rfl
theorem dX12_half_20 : decode cX12_half 20 = .ok (.aload_n 0, 1) := all_at dvX12_half_0 14 rfl
theorem dX12_half_21 : decode cX12_half 21 = .ok (.getfield 100, 3) := all_at dvX12_half_0 15 rfl
theorem dX12_half_24 : decode cX12_half 24 = .ok (.iload_n 1, 1) := all_at dvX12_half_0 16 rfl
theorem dX12_half_25 : decode cX12_half 25 = .ok (.laload, 1) := all_at dvX12_half_0 17 rfl
theorem dX12_half_26 : decode cX12_half 26 = .ok (.lmul, 1) := all_at dvX12_half_0 18 rfl
theorem dX12_half_27 : decode cX12_half 27 = .ok (.ladd, 1) := all_at dvX12_half_0 19 rfl
theorem dX12_half_28 : decode cX12_half 28 = .ok (.putfield 328, 3) := all_at dvX12_half_0 20 rfl
theorem dX12_half_31 : decode cX12_half 31 = .ok (.aload_n 0, 1) := all_at dvX12_half_0 21 rfl
theorem dX12_half_32 : decode cX12_half 32 = .ok (.ldc2_w 188, 3) := all_at dvX12_half_0 22 rfl
theorem dX12_half_35 : decode cX12_half 35 = .ok (.aload_n 0, 1) := all_at dvX12_half_0 23 rfl
set_option maxRecDepth 100000 in
theorem dvX12_half_36 : ([(36, .getfield 100, 3), (39, .iload_n 1, 1), (40, .laload, 1), (41, .lmul, 1), (42, .aload_n 0, 1), (43, .getfield 100, 3), (46, .iload_n 2, 1), (47, .laload, 1), (48, .lmul, 1), (49, .putfield 331, 3), (52, .return_, 1)] : List (Nat × Instr × Nat)).all (fun q => decide (decode cX12_half q.1 = .ok (q.2.1, q.2.2))) = true := by decide +kernel
theorem dX12_half_36 : decode cX12_half 36 = .ok (.getfield 100, 3) := all_at dvX12_half_36 0 rfl
theorem dX12_half_39 : decode cX12_half 39 = .ok (.iload_n 1, 1) := all_at dvX12_half_36 1 rfl
theorem dX12_half_40 : decode cX12_half 40 = .ok (.laload, 1) := all_at dvX12_half_36 2 rfl
theorem dX12_half_41 : decode cX12_half 41 = .ok (.lmul, 1) := all_at dvX12_half_36 3 rfl
theorem dX12_half_42 : decode cX12_half 42 = .ok (.aload_n 0, 1) := all_at dvX12_half_36 4 rfl
theorem dX12_half_43 : decode cX12_half 43 = .ok (.getfield 100, 3) := all_at dvX12_half_36 5 rfl
theorem dX12_half_46 : decode cX12_half 46 = .ok (.iload_n 2, 1) := all_at dvX12_half_36 6 rfl
theorem dX12_half_47 : decode cX12_half 47 = .ok (.laload, 1) := all_at dvX12_half_36 7 rfl
theorem dX12_half_48 : decode cX12_half 48 = .ok (.lmul, 1) := all_at dvX12_half_36 8 rfl
theorem dX12_half_49 : decode cX12_half 49 = .ok (.putfield 331, 3) := all_at dvX12_half_36 9 rfl
theorem dX12_half_52 : decode cX12_half 52 = .ok (.return_, 1) := all_at dvX12_half_36 10 rfl
set_option maxRecDepth 100000 in
theorem dvX12_held_0 : ([(0, .iload_n 0, 1), (1, .bipush 40, 2), (3, .if_icmp .le 8, 3), (6, .bipush 40, 2), (8, .goto 15, 3), (11, .iload_n 0, 1), (12, .bipush (-40), 2), (14, .if_icmp .ge 8, 3), (17, .bipush (-40), 2), (19, .goto 4, 3), (22, .iload_n 0, 1), (23, .ireturn, 1)] : List (Nat × Instr × Nat)).all (fun q => decide (decode cX12_held q.1 = .ok (q.2.1, q.2.2))) = true := by decide +kernel
theorem dX12_held_0 : decode cX12_held 0 = .ok (.iload_n 0, 1) := all_at dvX12_held_0 0 rfl
theorem dX12_held_1 : decode cX12_held 1 = .ok (.bipush 40, 2) := all_at dvX12_held_0 1 rfl
theorem dX12_held_3 : decode cX12_held 3 = .ok (.if_icmp .le 8, 3) := all_at dvX12_held_0 2 rfl
theorem dX12_held_6 : decode cX12_held 6 = .ok (.bipush 40, 2) := all_at dvX12_held_0 3 rfl
theorem dX12_held_8 : decode cX12_held 8 = .ok (.goto 15, 3) := all_at dvX12_held_0 4 rfl
theorem dX12_held_11 : decode cX12_held 11 = .ok (.iload_n 0, 1) := all_at dvX12_held_0 5 rfl
theorem dX12_held_12 : decode cX12_held 12 = .ok (.bipush (-40), 2) := all_at dvX12_held_0 6 rfl
theorem dX12_held_14 : decode cX12_held 14 = .ok (.if_icmp .ge 8, 3) := all_at dvX12_held_0 7 rfl
theorem dX12_held_17 : decode cX12_held 17 = .ok (.bipush (-40), 2) := all_at dvX12_held_0 8 rfl
theorem dX12_held_19 : decode cX12_held 19 = .ok (.goto 4, 3) := all_at dvX12_held_0 9 rfl
theorem dX12_held_22 : decode cX12_held 22 = .ok (.iload_n 0, 1) := all_at dvX12_held_0 10 rfl
theorem dX12_held_23 : decode cX12_held 23 = .ok (.ireturn, 1) := all_at dvX12_held_0 11 rfl
set_option maxRecDepth 100000 in
theorem dvX12_isLess_0 : ([(0, .aload_n 0, 1), (1, .getfield 96, 3), (4, .iload_n 1, 1), (5, .laload, 1), (6, .aload_n 0, 1), (7, .getfield 100, 3), (10, .iload_n 2, 1), (11, .laload, 1), (12, .lmul, 1), (13, .aload_n 0, 1), (14, .getfield 96, 3), (17, .iload_n 2, 1), (18, .laload, 1), (19, .aload_n 0, 1), (20, .getfield 100, 3), (23, .iload_n 1, 1), (24, .laload, 1), (25, .lmul, 1), (26, .lcmp, 1), (27, .ifCond .ge 7, 3), (30, .iconst 1, 1), (31, .goto 4, 3), (34, .iconst 0, 1), (35, .ireturn, 1)] : List (Nat × Instr × Nat)).all (fun q => decide (decode cX12_isLess q.1 = .ok (q.2.1, q.2.2))) = true := by decide +kernel
theorem dX12_isLess_0 : decode cX12_isLess 0 = .ok (.aload_n 0, 1) := all_at dvX12_isLess_0 0 rfl
theorem dX12_isLess_1 : decode cX12_isLess 1 = .ok (.getfield 96, 3) := all_at dvX12_isLess_0 1 rfl
theorem dX12_isLess_4 : decode cX12_isLess 4 = .ok (.iload_n 1, 1) := all_at dvX12_isLess_0 2 rfl
theorem dX12_isLess_5 : decode cX12_isLess 5 = .ok (.laload, 1) := all_at dvX12_isLess_0 3 rfl
theorem dX12_isLess_6 : decode cX12_isLess 6 = .ok (.aload_n 0, 1) := all_at dvX12_isLess_0 4 rfl
theorem dX12_isLess_7 : decode cX12_isLess 7 = .ok (.getfield 100, 3) := all_at dvX12_isLess_0 5 rfl
theorem dX12_isLess_10 : decode cX12_isLess 10 = .ok (.iload_n 2, 1) := all_at dvX12_isLess_0 6 rfl
theorem dX12_isLess_11 : decode cX12_isLess 11 = .ok (.laload, 1) := all_at dvX12_isLess_0 7 rfl
theorem dX12_isLess_12 : decode cX12_isLess 12 = .ok (.lmul, 1) := all_at dvX12_isLess_0 8 rfl
theorem dX12_isLess_13 : decode cX12_isLess 13 = .ok (.aload_n 0, 1) := all_at dvX12_isLess_0 9 rfl
theorem dX12_isLess_14 : decode cX12_isLess 14 = .ok (.getfield 96, 3) := all_at dvX12_isLess_0 10 rfl
theorem dX12_isLess_17 : decode cX12_isLess 17 = .ok (.iload_n 2, 1) := all_at dvX12_isLess_0 11 rfl
theorem dX12_isLess_18 : decode cX12_isLess 18 = .ok (.laload, 1) := all_at dvX12_isLess_0 12 rfl
theorem dX12_isLess_19 : decode cX12_isLess 19 = .ok (.aload_n 0, 1) := all_at dvX12_isLess_0 13 rfl
theorem dX12_isLess_20 : decode cX12_isLess 20 = .ok (.getfield 100, 3) := all_at dvX12_isLess_0 14 rfl
theorem dX12_isLess_23 : decode cX12_isLess 23 = .ok (.iload_n 1, 1) := all_at dvX12_isLess_0 15 rfl
theorem dX12_isLess_24 : decode cX12_isLess 24 = .ok (.laload, 1) := all_at dvX12_isLess_0 16 rfl
theorem dX12_isLess_25 : decode cX12_isLess 25 = .ok (.lmul, 1) := all_at dvX12_isLess_0 17 rfl
theorem dX12_isLess_26 : decode cX12_isLess 26 = .ok (.lcmp, 1) := all_at dvX12_isLess_0 18 rfl
theorem dX12_isLess_27 : decode cX12_isLess 27 = .ok (.ifCond .ge 7, 3) := all_at dvX12_isLess_0 19 rfl
theorem dX12_isLess_30 : decode cX12_isLess 30 = .ok (.iconst 1, 1) := all_at dvX12_isLess_0 20 rfl
theorem dX12_isLess_31 : decode cX12_isLess 31 = .ok (.goto 4, 3) := all_at dvX12_isLess_0 21 rfl
theorem dX12_isLess_34 : decode cX12_isLess 34 = .ok (.iconst 0, 1) := all_at dvX12_isLess_0 22 rfl
theorem dX12_isLess_35 : decode cX12_isLess 35 = .ok (.ireturn, 1) := all_at dvX12_isLess_0 23 rfl
set_option maxRecDepth 100000 in
theorem dvX12_letter_0 : ([(0, .iload_n 1, 1), (1, .ifCond .lt 30, 3), (4, .iload_n 1, 1), (5, .bipush 100, 2), (7, .idiv, 1), (8, .aload_n 0, 1), (9, .getfield 303, 3), (12, .if_icmp .ge 19, 3), (15, .iload_n 1, 1), (16, .bipush 100, 2), (18, .irem, 1), (19, .aload_n 0, 1), (20, .getfield 62, 3), (23, .iload_n 1, 1), (24, .bipush 100, 2), (26, .idiv, 1), (27, .iaload, 1), (28, .if_icmp .lt 6, 3), (31, .ldc 187, 2), (33, .ireturn, 1), (34, .bipush 12, 2), (36, .iload_n 1, 1), (37, .bipush 100, 2), (39, .idiv, 1)] : List (Nat × Instr × Nat)).all (fun q => decide (decode cX12_letter q.1 = .ok (q.2.1, q.2.2))) = true := by decide +kernel
theorem dX12_letter_0 : decode cX12_letter 0 = .ok (.iload_n 1, 1) := all_at dvX12_letter_0 0 rfl
theorem dX12_letter_1 : decode cX12_letter 1 = .ok (.ifCond .lt 30, 3) := all_at dvX12_letter_0 1 rfl
theorem dX12_letter_4 : decode cX12_letter 4 = .ok (.iload_n 1, 1) := all_at dvX12_letter_0 2 rfl
theorem dX12_letter_5 : decode cX12_letter 5 = .ok (.bipush 100, 2) := all_at dvX12_letter_0 3 rfl
theorem dX12_letter_7 : decode cX12_letter 7 = .ok (.idiv, 1) := all_at dvX12_letter_0 4 rfl
theorem dX12_letter_8 : decode cX12_letter 8 = .ok (.aload_n 0, 1) := all_at dvX12_letter_0 5 rfl
theorem dX12_letter_9 : decode cX12_letter 9 = .ok (.getfield 303, 3) := all_at dvX12_letter_0 6 rfl
theorem dX12_letter_12 : decode cX12_letter 12 = .ok (.if_icmp .ge 19, 3) := all_at dvX12_letter_0 7 rfl
theorem dX12_letter_15 : decode cX12_letter 15 = .ok (.iload_n 1, 1) := all_at dvX12_letter_0 8 rfl
theorem dX12_letter_16 : decode cX12_letter 16 = .ok (.bipush 100, 2) := all_at dvX12_letter_0 9 rfl
theorem dX12_letter_18 : decode cX12_letter 18 = .ok (.irem, 1) := all_at dvX12_letter_0 10 rfl
theorem dX12_letter_19 : decode cX12_letter 19 = .ok (.aload_n 0, 1) := all_at dvX12_letter_0 11 rfl
theorem dX12_letter_20 : decode cX12_letter 20 = .ok (.getfield 62, 3) := all_at dvX12_letter_0 12 rfl
theorem dX12_letter_23 : decode cX12_letter 23 = .ok (.iload_n 1, 1) := all_at dvX12_letter_0 13 rfl
theorem dX12_letter_24 : decode cX12_letter 24 = .ok (.bipush 100, 2) := all_at dvX12_letter_0 14 rfl
theorem dX12_letter_26 : decode cX12_letter 26 = .ok (.idiv, 1) := all_at dvX12_letter_0 15 rfl
theorem dX12_letter_27 : decode cX12_letter 27 = .ok (.iaload, 1) := all_at dvX12_letter_0 16 rfl
theorem dX12_letter_28 : decode cX12_letter 28 = .ok (.if_icmp .lt 6, 3) := all_at dvX12_letter_0 17 rfl
theorem dX12_letter_31 : decode cX12_letter 31 = .ok (.ldc 187, 2) := all_at dvX12_letter_0 18 rfl
theorem dX12_letter_33 : decode cX12_letter 33 = .ok (.ireturn, 1) := all_at dvX12_letter_0 19 rfl
theorem dX12_letter_34 : decode cX12_letter 34 = .ok (.bipush 12, 2) := all_at dvX12_letter_0 20 rfl
theorem dX12_letter_36 : decode cX12_letter 36 = .ok (.iload_n 1, 1) := all_at dvX12_letter_0 21 rfl
theorem dX12_letter_37 : decode cX12_letter 37 = .ok (.bipush 100, 2) := all_at dvX12_letter_0 22 rfl
theorem dX12_letter_39 : decode cX12_letter 39 = .ok (.idiv, 1) := all_at dvX12_letter_0 23 rfl
set_option maxRecDepth 100000 in
theorem dvX12_letter_40 : ([(40, .imul, 1), (41, .iload_n 1, 1), (42, .bipush 100, 2), (44, .irem, 1), (45, .iadd, 1), (46, .istore_n 3, 1), (47, .aload_n 0, 1), (48, .getfield 65, 3), (51, .iload_n 3, 1), (52, .iaload, 1), (53, .iconst 2, 1), (54, .if_icmp .ne 35, 3), (57, .iload_n 2, 1), (58, .i2l, 1), (59, .lconst 0, 1), (60, .aload_n 0, 1), (61, .getfield 77, 3), (64, .iload_n 3, 1), (65, .iaload, 1), (66, .iconst 1, 1), (67, .isub, 1), (68, .i2l, 1), (69, .invokestatic 167, 3), (72, .ifCond .eq 17, 3)] : List (Nat × Instr × Nat)).all (fun q => decide (decode cX12_letter q.1 = .ok (q.2.1, q.2.2))) = true := by decide +kernel
theorem dX12_letter_40 : decode cX12_letter 40 = .ok (.imul, 1) := all_at dvX12_letter_40 0 rfl
theorem dX12_letter_41 : decode cX12_letter 41 = .ok (.iload_n 1, 1) := all_at dvX12_letter_40 1 rfl
theorem dX12_letter_42 : decode cX12_letter 42 = .ok (.bipush 100, 2) := all_at dvX12_letter_40 2 rfl
theorem dX12_letter_44 : decode cX12_letter 44 = .ok (.irem, 1) := all_at dvX12_letter_40 3 rfl
theorem dX12_letter_45 : decode cX12_letter 45 = .ok (.iadd, 1) := all_at dvX12_letter_40 4 rfl
theorem dX12_letter_46 : decode cX12_letter 46 = .ok (.istore_n 3, 1) := all_at dvX12_letter_40 5 rfl
theorem dX12_letter_47 : decode cX12_letter 47 = .ok (.aload_n 0, 1) := all_at dvX12_letter_40 6 rfl
theorem dX12_letter_48 : decode cX12_letter 48 = .ok (.getfield 65, 3) := all_at dvX12_letter_40 7 rfl
theorem dX12_letter_51 : decode cX12_letter 51 = .ok (.iload_n 3, 1) := all_at dvX12_letter_40 8 rfl
theorem dX12_letter_52 : decode cX12_letter 52 = .ok (.iaload, 1) := all_at dvX12_letter_40 9 rfl
theorem dX12_letter_53 : decode cX12_letter 53 = .ok (.iconst 2, 1) := all_at dvX12_letter_40 10 rfl
theorem dX12_letter_54 : decode cX12_letter 54 = .ok (.if_icmp .ne 35, 3) := all_at dvX12_letter_40 11 rfl
theorem dX12_letter_57 : decode cX12_letter 57 = .ok (.iload_n 2, 1) := all_at dvX12_letter_40 12 rfl
theorem dX12_letter_58 : decode cX12_letter 58 = .ok (.i2l, 1) := all_at dvX12_letter_40 13 rfl
theorem dX12_letter_59 : decode cX12_letter 59 = .ok (.lconst 0, 1) := all_at dvX12_letter_40 14 rfl
theorem dX12_letter_60 : decode cX12_letter 60 = .ok (.aload_n 0, 1) := all_at dvX12_letter_40 15 rfl
theorem dX12_letter_61 : decode cX12_letter 61 = .ok (.getfield 77, 3) := all_at dvX12_letter_40 16 rfl
theorem dX12_letter_64 : decode cX12_letter 64 = .ok (.iload_n 3, 1) := all_at dvX12_letter_40 17 rfl
theorem dX12_letter_65 : decode cX12_letter 65 = .ok (.iaload, 1) := all_at dvX12_letter_40 18 rfl
theorem dX12_letter_66 : decode cX12_letter 66 = .ok (.iconst 1, 1) := all_at dvX12_letter_40 19 rfl
theorem dX12_letter_67 : decode cX12_letter 67 = .ok (.isub, 1) := all_at dvX12_letter_40 20 rfl
theorem dX12_letter_68 : decode cX12_letter 68 = .ok (.i2l, 1) := all_at dvX12_letter_40 21 rfl
theorem dX12_letter_69 : decode cX12_letter 69 = .ok (.invokestatic 167, 3) := all_at dvX12_letter_40 22 rfl
theorem dX12_letter_72 : decode cX12_letter 72 = .ok (.ifCond .eq 17, 3) := all_at dvX12_letter_40 23 rfl
set_option maxRecDepth 100000 in
theorem dvX12_letter_75 : ([(75, .aload_n 0, 1), (76, .getfield 80, 3), (79, .bipush 8, 2), (81, .iload_n 3, 1), (82, .imul, 1), (83, .iload_n 2, 1), (84, .iadd, 1), (85, .iaload, 1), (86, .goto 4, 3), (89, .iconst (-1), 1), (90, .ireturn, 1)] : List (Nat × Instr × Nat)).all (fun q => decide (decode cX12_letter q.1 = .ok (q.2.1, q.2.2))) = true := by decide +kernel
theorem dX12_letter_75 : decode cX12_letter 75 = .ok (.aload_n 0, 1) := all_at dvX12_letter_75 0 rfl
theorem dX12_letter_76 : decode cX12_letter 76 = .ok (.getfield 80, 3) := all_at dvX12_letter_75 1 rfl
theorem dX12_letter_79 : decode cX12_letter 79 = .ok (.bipush 8, 2) := all_at dvX12_letter_75 2 rfl
theorem dX12_letter_81 : decode cX12_letter 81 = .ok (.iload_n 3, 1) := all_at dvX12_letter_75 3 rfl
theorem dX12_letter_82 : decode cX12_letter 82 = .ok (.imul, 1) := all_at dvX12_letter_75 4 rfl
theorem dX12_letter_83 : decode cX12_letter 83 = .ok (.iload_n 2, 1) := all_at dvX12_letter_75 5 rfl
theorem dX12_letter_84 : decode cX12_letter 84 = .ok (.iadd, 1) := all_at dvX12_letter_75 6 rfl
theorem dX12_letter_85 : decode cX12_letter 85 = .ok (.iaload, 1) := all_at dvX12_letter_75 7 rfl
theorem dX12_letter_86 : decode cX12_letter 86 = .ok (.goto 4, 3) := all_at dvX12_letter_75 8 rfl
theorem dX12_letter_89 : decode cX12_letter 89 = .ok (.iconst (-1), 1) := all_at dvX12_letter_75 9 rfl
theorem dX12_letter_90 : decode cX12_letter 90 = .ok (.ireturn, 1) := all_at dvX12_letter_75 10 rfl
set_option maxRecDepth 100000 in
theorem dvX12_only_0 : ([(0, .aload_n 0, 1), (1, .aload_n 0, 1), (2, .getfield 96, 3), (5, .iload_n 1, 1), (6, .laload, 1), (7, .putfield 328, 3), (10, .aload_n 0, 1), (11, .aload_n 0, 1), (12, .getfield 100, 3), (15, .iload_n 1, 1), (16, .laload, 1), (17, .putfield 331, 3), (20, .return_, 1)] : List (Nat × Instr × Nat)).all (fun q => decide (decode cX12_only q.1 = .ok (q.2.1, q.2.2))) = true := by decide +kernel
theorem dX12_only_0 : decode cX12_only 0 = .ok (.aload_n 0, 1) := all_at dvX12_only_0 0 rfl
theorem dX12_only_1 : decode cX12_only 1 = .ok (.aload_n 0, 1) := all_at dvX12_only_0 1 rfl
theorem dX12_only_2 : decode cX12_only 2 = .ok (.getfield 96, 3) := all_at dvX12_only_0 2 rfl
theorem dX12_only_5 : decode cX12_only 5 = .ok (.iload_n 1, 1) := all_at dvX12_only_0 3 rfl
theorem dX12_only_6 : decode cX12_only 6 = .ok (.laload, 1) := all_at dvX12_only_0 4 rfl
theorem dX12_only_7 : decode cX12_only 7 = .ok (.putfield 328, 3) := all_at dvX12_only_0 5 rfl
theorem dX12_only_10 : decode cX12_only 10 = .ok (.aload_n 0, 1) := all_at dvX12_only_0 6 rfl
theorem dX12_only_11 : decode cX12_only 11 = .ok (.aload_n 0, 1) := all_at dvX12_only_0 7 rfl
theorem dX12_only_12 : decode cX12_only 12 = .ok (.getfield 100, 3) := all_at dvX12_only_0 8 rfl
theorem dX12_only_15 : decode cX12_only 15 = .ok (.iload_n 1, 1) := all_at dvX12_only_0 9 rfl
theorem dX12_only_16 : decode cX12_only 16 = .ok (.laload, 1) := all_at dvX12_only_0 10 rfl
theorem dX12_only_17 : decode cX12_only 17 = .ok (.putfield 331, 3) := all_at dvX12_only_0 11 rfl
theorem dX12_only_20 : decode cX12_only 20 = .ok (.return_, 1) := all_at dvX12_only_0 12 rfl
set_option maxRecDepth 100000 in
theorem dvX12_settleThree_0 : ([(0, .aload_n 0, 1), (1, .getfield 96, 3), (4, .iconst 0, 1), (5, .laload, 1), (6, .aload_n 0, 1), (7, .getfield 100, 3), (10, .iconst 1, 1), (11, .laload, 1), (12, .lmul, 1), (13, .aload_n 0, 1), (14, .getfield 100, 3), (17, .iconst 2, 1), (18, .laload, 1), (19, .lmul, 1), (20, .lstore_n 2, 1), (21, .aload_n 0, 1), (22, .getfield 96, 3), (25, .iconst 1, 1), (26, .laload, 1), (27, .aload_n 0, 1), (28, .getfield 100, 3), (31, .iconst 0, 1), (32, .laload, 1), (33, .lmul, 1)] : List (Nat × Instr × Nat)).all (fun q => decide (decode cX12_settleThree q.1 = .ok (q.2.1, q.2.2))) = true := by decide +kernel
theorem dX12_settleThree_0 : decode cX12_settleThree 0 = .ok (.aload_n 0, 1) := all_at dvX12_settleThree_0 0 rfl
theorem dX12_settleThree_1 : decode cX12_settleThree 1 = .ok (.getfield 96, 3) := all_at dvX12_settleThree_0 1 rfl
theorem dX12_settleThree_4 : decode cX12_settleThree 4 = .ok (.iconst 0, 1) := all_at dvX12_settleThree_0 2 rfl
theorem dX12_settleThree_5 : decode cX12_settleThree 5 = .ok (.laload, 1) := all_at dvX12_settleThree_0 3 rfl
theorem dX12_settleThree_6 : decode cX12_settleThree 6 = .ok (.aload_n 0, 1) := all_at dvX12_settleThree_0 4 rfl
theorem dX12_settleThree_7 : decode cX12_settleThree 7 = .ok (.getfield 100, 3) := all_at dvX12_settleThree_0 5 rfl
theorem dX12_settleThree_10 : decode cX12_settleThree 10 = .ok (.iconst 1, 1) := all_at dvX12_settleThree_0 6 rfl
theorem dX12_settleThree_11 : decode cX12_settleThree 11 = .ok (.laload, 1) := all_at dvX12_settleThree_0 7 rfl
theorem dX12_settleThree_12 : decode cX12_settleThree 12 = .ok (.lmul, 1) := all_at dvX12_settleThree_0 8 rfl
theorem dX12_settleThree_13 : decode cX12_settleThree 13 = .ok (.aload_n 0, 1) := all_at dvX12_settleThree_0 9 rfl
theorem dX12_settleThree_14 : decode cX12_settleThree 14 = .ok (.getfield 100, 3) := all_at dvX12_settleThree_0 10 rfl
theorem dX12_settleThree_17 : decode cX12_settleThree 17 = .ok (.iconst 2, 1) := all_at dvX12_settleThree_0 11 rfl
theorem dX12_settleThree_18 : decode cX12_settleThree 18 = .ok (.laload, 1) := all_at dvX12_settleThree_0 12 rfl
theorem dX12_settleThree_19 : decode cX12_settleThree 19 = .ok (.lmul, 1) := all_at dvX12_settleThree_0 13 rfl
theorem dX12_settleThree_20 : decode cX12_settleThree 20 = .ok (.lstore_n 2, 1) := all_at dvX12_settleThree_0 14 rfl
theorem dX12_settleThree_21 : decode cX12_settleThree 21 = .ok (.aload_n 0, 1) := all_at dvX12_settleThree_0 15 rfl
theorem dX12_settleThree_22 : decode cX12_settleThree 22 = .ok (.getfield 96, 3) := all_at dvX12_settleThree_0 16 rfl
theorem dX12_settleThree_25 : decode cX12_settleThree 25 = .ok (.iconst 1, 1) := all_at dvX12_settleThree_0 17 rfl
theorem dX12_settleThree_26 : decode cX12_settleThree 26 = .ok (.laload, 1) := all_at dvX12_settleThree_0 18 rfl
theorem dX12_settleThree_27 : decode cX12_settleThree 27 = .ok (.aload_n 0, 1) := all_at dvX12_settleThree_0 19 rfl
theorem dX12_settleThree_28 : decode cX12_settleThree 28 = .ok (.getfield 100, 3) := all_at dvX12_settleThree_0 20 rfl
theorem dX12_settleThree_31 : decode cX12_settleThree 31 = .ok (.iconst 0, 1) := all_at dvX12_settleThree_0 21 rfl
theorem dX12_settleThree_32 : decode cX12_settleThree 32 = .ok (.laload, 1) := all_at dvX12_settleThree_0 22 rfl
theorem dX12_settleThree_33 : decode cX12_settleThree 33 = .ok (.lmul, 1) := all_at dvX12_settleThree_0 23 rfl
set_option maxRecDepth 100000 in
theorem dvX12_settleThree_34 : ([(34, .aload_n 0, 1), (35, .getfield 100, 3), (38, .iconst 2, 1), (39, .laload, 1), (40, .lmul, 1), (41, .lstore 4, 2), (43, .aload_n 0, 1), (44, .getfield 96, 3), (47, .iconst 2, 1), (48, .laload, 1), (49, .aload_n 0, 1), (50, .getfield 100, 3), (53, .iconst 0, 1), (54, .laload, 1), (55, .lmul, 1), (56, .aload_n 0, 1), (57, .getfield 100, 3), (60, .iconst 1, 1), (61, .laload, 1), (62, .lmul, 1), (63, .lstore 6, 2), (65, .iload_n 1, 1), (66, .ifCond .ne 82, 3), (69, .lload_n 2, 1)] : List (Nat × Instr × Nat)).all (fun q => decide (decode cX12_settleThree q.1 = .ok (q.2.1, q.2.2))) = true := by decide +kernel
theorem dX12_settleThree_34 : decode cX12_settleThree 34 = .ok (.aload_n 0, 1) := all_at dvX12_settleThree_34 0 rfl
theorem dX12_settleThree_35 : decode cX12_settleThree 35 = .ok (.getfield 100, 3) := all_at dvX12_settleThree_34 1 rfl
theorem dX12_settleThree_38 : decode cX12_settleThree 38 = .ok (.iconst 2, 1) := all_at dvX12_settleThree_34 2 rfl
theorem dX12_settleThree_39 : decode cX12_settleThree 39 = .ok (.laload, 1) := all_at dvX12_settleThree_34 3 rfl
theorem dX12_settleThree_40 : decode cX12_settleThree 40 = .ok (.lmul, 1) := all_at dvX12_settleThree_34 4 rfl
theorem dX12_settleThree_41 : decode cX12_settleThree 41 = .ok (.lstore 4, 2) := all_at dvX12_settleThree_34 5 rfl
theorem dX12_settleThree_43 : decode cX12_settleThree 43 = .ok (.aload_n 0, 1) := all_at dvX12_settleThree_34 6 rfl
theorem dX12_settleThree_44 : decode cX12_settleThree 44 = .ok (.getfield 96, 3) := all_at dvX12_settleThree_34 7 rfl
theorem dX12_settleThree_47 : decode cX12_settleThree 47 = .ok (.iconst 2, 1) := all_at dvX12_settleThree_34 8 rfl
theorem dX12_settleThree_48 : decode cX12_settleThree 48 = .ok (.laload, 1) := all_at dvX12_settleThree_34 9 rfl
theorem dX12_settleThree_49 : decode cX12_settleThree 49 = .ok (.aload_n 0, 1) := all_at dvX12_settleThree_34 10 rfl
theorem dX12_settleThree_50 : decode cX12_settleThree 50 = .ok (.getfield 100, 3) := all_at dvX12_settleThree_34 11 rfl
theorem dX12_settleThree_53 : decode cX12_settleThree 53 = .ok (.iconst 0, 1) := all_at dvX12_settleThree_34 12 rfl
theorem dX12_settleThree_54 : decode cX12_settleThree 54 = .ok (.laload, 1) := all_at dvX12_settleThree_34 13 rfl
theorem dX12_settleThree_55 : decode cX12_settleThree 55 = .ok (.lmul, 1) := all_at dvX12_settleThree_34 14 rfl
theorem dX12_settleThree_56 : decode cX12_settleThree 56 = .ok (.aload_n 0, 1) := all_at dvX12_settleThree_34 15 rfl
theorem dX12_settleThree_57 : decode cX12_settleThree 57 = .ok (.getfield 100, 3) := all_at dvX12_settleThree_34 16 rfl
theorem dX12_settleThree_60 : decode cX12_settleThree 60 = .ok (.iconst 1, 1) := all_at dvX12_settleThree_34 17 rfl
theorem dX12_settleThree_61 : decode cX12_settleThree 61 = .ok (.laload, 1) := all_at dvX12_settleThree_34 18 rfl
theorem dX12_settleThree_62 : decode cX12_settleThree 62 = .ok (.lmul, 1) := all_at dvX12_settleThree_34 19 rfl
theorem dX12_settleThree_63 : decode cX12_settleThree 63 = .ok (.lstore 6, 2) := all_at dvX12_settleThree_34 20 rfl
theorem dX12_settleThree_65 : decode cX12_settleThree 65 = .ok (.iload_n 1, 1) := all_at dvX12_settleThree_34 21 rfl
theorem dX12_settleThree_66 : decode cX12_settleThree 66 = .ok (.ifCond .ne 82, 3) := all_at dvX12_settleThree_34 22 rfl
theorem dX12_settleThree_69 : decode cX12_settleThree 69 = .ok (.lload_n 2, 1) := all_at dvX12_settleThree_34 23 rfl
set_option maxRecDepth 100000 in
theorem dvX12_settleThree_70 : ([(70, .lload 4, 2), (72, .lsub, 1), (73, .invokestatic 160, 3), (76, .lstore 8, 2), (78, .lload_n 2, 1), (79, .lload 6, 2), (81, .lsub, 1), (82, .invokestatic 160, 3), (85, .lstore 10, 2), (87, .lload 4, 2), (89, .lload 6, 2), (91, .lsub, 1), (92, .invokestatic 160, 3), (95, .lstore 12, 2), (97, .lload 8, 2), (99, .lload 10, 2), (101, .lcmp, 1), (102, .ifCond .gt 20, 3), (105, .lload 8, 2), (107, .lload 12, 2), (109, .lcmp, 1), (110, .ifCond .gt 12, 3), (113, .aload_n 0, 1), (114, .iconst 0, 1)] : List (Nat × Instr × Nat)).all (fun q => decide (decode cX12_settleThree q.1 = .ok (q.2.1, q.2.2))) = true := by decide +kernel
theorem dX12_settleThree_70 : decode cX12_settleThree 70 = .ok (.lload 4, 2) := all_at dvX12_settleThree_70 0 rfl
theorem dX12_settleThree_72 : decode cX12_settleThree 72 = .ok (.lsub, 1) := all_at dvX12_settleThree_70 1 rfl
theorem dX12_settleThree_73 : decode cX12_settleThree 73 = .ok (.invokestatic 160, 3) := all_at dvX12_settleThree_70 2 rfl
theorem dX12_settleThree_76 : decode cX12_settleThree 76 = .ok (.lstore 8, 2) := all_at dvX12_settleThree_70 3 rfl
theorem dX12_settleThree_78 : decode cX12_settleThree 78 = .ok (.lload_n 2, 1) := all_at dvX12_settleThree_70 4 rfl
theorem dX12_settleThree_79 : decode cX12_settleThree 79 = .ok (.lload 6, 2) := all_at dvX12_settleThree_70 5 rfl
theorem dX12_settleThree_81 : decode cX12_settleThree 81 = .ok (.lsub, 1) := all_at dvX12_settleThree_70 6 rfl
theorem dX12_settleThree_82 : decode cX12_settleThree 82 = .ok (.invokestatic 160, 3) := all_at dvX12_settleThree_70 7 rfl
theorem dX12_settleThree_85 : decode cX12_settleThree 85 = .ok (.lstore 10, 2) := all_at dvX12_settleThree_70 8 rfl
theorem dX12_settleThree_87 : decode cX12_settleThree 87 = .ok (.lload 4, 2) := all_at dvX12_settleThree_70 9 rfl
theorem dX12_settleThree_89 : decode cX12_settleThree 89 = .ok (.lload 6, 2) := all_at dvX12_settleThree_70 10 rfl
theorem dX12_settleThree_91 : decode cX12_settleThree 91 = .ok (.lsub, 1) := all_at dvX12_settleThree_70 11 rfl
theorem dX12_settleThree_92 : decode cX12_settleThree 92 = .ok (.invokestatic 160, 3) := all_at dvX12_settleThree_70 12 rfl
theorem dX12_settleThree_95 : decode cX12_settleThree 95 = .ok (.lstore 12, 2) := all_at dvX12_settleThree_70 13 rfl
theorem dX12_settleThree_97 : decode cX12_settleThree 97 = .ok (.lload 8, 2) := all_at dvX12_settleThree_70 14 rfl
theorem dX12_settleThree_99 : decode cX12_settleThree 99 = .ok (.lload 10, 2) := all_at dvX12_settleThree_70 15 rfl
theorem dX12_settleThree_101 : decode cX12_settleThree 101 = .ok (.lcmp, 1) := all_at dvX12_settleThree_70 16 rfl
theorem dX12_settleThree_102 : decode cX12_settleThree 102 = .ok (.ifCond .gt 20, 3) := all_at dvX12_settleThree_70 17 rfl
theorem dX12_settleThree_105 : decode cX12_settleThree 105 = .ok (.lload 8, 2) := all_at dvX12_settleThree_70 18 rfl
theorem dX12_settleThree_107 : decode cX12_settleThree 107 = .ok (.lload 12, 2) := all_at dvX12_settleThree_70 19 rfl
theorem dX12_settleThree_109 : decode cX12_settleThree 109 = .ok (.lcmp, 1) := all_at dvX12_settleThree_70 20 rfl
theorem dX12_settleThree_110 : decode cX12_settleThree 110 = .ok (.ifCond .gt 12, 3) := all_at dvX12_settleThree_70 21 rfl
theorem dX12_settleThree_113 : decode cX12_settleThree 113 = .ok (.aload_n 0, 1) := all_at dvX12_settleThree_70 22 rfl
theorem dX12_settleThree_114 : decode cX12_settleThree 114 = .ok (.iconst 0, 1) := all_at dvX12_settleThree_70 23 rfl
set_option maxRecDepth 100000 in
theorem dvX12_settleThree_115 : ([(115, .iconst 1, 1), (116, .invokevirtual 334, 3), (119, .goto 26, 3), (122, .lload 10, 2), (124, .lload 12, 2), (126, .lcmp, 1), (127, .ifCond .gt 12, 3), (130, .aload_n 0, 1), (131, .iconst 0, 1), (132, .iconst 2, 1), (133, .invokevirtual 334, 3), (136, .goto 9, 3), (139, .aload_n 0, 1), (140, .iconst 1, 1), (141, .iconst 2, 1), (142, .invokevirtual 334, 3), (145, .goto 114, 3), (148, .iload_n 1, 1), (149, .iconst 1, 1), (150, .if_icmp .ne 41, 3), (153, .aload_n 0, 1), (154, .lload_n 2, 1), (155, .lload 4, 2), (157, .lcmp, 1)] : List (Nat × Instr × Nat)).all (fun q => decide (decode cX12_settleThree q.1 = .ok (q.2.1, q.2.2))) = true := by decide +kernel
theorem dX12_settleThree_115 : decode cX12_settleThree 115 = .ok (.iconst 1, 1) := all_at dvX12_settleThree_115 0 rfl
theorem dX12_settleThree_116 : decode cX12_settleThree 116 = .ok (.invokevirtual 334, 3) := all_at dvX12_settleThree_115 1 rfl
theorem dX12_settleThree_119 : decode cX12_settleThree 119 = .ok (.goto 26, 3) := all_at dvX12_settleThree_115 2 rfl
theorem dX12_settleThree_122 : decode cX12_settleThree 122 = .ok (.lload 10, 2) := all_at dvX12_settleThree_115 3 rfl
theorem dX12_settleThree_124 : decode cX12_settleThree 124 = .ok (.lload 12, 2) := all_at dvX12_settleThree_115 4 rfl
theorem dX12_settleThree_126 : decode cX12_settleThree 126 = .ok (.lcmp, 1) := all_at dvX12_settleThree_115 5 rfl
theorem dX12_settleThree_127 : decode cX12_settleThree 127 = .ok (.ifCond .gt 12, 3) := all_at dvX12_settleThree_115 6 rfl
theorem dX12_settleThree_130 : decode cX12_settleThree 130 = .ok (.aload_n 0, 1) := all_at dvX12_settleThree_115 7 rfl
theorem dX12_settleThree_131 : decode cX12_settleThree 131 = .ok (.iconst 0, 1) := all_at dvX12_settleThree_115 8 rfl
theorem dX12_settleThree_132 : decode cX12_settleThree 132 = .ok (.iconst 2, 1) := all_at dvX12_settleThree_115 9 rfl
theorem dX12_settleThree_133 : decode cX12_settleThree 133 = .ok (.invokevirtual 334, 3) := all_at dvX12_settleThree_115 10 rfl
theorem dX12_settleThree_136 : decode cX12_settleThree 136 = .ok (.goto 9, 3) := all_at dvX12_settleThree_115 11 rfl
theorem dX12_settleThree_139 : decode cX12_settleThree 139 = .ok (.aload_n 0, 1) := all_at dvX12_settleThree_115 12 rfl
theorem dX12_settleThree_140 : decode cX12_settleThree 140 = .ok (.iconst 1, 1) := all_at dvX12_settleThree_115 13 rfl
theorem dX12_settleThree_141 : decode cX12_settleThree 141 = .ok (.iconst 2, 1) := all_at dvX12_settleThree_115 14 rfl
theorem dX12_settleThree_142 : decode cX12_settleThree 142 = .ok (.invokevirtual 334, 3) := all_at dvX12_settleThree_115 15 rfl
theorem dX12_settleThree_145 : decode cX12_settleThree 145 = .ok (.goto 114, 3) := all_at dvX12_settleThree_115 16 rfl
theorem dX12_settleThree_148 : decode cX12_settleThree 148 = .ok (.iload_n 1, 1) := all_at dvX12_settleThree_115 17 rfl
theorem dX12_settleThree_149 : decode cX12_settleThree 149 = .ok (.iconst 1, 1) := all_at dvX12_settleThree_115 18 rfl
theorem dX12_settleThree_150 : decode cX12_settleThree 150 = .ok (.if_icmp .ne 41, 3) := all_at dvX12_settleThree_115 19 rfl
theorem dX12_settleThree_153 : decode cX12_settleThree 153 = .ok (.aload_n 0, 1) := all_at dvX12_settleThree_115 20 rfl
theorem dX12_settleThree_154 : decode cX12_settleThree 154 = .ok (.lload_n 2, 1) := all_at dvX12_settleThree_115 21 rfl
theorem dX12_settleThree_155 : decode cX12_settleThree 155 = .ok (.lload 4, 2) := all_at dvX12_settleThree_115 22 rfl
theorem dX12_settleThree_157 : decode cX12_settleThree 157 = .ok (.lcmp, 1) := all_at dvX12_settleThree_115 23 rfl
set_option maxRecDepth 100000 in
theorem dvX12_settleThree_158 : ([(158, .ifCond .gt 14, 3), (161, .lload_n 2, 1), (162, .lload 6, 2), (164, .lcmp, 1), (165, .ifCond .gt 7, 3), (168, .iconst 0, 1), (169, .goto 16, 3), (172, .lload 4, 2), (174, .lload 6, 2), (176, .lcmp, 1), (177, .ifCond .gt 7, 3), (180, .iconst 1, 1), (181, .goto 4, 3), (184, .iconst 2, 1), (185, .invokevirtual 337, 3), (188, .goto 71, 3), (191, .aload_n 0, 1), (192, .lload_n 2, 1), (193, .lload 4, 2), (195, .lcmp, 1), (196, .ifCond .gt 7, 3), (199, .iconst 1, 1), (200, .goto 4, 3), (203, .iconst 0, 1)] : List (Nat × Instr × Nat)).all (fun q => decide (decode cX12_settleThree q.1 = .ok (q.2.1, q.2.2))) = true := by decide +kernel
theorem dX12_settleThree_158 : decode cX12_settleThree 158 = .ok (.ifCond .gt 14, 3) := all_at dvX12_settleThree_158 0 rfl
theorem dX12_settleThree_161 : decode cX12_settleThree 161 = .ok (.lload_n 2, 1) := all_at dvX12_settleThree_158 1 rfl
theorem dX12_settleThree_162 : decode cX12_settleThree 162 = .ok (.lload 6, 2) := all_at dvX12_settleThree_158 2 rfl
theorem dX12_settleThree_164 : decode cX12_settleThree 164 = .ok (.lcmp, 1) := all_at dvX12_settleThree_158 3 rfl
theorem dX12_settleThree_165 : decode cX12_settleThree 165 = .ok (.ifCond .gt 7, 3) := all_at dvX12_settleThree_158 4 rfl
theorem dX12_settleThree_168 : decode cX12_settleThree 168 = .ok (.iconst 0, 1) := all_at dvX12_settleThree_158 5 rfl
theorem dX12_settleThree_169 : decode cX12_settleThree 169 = .ok (.goto 16, 3) := all_at dvX12_settleThree_158 6 rfl
theorem dX12_settleThree_172 : decode cX12_settleThree 172 = .ok (.lload 4, 2) := all_at dvX12_settleThree_158 7 rfl
theorem dX12_settleThree_174 : decode cX12_settleThree 174 = .ok (.lload 6, 2) := all_at dvX12_settleThree_158 8 rfl
theorem dX12_settleThree_176 : decode cX12_settleThree 176 = .ok (.lcmp, 1) := all_at dvX12_settleThree_158 9 rfl
theorem dX12_settleThree_177 : decode cX12_settleThree 177 = .ok (.ifCond .gt 7, 3) := all_at dvX12_settleThree_158 10 rfl
theorem dX12_settleThree_180 : decode cX12_settleThree 180 = .ok (.iconst 1, 1) := all_at dvX12_settleThree_158 11 rfl
theorem dX12_settleThree_181 : decode cX12_settleThree 181 = .ok (.goto 4, 3) := all_at dvX12_settleThree_158 12 rfl
theorem dX12_settleThree_184 : decode cX12_settleThree 184 = .ok (.iconst 2, 1) := all_at dvX12_settleThree_158 13 rfl
theorem dX12_settleThree_185 : decode cX12_settleThree 185 = .ok (.invokevirtual 337, 3) := all_at dvX12_settleThree_158 14 rfl
theorem dX12_settleThree_188 : decode cX12_settleThree 188 = .ok (.goto 71, 3) := all_at dvX12_settleThree_158 15 rfl
theorem dX12_settleThree_191 : decode cX12_settleThree 191 = .ok (.aload_n 0, 1) := all_at dvX12_settleThree_158 16 rfl
theorem dX12_settleThree_192 : decode cX12_settleThree 192 = .ok (.lload_n 2, 1) := all_at dvX12_settleThree_158 17 rfl
theorem dX12_settleThree_193 : decode cX12_settleThree 193 = .ok (.lload 4, 2) := all_at dvX12_settleThree_158 18 rfl
theorem dX12_settleThree_195 : decode cX12_settleThree 195 = .ok (.lcmp, 1) := all_at dvX12_settleThree_158 19 rfl
theorem dX12_settleThree_196 : decode cX12_settleThree 196 = .ok (.ifCond .gt 7, 3) := all_at dvX12_settleThree_158 20 rfl
theorem dX12_settleThree_199 : decode cX12_settleThree 199 = .ok (.iconst 1, 1) := all_at dvX12_settleThree_158 21 rfl
theorem dX12_settleThree_200 : decode cX12_settleThree 200 = .ok (.goto 4, 3) := all_at dvX12_settleThree_158 22 rfl
theorem dX12_settleThree_203 : decode cX12_settleThree 203 = .ok (.iconst 0, 1) := all_at dvX12_settleThree_158 23 rfl
set_option maxRecDepth 100000 in
theorem dvX12_settleThree_204 : ([(204, .lload 4, 2), (206, .lload 6, 2), (208, .lcmp, 1), (209, .ifCond .gt 7, 3), (212, .iconst 1, 1), (213, .goto 4, 3), (216, .iconst 0, 1), (217, .if_icmp .ne 7, 3), (220, .iconst 1, 1), (221, .goto 35, 3), (224, .lload 4, 2), (226, .lload_n 2, 1), (227, .lcmp, 1), (228, .ifCond .gt 7, 3), (231, .iconst 1, 1), (232, .goto 4, 3), (235, .iconst 0, 1), (236, .lload_n 2, 1), (237, .lload 6, 2), (239, .lcmp, 1), (240, .ifCond .gt 7, 3), (243, .iconst 1, 1), (244, .goto 4, 3), (247, .iconst 0, 1)] : List (Nat × Instr × Nat)).all (fun q => decide (decode cX12_settleThree q.1 = .ok (q.2.1, q.2.2))) = true := by decide +kernel
theorem dX12_settleThree_204 : decode cX12_settleThree 204 = .ok (.lload 4, 2) := all_at dvX12_settleThree_204 0 rfl
theorem dX12_settleThree_206 : decode cX12_settleThree 206 = .ok (.lload 6, 2) := all_at dvX12_settleThree_204 1 rfl
theorem dX12_settleThree_208 : decode cX12_settleThree 208 = .ok (.lcmp, 1) := all_at dvX12_settleThree_204 2 rfl
theorem dX12_settleThree_209 : decode cX12_settleThree 209 = .ok (.ifCond .gt 7, 3) := all_at dvX12_settleThree_204 3 rfl
theorem dX12_settleThree_212 : decode cX12_settleThree 212 = .ok (.iconst 1, 1) := all_at dvX12_settleThree_204 4 rfl
theorem dX12_settleThree_213 : decode cX12_settleThree 213 = .ok (.goto 4, 3) := all_at dvX12_settleThree_204 5 rfl
theorem dX12_settleThree_216 : decode cX12_settleThree 216 = .ok (.iconst 0, 1) := all_at dvX12_settleThree_204 6 rfl
theorem dX12_settleThree_217 : decode cX12_settleThree 217 = .ok (.if_icmp .ne 7, 3) := all_at dvX12_settleThree_204 7 rfl
theorem dX12_settleThree_220 : decode cX12_settleThree 220 = .ok (.iconst 1, 1) := all_at dvX12_settleThree_204 8 rfl
theorem dX12_settleThree_221 : decode cX12_settleThree 221 = .ok (.goto 35, 3) := all_at dvX12_settleThree_204 9 rfl
theorem dX12_settleThree_224 : decode cX12_settleThree 224 = .ok (.lload 4, 2) := all_at dvX12_settleThree_204 10 rfl
theorem dX12_settleThree_226 : decode cX12_settleThree 226 = .ok (.lload_n 2, 1) := all_at dvX12_settleThree_204 11 rfl
theorem dX12_settleThree_227 : decode cX12_settleThree 227 = .ok (.lcmp, 1) := all_at dvX12_settleThree_204 12 rfl
theorem dX12_settleThree_228 : decode cX12_settleThree 228 = .ok (.ifCond .gt 7, 3) := all_at dvX12_settleThree_204 13 rfl
theorem dX12_settleThree_231 : decode cX12_settleThree 231 = .ok (.iconst 1, 1) := all_at dvX12_settleThree_204 14 rfl
theorem dX12_settleThree_232 : decode cX12_settleThree 232 = .ok (.goto 4, 3) := all_at dvX12_settleThree_204 15 rfl
theorem dX12_settleThree_235 : decode cX12_settleThree 235 = .ok (.iconst 0, 1) := all_at dvX12_settleThree_204 16 rfl
theorem dX12_settleThree_236 : decode cX12_settleThree 236 = .ok (.lload_n 2, 1) := all_at dvX12_settleThree_204 17 rfl
theorem dX12_settleThree_237 : decode cX12_settleThree 237 = .ok (.lload 6, 2) := all_at dvX12_settleThree_204 18 rfl
theorem dX12_settleThree_239 : decode cX12_settleThree 239 = .ok (.lcmp, 1) := all_at dvX12_settleThree_204 19 rfl
theorem dX12_settleThree_240 : decode cX12_settleThree 240 = .ok (.ifCond .gt 7, 3) := all_at dvX12_settleThree_204 20 rfl
theorem dX12_settleThree_243 : decode cX12_settleThree 243 = .ok (.iconst 1, 1) := all_at dvX12_settleThree_204 21 rfl
theorem dX12_settleThree_244 : decode cX12_settleThree 244 = .ok (.goto 4, 3) := all_at dvX12_settleThree_204 22 rfl
theorem dX12_settleThree_247 : decode cX12_settleThree 247 = .ok (.iconst 0, 1) := all_at dvX12_settleThree_204 23 rfl
set_option maxRecDepth 100000 in
theorem dvX12_settleThree_248 : ([(248, .if_icmp .ne 7, 3), (251, .iconst 0, 1), (252, .goto 4, 3), (255, .iconst 2, 1), (256, .invokevirtual 337, 3), (259, .return_, 1)] : List (Nat × Instr × Nat)).all (fun q => decide (decode cX12_settleThree q.1 = .ok (q.2.1, q.2.2))) = true := by decide +kernel
theorem dX12_settleThree_248 : decode cX12_settleThree 248 = .ok (.if_icmp .ne 7, 3) := all_at dvX12_settleThree_248 0 rfl
theorem dX12_settleThree_251 : decode cX12_settleThree 251 = .ok (.iconst 0, 1) := all_at dvX12_settleThree_248 1 rfl
theorem dX12_settleThree_252 : decode cX12_settleThree 252 = .ok (.goto 4, 3) := all_at dvX12_settleThree_248 2 rfl
theorem dX12_settleThree_255 : decode cX12_settleThree 255 = .ok (.iconst 2, 1) := all_at dvX12_settleThree_248 3 rfl
theorem dX12_settleThree_256 : decode cX12_settleThree 256 = .ok (.invokevirtual 337, 3) := all_at dvX12_settleThree_248 4 rfl
theorem dX12_settleThree_259 : decode cX12_settleThree 259 = .ok (.return_, 1) := all_at dvX12_settleThree_248 5 rfl
set_option maxHeartbeats 4000000 in
set_option maxRecDepth 100000 in
/-- X12_letter -/
theorem c_X12_letter (l : Launch) (dC : Nat → ClassId) (dI : Nat → Nat → Nat) (h : Nat) (g : Nat → Nat → Nat) (ca : Nat → Nat → ClassId) (iv : Nat → Nat → Int32) (lv : Nat → Nat → Int64) (fa : Nat → Nat → Nat → Int32) (la : Nat → Nat → Nat → Int64) (hI : IX iv fa) (a : Int32) (b : Int32) : Met l yX12_letter (wc yX12_letter cX12_letter 4 (some .int)) ({ frames := 1, cells := 0, slots := 0, locals := 25 } : Room) (pR (dC, dI) classes (WM h g ca iv lv fa la) (TM ca) [.ref h, .int a, .int b]) (vp_Si (fun r => True)) 0 0 (fun _ => False) := by
  refine Met.ofW (cc := cX12_letter) (maxL := 4) (ret := (some .int)) (by decide) rfl ?_
  intro p e s m args below meth c s₁ B hml hv
  obtain ⟨rfl, hP, hK⟩ := hv
  have hx := B.exec
  have hb := B.bytes
  have hr := B.returns
  have ht := tb_tl (atoms_spec (ws := wc yX12_letter cX12_letter 4 (some .int)) B.pre)
  have hown : s.vm.findClass RX12 = some m.cls := findClass_of_methodNamed B.named
  have hlocks := B.notSynchronized
  have hl := lv_entry [.ref h, .int a, .int b] (n := 4) (Nat.le_of_ble_eq_true rfl)
  rw [lg_entry_eq]
  generalize (lg_sl [.ref h, .int a, .int b] ++ List.replicate (4 - (lg_sl [.ref h, .int a, .int b]).length) Slot.unset).toArray = ls at hl ⊢
  have hl : lv_has ls 4 [(0, .ref h), (1, .int a), (2, .int b)] := hl
  refine lv_iload_n hx hb dX12_letter_0 rfl (lv_at hl 1 rfl) ?_
  refine lv_if_lt (tgt := 31) hx hb dX12_letter_1 (by decide) (fun c1 => ?_) (fun c1 => ?_)
  · have fc1 := z_lt (rfl : (a).toInt = _) (by decide : (0 : Int32).toInt = 0) c1
    refine lv_ldc hx hb hown (ht _ m_1389) dX12_letter_31 ?_
    exact W.iret (v := (-100001)) hx hb hr (fun t ht9 hW => ⟨(-100001), rfl, trivial, ht9⟩) (fun q hq => by cases hq) dX12_letter_33
  · have fc1 := z_nlt (rfl : (a).toInt = _) (by decide : (0 : Int32).toInt = 0) c1
    refine lv_iload_n hx hb dX12_letter_4 rfl (lv_at hl 1 rfl) ?_
    refine lv_bipush (v := 100) hx hb dX12_letter_5 (by decide) ?_
    refine lv_idiv hx hb dX12_letter_7 (by decide) ?_
    refine lv_topi (fun v2 ev2 => ?_)
    have tv2 := z_divp ev2 (rfl : (a).toInt = _) (by decide : (100 : Int32).toInt = 100) (by omega) (by omega)
    refine lv_aload_n hx hb dX12_letter_8 rfl (lv_at hl 0 rfl) ?_
    have i_12_23 : 0 ≤ (iv 12 23).toInt ∧ (iv 12 23).toInt ≤ 8 := hI.1 12 23
    refine gM_12_23 hx hb ht hown hK hP m_1162 (v := (iv 12 23)) rfl dX12_letter_9 ?_
    refine lv_icmp_ge (tgt := 31) hx hb dX12_letter_12 (by decide) (fun c3 => ?_) (fun c3 => ?_)
    · have fc3 := z_le (rfl : ((iv 12 23)).toInt = _) (rfl : (v2).toInt = _) c3
      refine lv_ldc hx hb hown (ht _ m_1389) dX12_letter_31 ?_
      exact W.iret (v := (-100001)) hx hb hr (fun t ht9 hW => ⟨(-100001), rfl, trivial, ht9⟩) (fun q hq => by cases hq) dX12_letter_33
    · have fc3 := z_nle (rfl : ((iv 12 23)).toInt = _) (rfl : (v2).toInt = _) c3
      refine lv_iload_n hx hb dX12_letter_15 rfl (lv_at hl 1 rfl) ?_
      refine lv_bipush (v := 100) hx hb dX12_letter_16 (by decide) ?_
      refine lv_irem hx hb dX12_letter_18 (by decide) ?_
      refine lv_topi (fun v4 ev4 => ?_)
      have tv4 := z_remp ev4 (rfl : (a).toInt = _) (by decide : (100 : Int32).toInt = 100) (by omega) (by omega)
      refine lv_aload_n hx hb dX12_letter_19 rfl (lv_at hl 0 rfl) ?_
      refine gM_12_25 hx hb ht hown hK hP m_1164 dX12_letter_20 ?_
      refine lv_iload_n hx hb dX12_letter_23 rfl (lv_at hl 1 rfl) ?_
      refine lv_bipush (v := 100) hx hb dX12_letter_24 (by decide) ?_
      refine lv_idiv hx hb dX12_letter_26 (by decide) ?_
      refine lv_topi (fun v5 ev5 => ?_)
      obtain rfl : v2 = v5 := ev2.trans ev5.symm
      refine lM_12_25 hx hb hK hP (f := (fa 12 25)) rfl (vp_in_iff.mpr ⟨by omega, by omega⟩) dX12_letter_27 ?_
      refine lv_topi (fun v6 ev6 => ?_)
      have tv6 : 0 ≤ v6.toInt ∧ v6.toInt ≤ 12 := by rw [ev6]; exact hI.2 12 25 _
      refine lv_icmp_lt (tgt := 34) hx hb dX12_letter_28 (by decide) (fun c7 => ?_) (fun c7 => ?_)
      · have fc7 := z_lt (rfl : (v4).toInt = _) (rfl : (v6).toInt = _) c7
        refine lv_bipush (v := 12) hx hb dX12_letter_34 (by decide) ?_
        refine lv_iload_n hx hb dX12_letter_36 rfl (lv_at hl 1 rfl) ?_
        refine lv_bipush (v := 100) hx hb dX12_letter_37 (by decide) ?_
        refine lv_idiv hx hb dX12_letter_39 (by decide) ?_
        refine lv_topi (fun v8 ev8 => ?_)
        obtain rfl : v2 = v8 := ev2.trans ev8.symm
        refine lv_imul hx hb dX12_letter_40 ?_
        refine lv_topi (fun v9 ev9 => ?_)
        have tv9 := z_mul ev9 (by decide : (12 : Int32).toInt = 12) (rfl : (v2).toInt = _) (by omega) (by omega)
        refine lv_iload_n hx hb dX12_letter_41 rfl (lv_at hl 1 rfl) ?_
        refine lv_bipush (v := 100) hx hb dX12_letter_42 (by decide) ?_
        refine lv_irem hx hb dX12_letter_44 (by decide) ?_
        refine lv_topi (fun v10 ev10 => ?_)
        obtain rfl : v4 = v10 := ev4.trans ev10.symm
        refine lv_iadd hx hb dX12_letter_45 ?_
        refine lv_topi (fun v11 ev11 => ?_)
        have tv11 := z_add ev11 (rfl : (v9).toInt = _) (rfl : (v4).toInt = _) (by omega) (by omega)
        refine lv_istore_n (lv' := [(3, .int v11), (0, .ref h), (1, .int a), (2, .int b)]) hx hb dX12_letter_46 rfl hl (by decide) rfl (fun ls hl => ?_)
        refine lv_aload_n hx hb dX12_letter_47 rfl (lv_at hl 1 rfl) ?_
        refine gM_12_26 hx hb ht hown hK hP m_1165 dX12_letter_48 ?_
        refine lv_iload_n hx hb dX12_letter_51 rfl (lv_at hl 0 rfl) ?_
        refine lM_12_26 hx hb hK hP (f := (fa 12 26)) rfl (vp_in_iff.mpr ⟨by omega, by omega⟩) dX12_letter_52 ?_
        refine lv_topi (fun v12 ev12 => ?_)
        refine lv_iconst (v := 2) hx hb dX12_letter_53 (by decide) ?_
        refine lv_icmp_ne (tgt := 89) hx hb dX12_letter_54 (by decide) (fun c13 => ?_) (fun c13 => ?_)
        · have fc13 := z_ne (rfl : (v12).toInt = _) (by decide : (2 : Int32).toInt = 2) c13
          refine lv_iconst (v := (-1)) hx hb dX12_letter_89 (by decide) ?_
          exact W.iret (v := (-1)) hx hb hr (fun t ht9 hW => ⟨(-1), rfl, trivial, ht9⟩) (fun q hq => by cases hq) dX12_letter_90
        · have fc13 := z_eq (rfl : (v12).toInt = _) (by decide : (2 : Int32).toInt = 2) c13
          refine lv_iload_n hx hb dX12_letter_57 rfl (lv_at hl 3 rfl) ?_
          refine lv_i2l (v := (b.toInt64)) hx hb dX12_letter_58 rfl ?_
          refine lv_lconst (v := 0) hx hb dX12_letter_59 (by decide) ?_
          refine lv_aload_n hx hb dX12_letter_60 rfl (lv_at hl 1 rfl) ?_
          refine gM_12_30 hx hb ht hown hK hP m_1169 dX12_letter_61 ?_
          refine lv_iload_n hx hb dX12_letter_64 rfl (lv_at hl 0 rfl) ?_
          refine lM_12_30 hx hb hK hP (f := (fa 12 30)) rfl (vp_in_iff.mpr ⟨by omega, by omega⟩) dX12_letter_65 ?_
          refine lv_topi (fun v14 ev14 => ?_)
          have tv14 : 0 ≤ v14.toInt ∧ v14.toInt ≤ 8 := by rw [ev14]; exact hI.2 12 30 _
          refine lv_iconst (v := 1) hx hb dX12_letter_66 (by decide) ?_
          refine lv_isub hx hb dX12_letter_67 ?_
          refine lv_topi (fun v15 ev15 => ?_)
          have tv15 := z_sub ev15 (rfl : (v14).toInt = _) (by decide : (1 : Int32).toInt = 1) (by omega) (by omega)
          refine lv_i2l (v := (v15.toInt64)) hx hb dX12_letter_68 rfl ?_
          refine vp_callSi (W.runS (As := [.long (b.toInt64), .long 0, .long (v15.toInt64)]) (rest := []) ⟨hx, hb, hml, hown, ht⟩ (c_X12_in l dC dI (b.toInt64) 0 (v15.toInt64) (b.toInt) (0) (v15.toInt) ((Int32.toInt_toInt64 b).trans rfl) (by decide : (0 : Int64).toInt = 0) ((Int32.toInt_toInt64 v15).trans rfl)) (kS 3 ht m_1370 m_1371 m_89 m_1372 rfl rfl hd_X12_in_v ⟨Nat.le_of_ble_eq_true rfl, Nat.le_of_ble_eq_true rfl⟩) (sR noP (hK.sub (tys' := []) [] rfl)) rfl rfl hl.1 rfl (lv_room (Nat.le_of_ble_eq_true rfl)) dX12_letter_69 ⟨Nat.le_of_ble_eq_true rfl, Nat.le_of_ble_eq_true rfl⟩) (fun r16 hr16 => ?_)
          rcases hr16 with ⟨rfl, fr16⟩ | ⟨rfl, fr16⟩
          · skip
            refine lv_if_eq (tgt := 89) hx hb dX12_letter_72 (by decide) (fun c17 => ?_) (fun c17 => ?_)
            · exact absurd c17 (by decide)
            · skip
              refine lv_aload_n hx hb dX12_letter_75 rfl (lv_at hl 1 rfl) ?_
              refine gM_12_31 hx hb ht hown hK hP m_1170 dX12_letter_76 ?_
              refine lv_bipush (v := 8) hx hb dX12_letter_79 (by decide) ?_
              refine lv_iload_n hx hb dX12_letter_81 rfl (lv_at hl 0 rfl) ?_
              refine lv_imul hx hb dX12_letter_82 ?_
              refine lv_topi (fun v18 ev18 => ?_)
              have tv18 := z_mul ev18 (by decide : (8 : Int32).toInt = 8) (rfl : (v11).toInt = _) (by omega) (by omega)
              refine lv_iload_n hx hb dX12_letter_83 rfl (lv_at hl 3 rfl) ?_
              refine lv_iadd hx hb dX12_letter_84 ?_
              refine lv_topi (fun v19 ev19 => ?_)
              have tv19 := z_add ev19 (rfl : (v18).toInt = _) (rfl : (b).toInt = _) (by omega) (by omega)
              refine lM_12_31 hx hb hK hP (f := (fa 12 31)) rfl (vp_in_iff.mpr ⟨by omega, by omega⟩) dX12_letter_85 ?_
              refine lv_topi (fun v20 ev20 => ?_)
              refine lv_goto (tgt := 90) hx hb dX12_letter_86 (by decide) ?_
              exact W.iret (v := v20) hx hb hr (fun t ht9 hW => ⟨v20, rfl, trivial, ht9⟩) (fun q hq => by cases hq) dX12_letter_90
          · skip
            refine lv_if_eq (tgt := 89) hx hb dX12_letter_72 (by decide) (fun c21 => ?_) (fun c21 => ?_)
            · skip
              refine lv_iconst (v := (-1)) hx hb dX12_letter_89 (by decide) ?_
              exact W.iret (v := (-1)) hx hb hr (fun t ht9 hW => ⟨(-1), rfl, trivial, ht9⟩) (fun q hq => by cases hq) dX12_letter_90
            · exact absurd rfl c21
      · have fc7 := z_nlt (rfl : (v4).toInt = _) (rfl : (v6).toInt = _) c7
        refine lv_ldc hx hb hown (ht _ m_1389) dX12_letter_31 ?_
        exact W.iret (v := (-100001)) hx hb hr (fun t ht9 hW => ⟨(-100001), rfl, trivial, ht9⟩) (fun q hq => by cases hq) dX12_letter_33
set_option maxHeartbeats 4000000 in
set_option maxRecDepth 100000 in
/-- X12_only -/
theorem c_X12_only (l : Launch) (dC : Nat → ClassId) (dI : Nat → Nat → Nat) (sz : Nat) (h : Nat) (g : Nat → Nat → Nat) (ca : Nat → Nat → ClassId) (iv : Nat → Nat → Int32) (lv : Nat → Nat → Int64) (fa : Nat → Nat → Nat → Int32) (la : Nat → Nat → Nat → Int64) (hI : IX iv fa) (a : Int32) (h_a : 0 ≤ a.toInt ∧ a.toInt ≤ 2) : Met l yX12_only (wc yX12_only cX12_only 2 none) ({ frames := 0, cells := 0, slots := 0, locals := 0 } : Room) (pW (dC, dI) classes (WM h g ca iv lv fa la) (TM ca) sz [.ref h, .int a]) (va_Qv (fun (u : SS) => ∃ (nl_12_44 : Int64) (nl_12_45 : Int64), u = (iv, (u2 (u2 lv 12 44 nl_12_44) 12 45 nl_12_45), fa, la)) (bM (dC, dI) h g ca (va_A (WM h g ca iv lv fa la) sz)) (va_A (WM h g ca iv lv fa la) sz)) 0 0 (va_A (WM h g ca iv lv fa la) sz) := by
  refine Met.ofW (cc := cX12_only) (maxL := 2) (ret := none) (by decide) rfl ?_
  intro p e s m args below meth c s₁ B hml hv
  obtain ⟨rfl, hsz, hP, hK, hD0⟩ := hv
  have hx := B.exec
  have hb := B.bytes
  have hr := B.returns
  have ht := tb_tl (atoms_spec (ws := wc yX12_only cX12_only 2 none) B.pre)
  have hown : s.vm.findClass RX12 = some m.cls := findClass_of_methodNamed B.named
  have hlocks := B.notSynchronized
  subst hsz
  have hD := hD0.self (sz := s.heap.size)
  generalize hAe : va_A (WM h g ca iv lv fa la) s.heap.size = A at hD ⊢
  have hA : ∀ q : Nat, s.heap.size ≤ q → A q := fun q h => by rw [← hAe]; exact Or.inr h
  have hS : va_S A s.heap s.heap [] := va_S.rf
  have hl := lv_entry [.ref h, .int a] (n := 2) (Nat.le_of_ble_eq_true rfl)
  rw [lg_entry_eq]
  generalize (lg_sl [.ref h, .int a] ++ List.replicate (2 - (lg_sl [.ref h, .int a]).length) Slot.unset).toArray = ls at hl ⊢
  have hl : lv_has ls 2 [(0, .ref h), (1, .int a)] := hl
  refine lv_aload_n hx hb dX12_only_0 rfl (lv_at hl 0 rfl) ?_
  refine lv_aload_n hx hb dX12_only_1 rfl (lv_at hl 0 rfl) ?_
  refine gM_12_42 hx hb ht hown hK hP m_1181 dX12_only_2 ?_
  refine lv_iload_n hx hb dX12_only_5 rfl (lv_at hl 1 rfl) ?_
  refine lM_12_42 hx hb hK hP (f := (la 12 42)) rfl (vp_in_iff.mpr ⟨by omega, by omega⟩) dX12_only_6 ?_
  refine lv_topl (fun w1 ew1 => ?_)
  refine pM_12_44 (v := w1) hx hb ht hown hK hP hD hS m_1183 dX12_only_7 (fun H locs hP hD hS => ?_)
  refine lv_aload_n hx hb dX12_only_10 rfl (lv_at hl 0 rfl) ?_
  refine lv_aload_n hx hb dX12_only_11 rfl (lv_at hl 0 rfl) ?_
  refine gM_12_43 hx hb ht hown hK hP m_1182 dX12_only_12 ?_
  refine lv_iload_n hx hb dX12_only_15 rfl (lv_at hl 1 rfl) ?_
  refine lM_12_43 hx hb hK hP (f := (la 12 43)) rfl (vp_in_iff.mpr ⟨by omega, by omega⟩) dX12_only_16 ?_
  refine lv_topl (fun w2 ew2 => ?_)
  refine pM_12_45 (v := w2) hx hb ht hown hK hP hD hS m_1184 dX12_only_17 (fun H locs hP hD hS => ?_)
  have hP9 : va_P (dC, dI) classes (WM h g ca iv (u2 (u2 lv 12 44 w1) 12 45 w2) fa la) H := hP
  have hD9 : va_D A (WM h g ca iv (u2 (u2 lv 12 44 w1) 12 45 w2) fa la) := hD
  exact W.vret hx hb hr (fun t ht9 hW => ⟨⟨(iv, (u2 (u2 lv 12 44 w1) 12 45 w2), fa, la), rfl, ⟨w1, w2, rfl⟩, by rw [ht9]; exact hP9, hD9⟩, hS.F ht9⟩) hS.2.2 dX12_only_20
set_option maxHeartbeats 4000000 in
set_option maxRecDepth 100000 in
/-- X12_isLess -/
theorem c_X12_isLess (l : Launch) (dC : Nat → ClassId) (dI : Nat → Nat → Nat) (h : Nat) (g : Nat → Nat → Nat) (ca : Nat → Nat → ClassId) (iv : Nat → Nat → Int32) (lv : Nat → Nat → Int64) (fa : Nat → Nat → Nat → Int32) (la : Nat → Nat → Nat → Int64) (hI : IX iv fa) (a : Int32) (b : Int32) (h_a : 0 ≤ a.toInt ∧ a.toInt ≤ 2) (h_b : 0 ≤ b.toInt ∧ b.toInt ≤ 2) : Met l yX12_isLess (wc yX12_isLess cX12_isLess 3 (some .boolean)) ({ frames := 0, cells := 0, slots := 0, locals := 0 } : Room) (pR (dC, dI) classes (WM h g ca iv lv fa la) (TM ca) [.ref h, .int a, .int b]) (vp_Si (fun r => 0 ≤ r.toInt ∧ r.toInt ≤ 1)) 0 0 (fun _ => False) := by
  refine Met.ofW (cc := cX12_isLess) (maxL := 3) (ret := (some .boolean)) (by decide) rfl ?_
  intro p e s m args below meth c s₁ B hml hv
  obtain ⟨rfl, hP, hK⟩ := hv
  have hx := B.exec
  have hb := B.bytes
  have hr := B.returns
  have ht := tb_tl (atoms_spec (ws := wc yX12_isLess cX12_isLess 3 (some .boolean)) B.pre)
  have hown : s.vm.findClass RX12 = some m.cls := findClass_of_methodNamed B.named
  have hlocks := B.notSynchronized
  have hl := lv_entry [.ref h, .int a, .int b] (n := 3) (Nat.le_of_ble_eq_true rfl)
  rw [lg_entry_eq]
  generalize (lg_sl [.ref h, .int a, .int b] ++ List.replicate (3 - (lg_sl [.ref h, .int a, .int b]).length) Slot.unset).toArray = ls at hl ⊢
  have hl : lv_has ls 3 [(0, .ref h), (1, .int a), (2, .int b)] := hl
  refine lv_aload_n hx hb dX12_isLess_0 rfl (lv_at hl 0 rfl) ?_
  refine gM_12_42 hx hb ht hown hK hP m_1181 dX12_isLess_1 ?_
  refine lv_iload_n hx hb dX12_isLess_4 rfl (lv_at hl 1 rfl) ?_
  refine lM_12_42 hx hb hK hP (f := (la 12 42)) rfl (vp_in_iff.mpr ⟨by omega, by omega⟩) dX12_isLess_5 ?_
  refine lv_topl (fun w1 ew1 => ?_)
  refine lv_aload_n hx hb dX12_isLess_6 rfl (lv_at hl 0 rfl) ?_
  refine gM_12_43 hx hb ht hown hK hP m_1182 dX12_isLess_7 ?_
  refine lv_iload_n hx hb dX12_isLess_10 rfl (lv_at hl 2 rfl) ?_
  refine lM_12_43 hx hb hK hP (f := (la 12 43)) rfl (vp_in_iff.mpr ⟨by omega, by omega⟩) dX12_isLess_11 ?_
  refine lv_topl (fun w2 ew2 => ?_)
  refine lv_lmul hx hb dX12_isLess_12 ?_
  refine lv_topl (fun w3 ew3 => ?_)
  refine lv_aload_n hx hb dX12_isLess_13 rfl (lv_at hl 0 rfl) ?_
  refine gM_12_42 hx hb ht hown hK hP m_1181 dX12_isLess_14 ?_
  refine lv_iload_n hx hb dX12_isLess_17 rfl (lv_at hl 2 rfl) ?_
  refine lM_12_42 hx hb hK hP (f := (la 12 42)) rfl (vp_in_iff.mpr ⟨by omega, by omega⟩) dX12_isLess_18 ?_
  refine lv_topl (fun w4 ew4 => ?_)
  refine lv_aload_n hx hb dX12_isLess_19 rfl (lv_at hl 0 rfl) ?_
  refine gM_12_43 hx hb ht hown hK hP m_1182 dX12_isLess_20 ?_
  refine lv_iload_n hx hb dX12_isLess_23 rfl (lv_at hl 1 rfl) ?_
  refine lM_12_43 hx hb hK hP (f := (la 12 43)) rfl (vp_in_iff.mpr ⟨by omega, by omega⟩) dX12_isLess_24 ?_
  refine lv_topl (fun w5 ew5 => ?_)
  refine lv_lmul hx hb dX12_isLess_25 ?_
  refine lv_topl (fun w6 ew6 => ?_)
  refine W.lcmp hx hb dX12_isLess_26 ?_
  refine lv_topi (fun v7 ev7 => ?_)
  refine lv_if_ge (tgt := 34) hx hb dX12_isLess_27 (by decide) (fun c8 => ?_) (fun c8 => ?_)
  · have fc8 := zc_nlt ev7 (rfl : (w3).toInt = _) (rfl : (w6).toInt = _) (Int32.not_lt.mpr c8)
    refine lv_iconst (v := 0) hx hb dX12_isLess_34 (by decide) ?_
    exact W.zret (v := 0) hx hb hr rfl (fun t ht9 hW => ⟨0, rfl, ⟨by decide, by decide⟩, ht9⟩) (fun q hq => by cases hq) dX12_isLess_35
  · have fc8 := zc_lt ev7 (rfl : (w3).toInt = _) (rfl : (w6).toInt = _) (Int32.not_le.mp c8)
    refine lv_iconst (v := 1) hx hb dX12_isLess_30 (by decide) ?_
    refine lv_goto (tgt := 35) hx hb dX12_isLess_31 (by decide) ?_
    exact W.zret (v := 1) hx hb hr rfl (fun t ht9 hW => ⟨1, rfl, ⟨by decide, by decide⟩, ht9⟩) (fun q hq => by cases hq) dX12_isLess_35
