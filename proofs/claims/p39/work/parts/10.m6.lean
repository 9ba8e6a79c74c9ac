/-! ===== m6 ===== -/
set_option maxRecDepth 100000 in
theorem m_72 : Cond.selects RX12 yX12_add yX12_add ∈ tb := tb_in 72 (by decide +kernel) rfl
set_option maxRecDepth 100000 in
theorem m_73 : Cond.selects RX12 yX12_noPaper yX12_noPaper ∈ tb := tb_in 73 (by decide +kernel) rfl
set_option maxRecDepth 100000 in
theorem m_74 : Cond.selects RX12 yX12_stands yX12_stands ∈ tb := tb_in 74 (by decide +kernel) rfl
theorem m_1201 : Cond.fieldLink RX12 417 "SilkHouseModel" "shared" "I" ∈ tb := mb_5_6 _ (List.mem_of_getElem? (i := 18) rfl)
theorem m_1202 : Cond.fieldLink RX12 133 "SilkHouseModel" "apartLow" "[I" ∈ tb := mb_5_6 _ (List.mem_of_getElem? (i := 19) rfl)
theorem m_1203 : Cond.fieldLink RX12 136 "SilkHouseModel" "apartHigh" "[I" ∈ tb := mb_5_6 _ (List.mem_of_getElem? (i := 20) rfl)
theorem m_1204 : Cond.fieldLink RX12 420 "SilkHouseModel" "spanLow" "I" ∈ tb := mb_5_6 _ (List.mem_of_getElem? (i := 21) rfl)
theorem m_1205 : Cond.fieldLink RX12 423 "SilkHouseModel" "spanHigh" "I" ∈ tb := mb_5_6 _ (List.mem_of_getElem? (i := 22) rfl)
theorem m_1207 : Cond.fieldLink RX12 139 "SilkHouseModel" "paperKind" "[I" ∈ tb := mb_5_7 _ (List.mem_of_getElem? (i := 0) rfl)
theorem m_1208 : Cond.fieldLink RX12 142 "SilkHouseModel" "paperBale" "[I" ∈ tb := mb_5_7 _ (List.mem_of_getElem? (i := 1) rfl)
theorem m_1209 : Cond.fieldLink RX12 145 "SilkHouseModel" "paperWorth" "[J" ∈ tb := mb_5_7 _ (List.mem_of_getElem? (i := 2) rfl)
theorem m_1210 : Cond.fieldLink RX12 148 "SilkHouseModel" "hangsOn" "[I" ∈ tb := mb_5_7 _ (List.mem_of_getElem? (i := 3) rfl)
theorem m_1211 : Cond.fieldLink RX12 151 "SilkHouseModel" "paperDay" "[I" ∈ tb := mb_5_7 _ (List.mem_of_getElem? (i := 4) rfl)
theorem m_1212 : Cond.fieldLink RX12 154 "SilkHouseModel" "undoneOn" "[I" ∈ tb := mb_5_7 _ (List.mem_of_getElem? (i := 5) rfl)
theorem m_1213 : Cond.fieldLink RX12 157 "SilkHouseModel" "feeOf" "[I" ∈ tb := mb_5_7 _ (List.mem_of_getElem? (i := 6) rfl)
theorem m_1676 : Cond.methodLink RX12 432 yX12_add ∈ tb := mb_7_6 _ (List.mem_of_getElem? (i := 1) rfl)
theorem m_1678 : Cond.instanceMethod yX12_add ∈ tb := mb_7_6 _ (List.mem_of_getElem? (i := 2) rfl)
theorem m_1679 : Cond.code yX12_add cX12_add 7 none ∈ tb := mb_7_6 _ (List.mem_of_getElem? (i := 3) rfl)
theorem m_1684 : Cond.methodLink RX12 436 yX12_noPaper ∈ tb := mb_7_6 _ (List.mem_of_getElem? (i := 8) rfl)
theorem m_1686 : Cond.instanceMethod yX12_noPaper ∈ tb := mb_7_6 _ (List.mem_of_getElem? (i := 9) rfl)
theorem m_1687 : Cond.code yX12_noPaper cX12_noPaper 2 (some .boolean) ∈ tb := mb_7_6 _ (List.mem_of_getElem? (i := 10) rfl)
theorem m_1688 : Cond.methodLink RX12 439 yX12_stands ∈ tb := mb_7_6 _ (List.mem_of_getElem? (i := 11) rfl)
theorem m_1690 : Cond.instanceMethod yX12_stands ∈ tb := mb_7_6 _ (List.mem_of_getElem? (i := 12) rfl)
theorem m_1691 : Cond.code yX12_stands cX12_stands 2 (some .boolean) ∈ tb := mb_7_6 _ (List.mem_of_getElem? (i := 13) rfl)
theorem hd_X12_add_v : yX12_add.cls = RX12 ∧ yX12_add.cls ≠ "java/lang/invoke/MethodHandle" ∧ yX12_add.cls ≠ "java/lang/invoke/VarHandle" ∧ (parseMethodDescriptor yX12_add.desc).map (fun d => d.parameters.length) = some 5 := by decide +kernel
theorem hd_X12_noPaper_v : yX12_noPaper.cls = RX12 ∧ yX12_noPaper.cls ≠ "java/lang/invoke/MethodHandle" ∧ yX12_noPaper.cls ≠ "java/lang/invoke/VarHandle" ∧ (parseMethodDescriptor yX12_noPaper.desc).map (fun d => d.parameters.length) = some 1 := by decide +kernel
theorem hd_X12_stands_v : yX12_stands.cls = RX12 ∧ yX12_stands.cls ≠ "java/lang/invoke/MethodHandle" ∧ yX12_stands.cls ≠ "java/lang/invoke/VarHandle" ∧ (parseMethodDescriptor yX12_stands.desc).map (fun d => d.parameters.length) = some 1 := by decide +kernel
set_option maxRecDepth 100000 in
theorem dvX12_add_0 : ([(0, .aload_n 0, 1), (1, .getfield 139, 3), (4, .aload_n 0, 1), (5, .getfield 429, 3), (8, .iload_n 1, 1), (9, .iastore, 1), (10, .aload_n 0, 1), (11, .getfield 142, 3), (14, .aload_n 0, 1), (15, .getfield 429, 3), (18, .iload_n 2, 1), (19, .iastore, 1), (20, .aload_n 0, 1), (21, .getfield 145, 3), (24, .aload_n 0, 1), (25, .getfield 429, 3), (28, .lload_n 3, 1), (29, .lastore, 1), (30, .aload_n 0, 1), (31, .getfield 148, 3), (34, .aload_n 0, 1), (35, .getfield 429, 3), (38, .iload 5, 2), (40, .iastore, 1)] : List (Nat × Instr × Nat)).all (fun q => decide (decode cX12_add q.1 = .ok (q.2.1, q.2.2))) = true := by decide +kernel
theorem dX12_add_0 : decode cX12_add 0 = .ok (.aload_n 0, 1) := all_at dvX12_add_0 0 rfl
theorem dX12_add_1 : decode cX12_add 1 = .ok (.getfield 139, 3) := all_at dvX12_add_0 1 rfl
theorem dX12_add_4 : decode cX12_add 4 = .ok (.aload_n 0, 1) := all_at dvX12_add_0 2 rfl
theorem dX12_add_5 : decode cX12_add 5 = .ok (.getfield 429, 3) := all_at dvX12_add_0 3 rfl
theorem dX12_add_8 : decode cX12_add 8 = .ok (.iload_n 1, 1) := all_at dvX12_add_0 4 rfl
theorem dX12_add_9 : decode cX12_add 9 = .ok (.iastore, 1) := all_at dvX12_add_0 5 rfl
theorem dX12_add_10 : decode cX12_add 10 = .ok (.aload_n 0, 1) := all_at dvX12_add_0 6 rfl
theorem dX12_add_11 : decode cX12_add 11 = .ok (.getfield 142, 3) := all_at dvX12_add_0 7 rfl
theorem dX12_add_14 : decode cX12_add 14 = .ok (.aload_n 0, 1) := all_at dvX12_add_0 8 rfl
theorem dX12_add_15 : decode cX12_add 15 = .ok (.getfield 429, 3) := all_at dvX12_add_0 9 rfl
theorem dX12_add_18 : decode cX12_add 18 = .ok (.iload_n 2, 1) := all_at dvX12_add_0 10 rfl
theorem dX12_add_19 : decode cX12_add 19 = .ok (.iastore, 1) := all_at dvX12_add_0 11 rfl
theorem dX12_add_20 : decode cX12_add 20 = .ok (.aload_n 0, 1) := all_at dvX12_add_0 12 rfl
theorem dX12_add_21 : decode cX12_add 21 = .ok (.getfield 145, 3) := all_at dvX12_add_0 13 rfl
theorem dX12_add_24 : decode cX12_add 24 = .ok (.aload_n 0, 1) := all_at dvX12_add_0 14 rfl
theorem dX12_add_25 : decode cX12_add 25 = .ok (.getfield 429, 3) := all_at dvX12_add_0 15 rfl
theorem dX12_add_28 : decode cX12_add 28 = .ok (.lload_n 3, 1) := all_at dvX12_add_0 16 rfl
theorem dX12_add_29 : decode cX12_add 29 = .ok (.lastore, 1) := all_at dvX12_add_0 17 rfl
theorem dX12_add_30 : decode cX12_add 30 = .ok (.aload_n 0, 1) := all_at dvX12_add_0 18 rfl
theorem dX12_add_31 : decode cX12_add 31 = .ok (.getfield 148, 3) := all_at dvX12_add_0 19 rfl
theorem dX12_add_34 : decode cX12_add 34 = .ok (.aload_n 0, 1) := all_at dvX12_add_0 20 rfl
theorem dX12_add_35 : decode cX12_add 35 = .ok (.getfield 429, 3) := all_at dvX12_add_0 21 rfl
theorem dX12_add_38 : decode cX12_add 38 = .ok (.iload 5, 2) := all_at dvX12_add_0 22 rfl
theorem dX12_add_40 : decode cX12_add 40 = .ok (.iastore, 1) := all_at dvX12_add_0 23 rfl
set_option maxRecDepth 100000 in
theorem dvX12_add_41 : ([(41, .aload_n 0, 1), (42, .getfield 151, 3), (45, .aload_n 0, 1), (46, .getfield 429, 3), (49, .aload_n 0, 1), (50, .getfield 171, 3), (53, .iastore, 1), (54, .aload_n 0, 1), (55, .getfield 154, 3), (58, .aload_n 0, 1), (59, .getfield 429, 3), (62, .iconst (-1), 1), (63, .iastore, 1), (64, .aload_n 0, 1), (65, .getfield 157, 3), (68, .aload_n 0, 1), (69, .getfield 429, 3), (72, .iload 6, 2), (74, .iastore, 1), (75, .aload_n 0, 1), (76, .dup, 1), (77, .getfield 429, 3), (80, .iconst 1, 1), (81, .iadd, 1)] : List (Nat × Instr × Nat)).all (fun q => decide (decode cX12_add q.1 = .ok (q.2.1, q.2.2))) = true := by decide +kernel
theorem dX12_add_41 : decode cX12_add 41 = .ok (.aload_n 0, 1) := all_at dvX12_add_41 0 rfl
theorem dX12_add_42 : decode cX12_add 42 = .ok (.getfield 151, 3) := all_at dvX12_add_41 1 rfl
theorem dX12_add_45 : decode cX12_add 45 = .ok (.aload_n 0, 1) := all_at dvX12_add_41 2 rfl
theorem dX12_add_46 : decode cX12_add 46 = .ok (.getfield 429, 3) := all_at dvX12_add_41 3 rfl
theorem dX12_add_49 : decode cX12_add 49 = .ok (.aload_n 0, 1) := all_at dvX12_add_41 4 rfl
theorem dX12_add_50 : decode cX12_add 50 = .ok (.getfield 171, 3) := all_at dvX12_add_41 5 rfl
theorem dX12_add_53 : decode cX12_add 53 = .ok (.iastore, 1) := all_at dvX12_add_41 6 rfl
theorem dX12_add_54 : decode cX12_add 54 = .ok (.aload_n 0, 1) := all_at dvX12_add_41 7 rfl
theorem dX12_add_55 : decode cX12_add 55 = .ok (.getfield 154, 3) := all_at dvX12_add_41 8 rfl
theorem dX12_add_58 : decode cX12_add 58 = .ok (.aload_n 0, 1) := all_at dvX12_add_41 9 rfl
theorem dX12_add_59 : decode cX12_add 59 = .ok (.getfield 429, 3) := all_at dvX12_add_41 10 rfl
theorem dX12_add_62 : decode cX12_add 62 = .ok (.iconst (-1), 1) := all_at dvX12_add_41 11 rfl
theorem dX12_add_63 : decode cX12_add 63 = .ok (.iastore, 1) := all_at dvX12_add_41 12 rfl
theorem dX12_add_64 : decode cX12_add 64 = .ok (.aload_n 0, 1) := all_at dvX12_add_41 13 rfl
theorem dX12_add_65 : decode cX12_add 65 = .ok (.getfield 157, 3) := all_at dvX12_add_41 14 rfl
theorem dX12_add_68 : decode cX12_add 68 = .ok (.aload_n 0, 1) := all_at dvX12_add_41 15 rfl
theorem dX12_add_69 : decode cX12_add 69 = .ok (.getfield 429, 3) := all_at dvX12_add_41 16 rfl
theorem dX12_add_72 : decode cX12_add 72 = .ok (.iload 6, 2) := all_at dvX12_add_41 17 rfl
theorem dX12_add_74 : decode cX12_add 74 = .ok (.iastore, 1) := all_at dvX12_add_41 18 rfl
theorem dX12_add_75 : decode cX12_add 75 = .ok (.aload_n 0, 1) := all_at dvX12_add_41 19 rfl
theorem dX12_add_76 : decode cX12_add 76 = .ok (.dup, 1) := all_at dvX12_add_41 20 rfl
theorem dX12_add_77 : decode cX12_add 77 = .ok (.getfield 429, 3) := all_at dvX12_add_41 21 rfl
theorem dX12_add_80 : decode cX12_add 80 = .ok (.iconst 1, 1) := all_at dvX12_add_41 22 rfl
theorem dX12_add_81 : decode cX12_add 81 = .ok (.iadd, 1) := all_at dvX12_add_41 23 rfl
theorem dX12_add_82 : decode cX12_add 82 = .ok (.putfield 429, 3) := by decide +kernel
theorem dX12_add_85 : decode cX12_add 85 = .ok (.return_, 1) := by decide +kernel
set_option maxRecDepth 100000 in
theorem dvX12_bill_0 : ([(0, .aload_n 0, 1), (1, .iload_n 1, 1), (2, .invokevirtual 436, 3), (5, .ifCond .eq 6, 3), (8, .ldc 187, 2), (10, .ireturn, 1), (11, .iload_n 2, 1), (12, .i2l, 1), (13, .lconst 0, 1), (14, .ldc2_w 176, 3), (17, .invokestatic 167, 3), (20, .ifCond .ne 6, 3), (23, .ldc 178, 2), (25, .ireturn, 1), (26, .aload_n 0, 1), (27, .iload_n 1, 1), (28, .invokevirtual 439, 3), (31, .ifCond .ne 6, 3), (34, .ldc 179, 2), (36, .ireturn, 1), (37, .aload_n 0, 1), (38, .getfield 429, 3), (41, .bipush 40, 2), (43, .if_icmp .ne 6, 3)] : List (Nat × Instr × Nat)).all (fun q => decide (decode cX12_bill q.1 = .ok (q.2.1, q.2.2))) = true := by decide +kernel
theorem dX12_bill_0 : decode cX12_bill 0 = .ok (.aload_n 0, 1) := all_at dvX12_bill_0 0 rfl
theorem dX12_bill_1 : decode cX12_bill 1 = .ok (.iload_n 1, 1) := all_at dvX12_bill_0 1 rfl
theorem dX12_bill_2 : decode cX12_bill 2 = .ok (.invokevirtual 436, 3) := all_at dvX12_bill_0 2 rfl
theorem dX12_bill_5 : decode cX12_bill 5 = .ok (.ifCond .eq 6, 3) := all_at dvX12_bill_0 3 rfl
theorem dX12_bill_8 : decode cX12_bill 8 = .ok (.ldc 187, 2) := all_at dvX12_bill_0 4 rfl
theorem dX12_bill_10 : decode cX12_bill 10 = .ok (.ireturn, 1) := all_at dvX12_bill_0 5 rfl
theorem dX12_bill_11 : decode cX12_bill 11 = .ok (.iload_n 2, 1) := all_at dvX12_bill_0 6 rfl
theorem dX12_bill_12 : decode cX12_bill 12 = .ok (.i2l, 1) := all_at dvX12_bill_0 7 rfl
theorem dX12_bill_13 : decode cX12_bill 13 = .ok (.lconst 0, 1) := all_at dvX12_bill_0 8 rfl
theorem dX12_bill_14 : decode cX12_bill 14 = .ok (.ldc2_w 176, 3) := all_at dvX12_bill_0 9 rfl
theorem dX12_bill_17 : decode cX12_bill 17 = .ok (.invokestatic 167, 3) := all_at dvX12_bill_0 10 rfl
theorem dX12_bill_20 : decode cX12_bill 20 = .ok (.ifCond .ne 6, 3) := all_at dvX12_bill_0 11 rfl
theorem dX12_bill_23 : decode cX12_bill 23 = .ok (.ldc 178, 2) := all_at dvX12_bill_0 12 rfl
theorem dX12_bill_25 : decode cX12_bill 25 = .ok (.ireturn, 1) := all_at dvX12_bill_0 13 rfl
theorem dX12_bill_26 : decode cX12_bill 26 = .ok (.aload_n 0, 1) := all_at dvX12_bill_0 14 rfl
theorem dX12_bill_27 : decode cX12_bill 27 = .ok (.iload_n 1, 1) := all_at dvX12_bill_0 15 rfl
theorem dX12_bill_28 : decode cX12_bill 28 = .ok (.invokevirtual 439, 3) := all_at dvX12_bill_0 16 rfl
theorem dX12_bill_31 : decode cX12_bill 31 = .ok (.ifCond .ne 6, 3) := all_at dvX12_bill_0 17 rfl
theorem dX12_bill_34 : decode cX12_bill 34 = .ok (.ldc 179, 2) := all_at dvX12_bill_0 18 rfl
theorem dX12_bill_36 : decode cX12_bill 36 = .ok (.ireturn, 1) := all_at dvX12_bill_0 19 rfl
theorem dX12_bill_37 : decode cX12_bill 37 = .ok (.aload_n 0, 1) := all_at dvX12_bill_0 20 rfl
theorem dX12_bill_38 : decode cX12_bill 38 = .ok (.getfield 429, 3) := all_at dvX12_bill_0 21 rfl
theorem dX12_bill_41 : decode cX12_bill 41 = .ok (.bipush 40, 2) := all_at dvX12_bill_0 22 rfl
theorem dX12_bill_43 : decode cX12_bill 43 = .ok (.if_icmp .ne 6, 3) := all_at dvX12_bill_0 23 rfl
set_option maxRecDepth 100000 in
theorem dvX12_bill_46 : ([(46, .ldc 182, 2), (48, .ireturn, 1), (49, .aload_n 0, 1), (50, .iconst 1, 1), (51, .aload_n 0, 1), (52, .getfield 142, 3), (55, .iload_n 1, 1), (56, .iaload, 1), (57, .aload_n 0, 1), (58, .getfield 145, 3), (61, .iload_n 1, 1), (62, .laload, 1), (63, .iload_n 2, 1), (64, .i2l, 1), (65, .lmul, 1), (66, .iload_n 1, 1), (67, .iconst 0, 1), (68, .invokevirtual 432, 3), (71, .aload_n 0, 1), (72, .getfield 429, 3), (75, .iconst 1, 1), (76, .isub, 1), (77, .ireturn, 1)] : List (Nat × Instr × Nat)).all (fun q => decide (decode cX12_bill q.1 = .ok (q.2.1, q.2.2))) = true := by decide +kernel
theorem dX12_bill_46 : decode cX12_bill 46 = .ok (.ldc 182, 2) := all_at dvX12_bill_46 0 rfl
theorem dX12_bill_48 : decode cX12_bill 48 = .ok (.ireturn, 1) := all_at dvX12_bill_46 1 rfl
theorem dX12_bill_49 : decode cX12_bill 49 = .ok (.aload_n 0, 1) := all_at dvX12_bill_46 2 rfl
theorem dX12_bill_50 : decode cX12_bill 50 = .ok (.iconst 1, 1) := all_at dvX12_bill_46 3 rfl
theorem dX12_bill_51 : decode cX12_bill 51 = .ok (.aload_n 0, 1) := all_at dvX12_bill_46 4 rfl
theorem dX12_bill_52 : decode cX12_bill 52 = .ok (.getfield 142, 3) := all_at dvX12_bill_46 5 rfl
theorem dX12_bill_55 : decode cX12_bill 55 = .ok (.iload_n 1, 1) := all_at dvX12_bill_46 6 rfl
theorem dX12_bill_56 : decode cX12_bill 56 = .ok (.iaload, 1) := all_at dvX12_bill_46 7 rfl
theorem dX12_bill_57 : decode cX12_bill 57 = .ok (.aload_n 0, 1) := all_at dvX12_bill_46 8 rfl
theorem dX12_bill_58 : decode cX12_bill 58 = .ok (.getfield 145, 3) := all_at dvX12_bill_46 9 rfl
theorem dX12_bill_61 : decode cX12_bill 61 = .ok (.iload_n 1, 1) := all_at dvX12_bill_46 10 rfl
theorem dX12_bill_62 : decode cX12_bill 62 = .ok (.laload, 1) := all_at dvX12_bill_46 11 rfl
theorem dX12_bill_63 : decode cX12_bill 63 = .ok (.iload_n 2, 1) := all_at dvX12_bill_46 12 rfl
theorem dX12_bill_64 : decode cX12_bill 64 = .ok (.i2l, 1) := all_at dvX12_bill_46 13 rfl
theorem dX12_bill_65 : decode cX12_bill 65 = .ok (.lmul, 1) := all_at dvX12_bill_46 14 rfl
theorem dX12_bill_66 : decode cX12_bill 66 = .ok (.iload_n 1, 1) := all_at dvX12_bill_46 15 rfl
theorem dX12_bill_67 : decode cX12_bill 67 = .ok (.iconst 0, 1) := all_at dvX12_bill_46 16 rfl
theorem dX12_bill_68 : decode cX12_bill 68 = .ok (.invokevirtual 432, 3) := all_at dvX12_bill_46 17 rfl
theorem dX12_bill_71 : decode cX12_bill 71 = .ok (.aload_n 0, 1) := all_at dvX12_bill_46 18 rfl
theorem dX12_bill_72 : decode cX12_bill 72 = .ok (.getfield 429, 3) := all_at dvX12_bill_46 19 rfl
theorem dX12_bill_75 : decode cX12_bill 75 = .ok (.iconst 1, 1) := all_at dvX12_bill_46 20 rfl
theorem dX12_bill_76 : decode cX12_bill 76 = .ok (.isub, 1) := all_at dvX12_bill_46 21 rfl
theorem dX12_bill_77 : decode cX12_bill 77 = .ok (.ireturn, 1) := all_at dvX12_bill_46 22 rfl
set_option maxRecDepth 100000 in
theorem dvX12_findSpan_0 : ([(0, .aload_n 0, 1), (1, .sipush (-20000), 3), (4, .putfield 420, 3), (7, .aload_n 0, 1), (8, .sipush 20000, 3), (11, .putfield 423, 3), (14, .iconst 0, 1), (15, .istore_n 2, 1), (16, .iload_n 2, 1), (17, .aload_n 0, 1), (18, .getfield 417, 3), (21, .if_icmp .ge 77, 3), (24, .iload_n 1, 1), (25, .iload_n 2, 1), (26, .ishr, 1), (27, .iconst 1, 1), (28, .iand, 1), (29, .ifCond .ne 63, 3), (32, .aload_n 0, 1), (33, .aload_n 0, 1), (34, .getfield 133, 3), (37, .iload_n 2, 1), (38, .iaload, 1), (39, .aload_n 0, 1)] : List (Nat × Instr × Nat)).all (fun q => decide (decode cX12_findSpan q.1 = .ok (q.2.1, q.2.2))) = true := by decide +kernel
theorem dX12_findSpan_0 : decode cX12_findSpan 0 = .ok (.aload_n 0, 1) := all_at dvX12_findSpan_0 0 rfl
theorem dX12_findSpan_1 : decode cX12_findSpan 1 = .ok (.sipush (-20000), 3) := all_at dvX12_findSpan_0 1 rfl
theorem dX12_findSpan_4 : decode cX12_findSpan 4 = .ok (.putfield 420, 3) := all_at dvX12_findSpan_0 2 rfl
theorem dX12_findSpan_7 : decode cX12_findSpan 7 = .ok (.aload_n 0, 1) := all_at dvX12_findSpan_0 3 rfl
theorem dX12_findSpan_8 : decode cX12_findSpan 8 = .ok (.sipush 20000, 3) := all_at dvX12_findSpan_0 4 rfl
theorem dX12_findSpan_11 : decode cX12_findSpan 11 = .ok (.putfield 423, 3) := all_at dvX12_findSpan_0 5 rfl
theorem dX12_findSpan_14 : decode cX12_findSpan 14 = .ok (.iconst 0, 1) := all_at dvX12_findSpan_0 6 rfl
theorem dX12_findSpan_15 : decode cX12_findSpan 15 = .ok (.istore_n 2, 1) := all_at dvX12_findSpan_0 7 rfl
theorem dX12_findSpan_16 : decode cX12_findSpan 16 = .ok (.iload_n 2, 1) := all_at dvX12_findSpan_0 8 rfl
theorem dX12_findSpan_17 : decode cX12_findSpan 17 = .ok (.aload_n 0, 1) := all_at dvX12_findSpan_0 9 rfl
theorem dX12_findSpan_18 : decode cX12_findSpan 18 = .ok (.getfield 417, 3) := all_at dvX12_findSpan_0 10 rfl
theorem dX12_findSpan_21 : decode cX12_findSpan 21 = .ok (.if_icmp .ge 77, 3) := all_at dvX12_findSpan_0 11 rfl
theorem dX12_findSpan_24 : decode cX12_findSpan 24 = .ok (.iload_n 1, 1) := all_at dvX12_findSpan_0 12 rfl
theorem dX12_findSpan_25 : decode cX12_findSpan 25 = .ok (.iload_n 2, 1) := all_at dvX12_findSpan_0 13 rfl
theorem dX12_findSpan_26 : decode cX12_findSpan 26 = .ok (.ishr, 1) := all_at dvX12_findSpan_0 14 rfl
theorem dX12_findSpan_27 : decode cX12_findSpan 27 = .ok (.iconst 1, 1) := all_at dvX12_findSpan_0 15 rfl
theorem dX12_findSpan_28 : decode cX12_findSpan 28 = .ok (.iand, 1) := all_at dvX12_findSpan_0 16 rfl
theorem dX12_findSpan_29 : decode cX12_findSpan 29 = .ok (.ifCond .ne 63, 3) := all_at dvX12_findSpan_0 17 rfl
theorem dX12_findSpan_32 : decode cX12_findSpan 32 = .ok (.aload_n 0, 1) := all_at dvX12_findSpan_0 18 rfl
theorem dX12_findSpan_33 : decode cX12_findSpan 33 = .ok (.aload_n 0, 1) := all_at dvX12_findSpan_0 19 rfl
theorem dX12_findSpan_34 : decode cX12_findSpan 34 = .ok (.getfield 133, 3) := all_at dvX12_findSpan_0 20 rfl
theorem dX12_findSpan_37 : decode cX12_findSpan 37 = .ok (.iload_n 2, 1) := all_at dvX12_findSpan_0 21 rfl
theorem dX12_findSpan_38 : decode cX12_findSpan 38 = .ok (.iaload, 1) := all_at dvX12_findSpan_0 22 rfl
theorem dX12_findSpan_39 : decode cX12_findSpan 39 = .ok (.aload_n 0, 1) := all_at dvX12_findSpan_0 23 rfl
set_option maxRecDepth 100000 in
theorem dvX12_findSpan_40 : ([(40, .getfield 420, 3), (43, .if_icmp .le 12, 3), (46, .aload_n 0, 1), (47, .getfield 133, 3), (50, .iload_n 2, 1), (51, .iaload, 1), (52, .goto 7, 3), (55, .aload_n 0, 1), (56, .getfield 420, 3), (59, .putfield 420, 3), (62, .aload_n 0, 1), (63, .aload_n 0, 1), (64, .getfield 136, 3), (67, .iload_n 2, 1), (68, .iaload, 1), (69, .aload_n 0, 1), (70, .getfield 423, 3), (73, .if_icmp .ge 12, 3), (76, .aload_n 0, 1), (77, .getfield 136, 3), (80, .iload_n 2, 1), (81, .iaload, 1), (82, .goto 7, 3), (85, .aload_n 0, 1)] : List (Nat × Instr × Nat)).all (fun q => decide (decode cX12_findSpan q.1 = .ok (q.2.1, q.2.2))) = true := by decide +kernel
theorem dX12_findSpan_40 : decode cX12_findSpan 40 = .ok (.getfield 420, 3) := all_at dvX12_findSpan_40 0 rfl
theorem dX12_findSpan_43 : decode cX12_findSpan 43 = .ok (.if_icmp .le 12, 3) := all_at dvX12_findSpan_40 1 rfl
theorem dX12_findSpan_46 : decode cX12_findSpan 46 = .ok (.aload_n 0, 1) := all_at dvX12_findSpan_40 2 rfl
theorem dX12_findSpan_47 : decode cX12_findSpan 47 = .ok (.getfield 133, 3) := all_at dvX12_findSpan_40 3 rfl
theorem dX12_findSpan_50 : decode cX12_findSpan 50 = .ok (.iload_n 2, 1) := all_at dvX12_findSpan_40 4 rfl
theorem dX12_findSpan_51 : decode cX12_findSpan 51 = .ok (.iaload, 1) := all_at dvX12_findSpan_40 5 rfl
theorem dX12_findSpan_52 : decode cX12_findSpan 52 = .ok (.goto 7, 3) := all_at dvX12_findSpan_40 6 rfl
theorem dX12_findSpan_55 : decode cX12_findSpan 55 = .ok (.aload_n 0, 1) := all_at dvX12_findSpan_40 7 rfl
theorem dX12_findSpan_56 : decode cX12_findSpan 56 = .ok (.getfield 420, 3) := all_at dvX12_findSpan_40 8 rfl
theorem dX12_findSpan_59 : decode cX12_findSpan 59 = .ok (.putfield 420, 3) := all_at dvX12_findSpan_40 9 rfl
theorem dX12_findSpan_62 : decode cX12_findSpan 62 = .ok (.aload_n 0, 1) := all_at dvX12_findSpan_40 10 rfl
theorem dX12_findSpan_63 : decode cX12_findSpan 63 = .ok (.aload_n 0, 1) := all_at dvX12_findSpan_40 11 rfl
theorem dX12_findSpan_64 : decode cX12_findSpan 64 = .ok (.getfield 136, 3) := all_at dvX12_findSpan_40 12 rfl
theorem dX12_findSpan_67 : decode cX12_findSpan 67 = .ok (.iload_n 2, 1) := all_at dvX12_findSpan_40 13 rfl
theorem dX12_findSpan_68 : decode cX12_findSpan 68 = .ok (.iaload, 1) := all_at dvX12_findSpan_40 14 rfl
theorem dX12_findSpan_69 : decode cX12_findSpan 69 = .ok (.aload_n 0, 1) := all_at dvX12_findSpan_40 15 rfl
theorem dX12_findSpan_70 : decode cX12_findSpan 70 = .ok (.getfield 423, 3) := all_at dvX12_findSpan_40 16 rfl
theorem dX12_findSpan_73 : decode cX12_findSpan 73 = .ok (.if_icmp .ge 12, 3) := all_at dvX12_findSpan_40 17 rfl
theorem dX12_findSpan_76 : decode cX12_findSpan 76 = .ok (.aload_n 0, 1) := all_at dvX12_findSpan_40 18 rfl
theorem dX12_findSpan_77 : decode cX12_findSpan 77 = .ok (.getfield 136, 3) := all_at dvX12_findSpan_40 19 rfl
theorem dX12_findSpan_80 : decode cX12_findSpan 80 = .ok (.iload_n 2, 1) := all_at dvX12_findSpan_40 20 rfl
theorem dX12_findSpan_81 : decode cX12_findSpan 81 = .ok (.iaload, 1) := all_at dvX12_findSpan_40 21 rfl
theorem dX12_findSpan_82 : decode cX12_findSpan 82 = .ok (.goto 7, 3) := all_at dvX12_findSpan_40 22 rfl
theorem dX12_findSpan_85 : decode cX12_findSpan 85 = .ok (.aload_n 0, 1) := all_at dvX12_findSpan_40 23 rfl
set_option maxRecDepth 100000 in
theorem dvX12_findSpan_86 : ([(86, .getfield 423, 3), (89, .putfield 423, 3), (92, .iinc 2 1, 3), (95, .goto (-79), 3), (98, .aload_n 0, 1), (99, .getfield 420, 3), (102, .aload_n 0, 1), (103, .getfield 423, 3), (106, .if_icmp .gt 7, 3), (109, .iconst 1, 1), (110, .goto 4, 3), (113, .iconst 0, 1), (114, .ireturn, 1)] : List (Nat × Instr × Nat)).all (fun q => decide (decode cX12_findSpan q.1 = .ok (q.2.1, q.2.2))) = true := by decide +kernel
theorem dX12_findSpan_86 : decode cX12_findSpan 86 = .ok (.getfield 423, 3) := all_at dvX12_findSpan_86 0 rfl
theorem dX12_findSpan_89 : decode cX12_findSpan 89 = .ok (.putfield 423, 3) := all_at dvX12_findSpan_86 1 rfl
theorem dX12_findSpan_92 : decode cX12_findSpan 92 = .ok (.iinc 2 1, 3) := all_at dvX12_findSpan_86 2 rfl
theorem dX12_findSpan_95 : decode cX12_findSpan 95 = .ok (.goto (-79), 3) := all_at dvX12_findSpan_86 3 rfl
theorem dX12_findSpan_98 : decode cX12_findSpan 98 = .ok (.aload_n 0, 1) := all_at dvX12_findSpan_86 4 rfl
theorem dX12_findSpan_99 : decode cX12_findSpan 99 = .ok (.getfield 420, 3) := all_at dvX12_findSpan_86 5 rfl
theorem dX12_findSpan_102 : decode cX12_findSpan 102 = .ok (.aload_n 0, 1) := all_at dvX12_findSpan_86 6 rfl
theorem dX12_findSpan_103 : decode cX12_findSpan 103 = .ok (.getfield 423, 3) := all_at dvX12_findSpan_86 7 rfl
theorem dX12_findSpan_106 : decode cX12_findSpan 106 = .ok (.if_icmp .gt 7, 3) := all_at dvX12_findSpan_86 8 rfl
theorem dX12_findSpan_109 : decode cX12_findSpan 109 = .ok (.iconst 1, 1) := all_at dvX12_findSpan_86 9 rfl
theorem dX12_findSpan_110 : decode cX12_findSpan 110 = .ok (.goto 4, 3) := all_at dvX12_findSpan_86 10 rfl
theorem dX12_findSpan_113 : decode cX12_findSpan 113 = .ok (.iconst 0, 1) := all_at dvX12_findSpan_86 11 rfl
theorem dX12_findSpan_114 : decode cX12_findSpan 114 = .ok (.ireturn, 1) := all_at dvX12_findSpan_86 12 rfl
set_option maxRecDepth 100000 in
theorem dvX12_ones_0 : ([(0, .iconst 0, 1), (1, .istore_n 1, 1), (2, .iconst 0, 1), (3, .istore_n 2, 1), (4, .iload_n 2, 1), (5, .bipush 16, 2), (7, .if_icmp .ge 17, 3), (10, .iload_n 1, 1), (11, .iload_n 0, 1), (12, .iload_n 2, 1), (13, .ishr, 1), (14, .iconst 1, 1), (15, .iand, 1), (16, .iadd, 1), (17, .istore_n 1, 1), (18, .iinc 2 1, 3), (21, .goto (-17), 3), (24, .iload_n 1, 1), (25, .ireturn, 1)] : List (Nat × Instr × Nat)).all (fun q => decide (decode cX12_ones q.1 = .ok (q.2.1, q.2.2))) = true := by decide +kernel
theorem dX12_ones_0 : decode cX12_ones 0 = .ok (.iconst 0, 1) := all_at dvX12_ones_0 0 rfl
theorem dX12_ones_1 : decode cX12_ones 1 = .ok (.istore_n 1, 1) := all_at dvX12_ones_0 1 rfl
theorem dX12_ones_2 : decode cX12_ones 2 = .ok (.iconst 0, 1) := all_at dvX12_ones_0 2 rfl
theorem dX12_ones_3 : decode cX12_ones 3 = .ok (.istore_n 2, 1) := all_at dvX12_ones_0 3 rfl
theorem dX12_ones_4 : decode cX12_ones 4 = .ok (.iload_n 2, 1) := all_at dvX12_ones_0 4 rfl
theorem dX12_ones_5 : decode cX12_ones 5 = .ok (.bipush 16, 2) := all_at dvX12_ones_0 5 rfl
theorem dX12_ones_7 : decode cX12_ones 7 = .ok (.if_icmp .ge 17, 3) := all_at dvX12_ones_0 6 rfl
theorem dX12_ones_10 : decode cX12_ones 10 = .ok (.iload_n 1, 1) := all_at dvX12_ones_0 7 rfl
theorem dX12_ones_11 : decode cX12_ones 11 = .ok (.iload_n 0, 1) := all_at dvX12_ones_0 8 rfl
theorem dX12_ones_12 : decode cX12_ones 12 = .ok (.iload_n 2, 1) := all_at dvX12_ones_0 9 rfl
theorem dX12_ones_13 : decode cX12_ones 13 = .ok (.ishr, 1) := all_at dvX12_ones_0 10 rfl
theorem dX12_ones_14 : decode cX12_ones 14 = .ok (.iconst 1, 1) := all_at dvX12_ones_0 11 rfl
theorem dX12_ones_15 : decode cX12_ones 15 = .ok (.iand, 1) := all_at dvX12_ones_0 12 rfl
theorem dX12_ones_16 : decode cX12_ones 16 = .ok (.iadd, 1) := all_at dvX12_ones_0 13 rfl
theorem dX12_ones_17 : decode cX12_ones 17 = .ok (.istore_n 1, 1) := all_at dvX12_ones_0 14 rfl
theorem dX12_ones_18 : decode cX12_ones 18 = .ok (.iinc 2 1, 3) := all_at dvX12_ones_0 15 rfl
theorem dX12_ones_21 : decode cX12_ones 21 = .ok (.goto (-17), 3) := all_at dvX12_ones_0 16 rfl
theorem dX12_ones_24 : decode cX12_ones 24 = .ok (.iload_n 1, 1) := all_at dvX12_ones_0 17 rfl
theorem dX12_ones_25 : decode cX12_ones 25 = .ok (.ireturn, 1) := all_at dvX12_ones_0 18 rfl
set_option maxRecDepth 100000 in
theorem dvX12_shared_0 : ([(0, .iload_n 1, 1), (1, .i2l, 1), (2, .lconst 1, 1), (3, .iload_n 2, 1), (4, .i2l, 1), (5, .invokestatic 167, 3), (8, .ifCond .eq 30, 3), (11, .iload_n 2, 1), (12, .sipush 9999, 3), (15, .if_icmp .gt 23, 3), (18, .iload_n 3, 1), (19, .i2l, 1), (20, .lconst 1, 1), (21, .iload 4, 2), (23, .i2l, 1), (24, .invokestatic 167, 3), (27, .ifCond .eq 11, 3), (30, .iload 4, 2), (32, .sipush 9999, 3), (35, .if_icmp .le 6, 3), (38, .ldc 178, 2), (40, .ireturn, 1), (41, .aload_n 0, 1), (42, .getfield 417, 3)] : List (Nat × Instr × Nat)).all (fun q => decide (decode cX12_shared q.1 = .ok (q.2.1, q.2.2))) = true := by decide +kernel
theorem dX12_shared_0 : decode cX12_shared 0 = .ok (.iload_n 1, 1) := all_at dvX12_shared_0 0 rfl
theorem dX12_shared_1 : decode cX12_shared 1 = .ok (.i2l, 1) := all_at dvX12_shared_0 1 rfl
theorem dX12_shared_2 : decode cX12_shared 2 = .ok (.lconst 1, 1) := all_at dvX12_shared_0 2 rfl
theorem dX12_shared_3 : decode cX12_shared 3 = .ok (.iload_n 2, 1) := all_at dvX12_shared_0 3 rfl
theorem dX12_shared_4 : decode cX12_shared 4 = .ok (.i2l, 1) := all_at dvX12_shared_0 4 rfl
theorem dX12_shared_5 : decode cX12_shared 5 = .ok (.invokestatic 167, 3) := all_at dvX12_shared_0 5 rfl
theorem dX12_shared_8 : decode cX12_shared 8 = .ok (.ifCond .eq 30, 3) := all_at dvX12_shared_0 6 rfl
theorem dX12_shared_11 : decode cX12_shared 11 = .ok (.iload_n 2, 1) := all_at dvX12_shared_0 7 rfl
theorem dX12_shared_12 : decode cX12_shared 12 = .ok (.sipush 9999, 3) := all_at dvX12_shared_0 8 rfl
theorem dX12_shared_15 : decode cX12_shared 15 = .ok (.if_icmp .gt 23, 3) := all_at dvX12_shared_0 9 rfl
theorem dX12_shared_18 : decode cX12_shared 18 = .ok (.iload_n 3, 1) := all_at dvX12_shared_0 10 rfl
theorem dX12_shared_19 : decode cX12_shared 19 = .ok (.i2l, 1) := all_at dvX12_shared_0 11 rfl
theorem dX12_shared_20 : decode cX12_shared 20 = .ok (.lconst 1, 1) := all_at dvX12_shared_0 12 rfl
theorem dX12_shared_21 : decode cX12_shared 21 = .ok (.iload 4, 2) := all_at dvX12_shared_0 13 rfl
theorem dX12_shared_23 : decode cX12_shared 23 = .ok (.i2l, 1) := all_at dvX12_shared_0 14 rfl
theorem dX12_shared_24 : decode cX12_shared 24 = .ok (.invokestatic 167, 3) := all_at dvX12_shared_0 15 rfl
theorem dX12_shared_27 : decode cX12_shared 27 = .ok (.ifCond .eq 11, 3) := all_at dvX12_shared_0 16 rfl
theorem dX12_shared_30 : decode cX12_shared 30 = .ok (.iload 4, 2) := all_at dvX12_shared_0 17 rfl
theorem dX12_shared_32 : decode cX12_shared 32 = .ok (.sipush 9999, 3) := all_at dvX12_shared_0 18 rfl
theorem dX12_shared_35 : decode cX12_shared 35 = .ok (.if_icmp .le 6, 3) := all_at dvX12_shared_0 19 rfl
theorem dX12_shared_38 : decode cX12_shared 38 = .ok (.ldc 178, 2) := all_at dvX12_shared_0 20 rfl
theorem dX12_shared_40 : decode cX12_shared 40 = .ok (.ireturn, 1) := all_at dvX12_shared_0 21 rfl
theorem dX12_shared_41 : decode cX12_shared 41 = .ok (.aload_n 0, 1) := all_at dvX12_shared_0 22 rfl
theorem dX12_shared_42 : decode cX12_shared 42 = .ok (.getfield 417, 3) := all_at dvX12_shared_0 23 rfl
set_option maxRecDepth 100000 in
theorem dvX12_shared_45 : ([(45, .bipush 8, 2), (47, .if_icmp .ne 6, 3), (50, .ldc 182, 2), (52, .ireturn, 1), (53, .aload_n 0, 1), (54, .getfield 133, 3), (57, .aload_n 0, 1), (58, .getfield 417, 3), (61, .iload_n 1, 1), (62, .iload 4, 2), (64, .isub, 1), (65, .iastore, 1), (66, .aload_n 0, 1), (67, .getfield 136, 3), (70, .aload_n 0, 1), (71, .getfield 417, 3), (74, .iload_n 2, 1), (75, .iload_n 3, 1), (76, .isub, 1), (77, .iastore, 1), (78, .aload_n 0, 1), (79, .dup, 1), (80, .getfield 417, 3), (83, .iconst 1, 1)] : List (Nat × Instr × Nat)).all (fun q => decide (decode cX12_shared q.1 = .ok (q.2.1, q.2.2))) = true := by decide +kernel
theorem dX12_shared_45 : decode cX12_shared 45 = .ok (.bipush 8, 2) := all_at dvX12_shared_45 0 rfl
theorem dX12_shared_47 : decode cX12_shared 47 = .ok (.if_icmp .ne 6, 3) := all_at dvX12_shared_45 1 rfl
theorem dX12_shared_50 : decode cX12_shared 50 = .ok (.ldc 182, 2) := all_at dvX12_shared_45 2 rfl
theorem dX12_shared_52 : decode cX12_shared 52 = .ok (.ireturn, 1) := all_at dvX12_shared_45 3 rfl
theorem dX12_shared_53 : decode cX12_shared 53 = .ok (.aload_n 0, 1) := all_at dvX12_shared_45 4 rfl
theorem dX12_shared_54 : decode cX12_shared 54 = .ok (.getfield 133, 3) := all_at dvX12_shared_45 5 rfl
theorem dX12_shared_57 : decode cX12_shared 57 = .ok (.aload_n 0, 1) := all_at dvX12_shared_45 6 rfl
theorem dX12_shared_58 : decode cX12_shared 58 = .ok (.getfield 417, 3) := all_at dvX12_shared_45 7 rfl
theorem dX12_shared_61 : decode cX12_shared 61 = .ok (.iload_n 1, 1) := all_at dvX12_shared_45 8 rfl
theorem dX12_shared_62 : decode cX12_shared 62 = .ok (.iload 4, 2) := all_at dvX12_shared_45 9 rfl
theorem dX12_shared_64 : decode cX12_shared 64 = .ok (.isub, 1) := all_at dvX12_shared_45 10 rfl
theorem dX12_shared_65 : decode cX12_shared 65 = .ok (.iastore, 1) := all_at dvX12_shared_45 11 rfl
theorem dX12_shared_66 : decode cX12_shared 66 = .ok (.aload_n 0, 1) := all_at dvX12_shared_45 12 rfl
theorem dX12_shared_67 : decode cX12_shared 67 = .ok (.getfield 136, 3) := all_at dvX12_shared_45 13 rfl
theorem dX12_shared_70 : decode cX12_shared 70 = .ok (.aload_n 0, 1) := all_at dvX12_shared_45 14 rfl
theorem dX12_shared_71 : decode cX12_shared 71 = .ok (.getfield 417, 3) := all_at dvX12_shared_45 15 rfl
theorem dX12_shared_74 : decode cX12_shared 74 = .ok (.iload_n 2, 1) := all_at dvX12_shared_45 16 rfl
theorem dX12_shared_75 : decode cX12_shared 75 = .ok (.iload_n 3, 1) := all_at dvX12_shared_45 17 rfl
theorem dX12_shared_76 : decode cX12_shared 76 = .ok (.isub, 1) := all_at dvX12_shared_45 18 rfl
theorem dX12_shared_77 : decode cX12_shared 77 = .ok (.iastore, 1) := all_at dvX12_shared_45 19 rfl
theorem dX12_shared_78 : decode cX12_shared 78 = .ok (.aload_n 0, 1) := all_at dvX12_shared_45 20 rfl
theorem dX12_shared_79 : decode cX12_shared 79 = .ok (.dup, 1) := all_at dvX12_shared_45 21 rfl
theorem dX12_shared_80 : decode cX12_shared 80 = .ok (.getfield 417, 3) := all_at dvX12_shared_45 22 rfl
theorem dX12_shared_83 : decode cX12_shared 83 = .ok (.iconst 1, 1) := all_at dvX12_shared_45 23 rfl
set_option maxRecDepth 100000 in
theorem dvX12_shared_84 : ([(84, .iadd, 1), (85, .putfield 417, 3), (88, .aload_n 0, 1), (89, .getfield 417, 3), (92, .ireturn, 1)] : List (Nat × Instr × Nat)).all (fun q => decide (decode cX12_shared q.1 = .ok (q.2.1, q.2.2))) = true := by decide +kernel
theorem dX12_shared_84 : decode cX12_shared 84 = .ok (.iadd, 1) := all_at dvX12_shared_84 0 rfl
theorem dX12_shared_85 : decode cX12_shared 85 = .ok (.putfield 417, 3) := all_at dvX12_shared_84 1 rfl
theorem dX12_shared_88 : decode cX12_shared 88 = .ok (.aload_n 0, 1) := all_at dvX12_shared_84 2 rfl
theorem dX12_shared_89 : decode cX12_shared 89 = .ok (.getfield 417, 3) := all_at dvX12_shared_84 3 rfl
theorem dX12_shared_92 : decode cX12_shared 92 = .ok (.ireturn, 1) := all_at dvX12_shared_84 4 rfl
set_option maxRecDepth 100000 in
theorem dvX12_stands_0 : ([(0, .aload_n 0, 1), (1, .getfield 139, 3), (4, .iload_n 1, 1), (5, .iaload, 1), (6, .ifCond .ne 16, 3), (9, .aload_n 0, 1), (10, .getfield 154, 3), (13, .iload_n 1, 1), (14, .iaload, 1), (15, .ifCond .ge 7, 3), (18, .iconst 1, 1), (19, .goto 4, 3), (22, .iconst 0, 1), (23, .ireturn, 1)] : List (Nat × Instr × Nat)).all (fun q => decide (decode cX12_stands q.1 = .ok (q.2.1, q.2.2))) = true := by decide +kernel
theorem dX12_stands_0 : decode cX12_stands 0 = .ok (.aload_n 0, 1) := all_at dvX12_stands_0 0 rfl
theorem dX12_stands_1 : decode cX12_stands 1 = .ok (.getfield 139, 3) := all_at dvX12_stands_0 1 rfl
theorem dX12_stands_4 : decode cX12_stands 4 = .ok (.iload_n 1, 1) := all_at dvX12_stands_0 2 rfl
theorem dX12_stands_5 : decode cX12_stands 5 = .ok (.iaload, 1) := all_at dvX12_stands_0 3 rfl
theorem dX12_stands_6 : decode cX12_stands 6 = .ok (.ifCond .ne 16, 3) := all_at dvX12_stands_0 4 rfl
theorem dX12_stands_9 : decode cX12_stands 9 = .ok (.aload_n 0, 1) := all_at dvX12_stands_0 5 rfl
theorem dX12_stands_10 : decode cX12_stands 10 = .ok (.getfield 154, 3) := all_at dvX12_stands_0 6 rfl
theorem dX12_stands_13 : decode cX12_stands 13 = .ok (.iload_n 1, 1) := all_at dvX12_stands_0 7 rfl
theorem dX12_stands_14 : decode cX12_stands 14 = .ok (.iaload, 1) := all_at dvX12_stands_0 8 rfl
theorem dX12_stands_15 : decode cX12_stands 15 = .ok (.ifCond .ge 7, 3) := all_at dvX12_stands_0 9 rfl
theorem dX12_stands_18 : decode cX12_stands 18 = .ok (.iconst 1, 1) := all_at dvX12_stands_0 10 rfl
theorem dX12_stands_19 : decode cX12_stands 19 = .ok (.goto 4, 3) := all_at dvX12_stands_0 11 rfl
theorem dX12_stands_22 : decode cX12_stands 22 = .ok (.iconst 0, 1) := all_at dvX12_stands_0 12 rfl
theorem dX12_stands_23 : decode cX12_stands 23 = .ok (.ireturn, 1) := all_at dvX12_stands_0 13 rfl
set_option maxHeartbeats 4000000 in
set_option maxRecDepth 100000 in
/-- X12_shared -/
theorem c_X12_shared (l : Launch) (dC : Nat → ClassId) (dI : Nat → Nat → Nat) (sz : Nat) (h : Nat) (g : Nat → Nat → Nat) (ca : Nat → Nat → ClassId) (iv : Nat → Nat → Int32) (lv : Nat → Nat → Int64) (fa : Nat → Nat → Nat → Int32) (la : Nat → Nat → Nat → Int64) (hI : IX iv fa) (a : Int32) (b : Int32) (d : Int32) (k : Int32) : Met l yX12_shared (wc yX12_shared cX12_shared 5 (some .int)) ({ frames := 1, cells := 0, slots := 0, locals := 25 } : Room) (pW (dC, dI) classes (WM h g ca iv lv fa la) (TM ca) sz [.ref h, .int a, .int b, .int d, .int k]) (va_Qi (fun r (u : SS) => ∃ (na_12_63 : Nat → Int32) (na_12_64 : Nat → Int32) (ni_12_62 : Int32), inb (bI 12 62) ni_12_62 ∧ ((-100004) ≤ r.toInt ∧ r.toInt ≤ 8) ∧ u = ((u2 iv 12 62 ni_12_62), lv, (u2 (u2 fa 12 63 na_12_63) 12 64 na_12_64), la)) (bM (dC, dI) h g ca (va_A (WM h g ca iv lv fa la) sz)) (va_A (WM h g ca iv lv fa la) sz)) 0 0 (va_A (WM h g ca iv lv fa la) sz) := by
  refine Met.ofW (cc := cX12_shared) (maxL := 5) (ret := (some .int)) (by decide) rfl ?_
  intro p e s m args below meth c s₁ B hml hv
  obtain ⟨rfl, hsz, hP, hK, hD0⟩ := hv
  have hx := B.exec
  have hb := B.bytes
  have hr := B.returns
  have ht := tb_tl (atoms_spec (ws := wc yX12_shared cX12_shared 5 (some .int)) B.pre)
  have hown : s.vm.findClass RX12 = some m.cls := findClass_of_methodNamed B.named
  have hlocks := B.notSynchronized
  subst hsz
  have hD := hD0.self (sz := s.heap.size)
  generalize hAe : va_A (WM h g ca iv lv fa la) s.heap.size = A at hD ⊢
  have hA : ∀ q : Nat, s.heap.size ≤ q → A q := fun q h => by rw [← hAe]; exact Or.inr h
  have hS : va_S A s.heap s.heap [] := va_S.rf
  have hl := lv_entry [.ref h, .int a, .int b, .int d, .int k] (n := 5) (Nat.le_of_ble_eq_true rfl)
  rw [lg_entry_eq]
  generalize (lg_sl [.ref h, .int a, .int b, .int d, .int k] ++ List.replicate (5 - (lg_sl [.ref h, .int a, .int b, .int d, .int k]).length) Slot.unset).toArray = ls at hl ⊢
  have hl : lv_has ls 5 [(0, .ref h), (1, .int a), (2, .int b), (3, .int d), (4, .int k)] := hl
  refine lv_iload_n hx hb dX12_shared_0 rfl (lv_at hl 1 rfl) ?_
  refine lv_i2l (v := (a.toInt64)) hx hb dX12_shared_1 rfl ?_
  refine lv_lconst (v := 1) hx hb dX12_shared_2 (by decide) ?_
  refine lv_iload_n hx hb dX12_shared_3 rfl (lv_at hl 2 rfl) ?_
  refine lv_i2l (v := (b.toInt64)) hx hb dX12_shared_4 rfl ?_
  refine vp_callSi (W.runS (As := [.long (a.toInt64), .long 1, .long (b.toInt64)]) (rest := []) ⟨hx, hb, hml, hown, ht⟩ (c_X12_in l dC dI (a.toInt64) 1 (b.toInt64) (a.toInt) (1) (b.toInt) ((Int32.toInt_toInt64 a).trans rfl) (by decide : (1 : Int64).toInt = 1) ((Int32.toInt_toInt64 b).trans rfl)) (kS 3 ht m_1370 m_1371 m_89 m_1372 rfl rfl hd_X12_in_v ⟨Nat.le_of_ble_eq_true rfl, Nat.le_of_ble_eq_true rfl⟩) (sR noP (hK.sub (tys' := []) [] rfl)) rfl rfl hl.1 rfl (lv_room (Nat.le_of_ble_eq_true rfl)) dX12_shared_5 ⟨Nat.le_of_ble_eq_true rfl, Nat.le_of_ble_eq_true rfl⟩) (fun r1 hr1 => ?_)
  rcases hr1 with ⟨rfl, fr1⟩ | ⟨rfl, fr1⟩
  · skip
    refine lv_if_eq (tgt := 38) hx hb dX12_shared_8 (by decide) (fun c2 => ?_) (fun c2 => ?_)
    · exact absurd c2 (by decide)
    · skip
      refine lv_iload_n hx hb dX12_shared_11 rfl (lv_at hl 2 rfl) ?_
      refine lv_sipush (v := 9999) hx hb dX12_shared_12 (by decide) ?_
      refine lv_icmp_gt (tgt := 38) hx hb dX12_shared_15 (by decide) (fun c3 => ?_) (fun c3 => ?_)
      · have fc3 := z_lt (by decide : (9999 : Int32).toInt = 9999) (rfl : (b).toInt = _) c3
        refine lv_ldc hx hb hown (ht _ m_1373) dX12_shared_38 ?_
        have hP9 : va_P (dC, dI) classes (WM h g ca (u2 iv 12 62 (iv 12 62)) lv (u2 (u2 fa 12 63 (fa 12 63)) 12 64 (fa 12 64)) la) s.heap := hP
        have hD9 : va_D A (WM h g ca (u2 iv 12 62 (iv 12 62)) lv (u2 (u2 fa 12 63 (fa 12 63)) 12 64 (fa 12 64)) la) := hD
        exact W.iret (v := (-100002)) hx hb hr (fun t ht9 hW => ⟨⟨(-100002), ((u2 iv 12 62 (iv 12 62)), lv, (u2 (u2 fa 12 63 (fa 12 63)) 12 64 (fa 12 64)), la), rfl, ⟨(fa 12 63), (fa 12 64), (iv 12 62), (hI.1 12 62), ⟨by decide, by decide⟩, rfl⟩, by rw [ht9]; exact hP9, hD9⟩, hS.F ht9⟩) hS.2.2 dX12_shared_40
      · have fc3 := z_nlt (by decide : (9999 : Int32).toInt = 9999) (rfl : (b).toInt = _) c3
        refine lv_iload_n hx hb dX12_shared_18 rfl (lv_at hl 3 rfl) ?_
        refine lv_i2l (v := (d.toInt64)) hx hb dX12_shared_19 rfl ?_
        refine lv_lconst (v := 1) hx hb dX12_shared_20 (by decide) ?_
        refine lv_iload hx hb dX12_shared_21 (lv_at hl 4 rfl) ?_
        refine lv_i2l (v := (k.toInt64)) hx hb dX12_shared_23 rfl ?_
        refine vp_callSi (W.runS (As := [.long (d.toInt64), .long 1, .long (k.toInt64)]) (rest := []) ⟨hx, hb, hml, hown, ht⟩ (c_X12_in l dC dI (d.toInt64) 1 (k.toInt64) (d.toInt) (1) (k.toInt) ((Int32.toInt_toInt64 d).trans rfl) (by decide : (1 : Int64).toInt = 1) ((Int32.toInt_toInt64 k).trans rfl)) (kS 3 ht m_1370 m_1371 m_89 m_1372 rfl rfl hd_X12_in_v ⟨Nat.le_of_ble_eq_true rfl, Nat.le_of_ble_eq_true rfl⟩) (sR noP (hK.sub (tys' := []) [] rfl)) rfl rfl hl.1 rfl (lv_room (Nat.le_of_ble_eq_true rfl)) dX12_shared_24 ⟨Nat.le_of_ble_eq_true rfl, Nat.le_of_ble_eq_true rfl⟩) (fun r4 hr4 => ?_)
        rcases hr4 with ⟨rfl, fr4⟩ | ⟨rfl, fr4⟩
        · skip
          refine lv_if_eq (tgt := 38) hx hb dX12_shared_27 (by decide) (fun c5 => ?_) (fun c5 => ?_)
          · exact absurd c5 (by decide)
          · skip
            refine lv_iload hx hb dX12_shared_30 (lv_at hl 4 rfl) ?_
            refine lv_sipush (v := 9999) hx hb dX12_shared_32 (by decide) ?_
            refine lv_icmp_le (tgt := 41) hx hb dX12_shared_35 (by decide) (fun c6 => ?_) (fun c6 => ?_)
            · have fc6 := z_le (rfl : (k).toInt = _) (by decide : (9999 : Int32).toInt = 9999) c6
              refine lv_aload_n hx hb dX12_shared_41 rfl (lv_at hl 0 rfl) ?_
              have i_12_62 : 0 ≤ (iv 12 62).toInt ∧ (iv 12 62).toInt ≤ 8 := hI.1 12 62
              refine gM_12_62 hx hb ht hown hK hP m_1201 (v := (iv 12 62)) rfl dX12_shared_42 ?_
              refine lv_bipush (v := 8) hx hb dX12_shared_45 (by decide) ?_
              refine lv_icmp_ne (tgt := 53) hx hb dX12_shared_47 (by decide) (fun c7 => ?_) (fun c7 => ?_)
              · have fc7 := z_ne (rfl : ((iv 12 62)).toInt = _) (by decide : (8 : Int32).toInt = 8) c7
                refine lv_aload_n hx hb dX12_shared_53 rfl (lv_at hl 0 rfl) ?_
                refine gM_12_63 hx hb ht hown hK hP m_1202 dX12_shared_54 ?_
                refine lv_aload_n hx hb dX12_shared_57 rfl (lv_at hl 0 rfl) ?_
                refine gM_12_62 hx hb ht hown hK hP m_1201 (v := (iv 12 62)) rfl dX12_shared_58 ?_
                refine lv_iload_n hx hb dX12_shared_61 rfl (lv_at hl 1 rfl) ?_
                refine lv_iload hx hb dX12_shared_62 (lv_at hl 4 rfl) ?_
                refine lv_isub hx hb dX12_shared_64 ?_
                refine lv_topi (fun v8 ev8 => ?_)
                have tv8 := z_sub ev8 (rfl : (a).toInt = _) (rfl : (k).toInt = _) (by omega) (by omega)
                refine tM_12_63 hx hb hK hP hD hS (f0 := (fa 12 63)) rfl (i := (iv 12 62)) (x := v8) (vp_in_iff.mpr ⟨by omega, by omega⟩) dX12_shared_65 (fun f9 ef9 H locs hP hD hS => ?_)
                have hf9 : ∀ j, inb (bA 12 63 j) (f9 j) := fun j => full_i _
                refine lv_aload_n hx hb dX12_shared_66 rfl (lv_at hl 0 rfl) ?_
                refine gM_12_64 hx hb ht hown hK hP m_1203 dX12_shared_67 ?_
                refine lv_aload_n hx hb dX12_shared_70 rfl (lv_at hl 0 rfl) ?_
                refine gM_12_62 hx hb ht hown hK hP m_1201 (v := (iv 12 62)) rfl dX12_shared_71 ?_
                refine lv_iload_n hx hb dX12_shared_74 rfl (lv_at hl 2 rfl) ?_
                refine lv_iload_n hx hb dX12_shared_75 rfl (lv_at hl 3 rfl) ?_
                refine lv_isub hx hb dX12_shared_76 ?_
                refine lv_topi (fun v10 ev10 => ?_)
                have tv10 := z_sub ev10 (rfl : (b).toInt = _) (rfl : (d).toInt = _) (by omega) (by omega)
                refine tM_12_64 hx hb hK hP hD hS (f0 := (fa 12 64)) rfl (i := (iv 12 62)) (x := v10) (vp_in_iff.mpr ⟨by omega, by omega⟩) dX12_shared_77 (fun f11 ef11 H locs hP hD hS => ?_)
                have hf11 : ∀ j, inb (bA 12 64 j) (f11 j) := fun j => full_i _
                refine lv_aload_n hx hb dX12_shared_78 rfl (lv_at hl 0 rfl) ?_
                refine lv_dup hx hb dX12_shared_79 rfl ?_
                refine gM_12_62 hx hb ht hown hK hP m_1201 (v := (iv 12 62)) rfl dX12_shared_80 ?_
                refine lv_iconst (v := 1) hx hb dX12_shared_83 (by decide) ?_
                refine lv_iadd hx hb dX12_shared_84 ?_
                refine lv_topi (fun v12 ev12 => ?_)
                have tv12 := z_add ev12 (rfl : ((iv 12 62)).toInt = _) (by decide : (1 : Int32).toInt = 1) (by omega) (by omega)
                refine pM_12_62 (v := v12) hx hb ht hown hK hP hD hS m_1201 dX12_shared_85 (fun H locs hP hD hS => ?_)
                refine lv_aload_n hx hb dX12_shared_88 rfl (lv_at hl 0 rfl) ?_
                refine gM_12_62 hx hb ht hown hK hP m_1201 (v := v12) rfl dX12_shared_89 ?_
                have hP9 : va_P (dC, dI) classes (WM h g ca (u2 iv 12 62 v12) lv (u2 (u2 fa 12 63 f9) 12 64 f11) la) H := hP
                have hD9 : va_D A (WM h g ca (u2 iv 12 62 v12) lv (u2 (u2 fa 12 63 f9) 12 64 f11) la) := hD
                exact W.iret (v := v12) hx hb hr (fun t ht9 hW => ⟨⟨v12, ((u2 iv 12 62 v12), lv, (u2 (u2 fa 12 63 f9) 12 64 f11), la), rfl, ⟨f9, f11, v12, (show inb (0, 8) v12 from ⟨by omega, by omega⟩), ⟨by omega, by omega⟩, rfl⟩, by rw [ht9]; exact hP9, hD9⟩, hS.F ht9⟩) hS.2.2 dX12_shared_92
              · have fc7 := z_eq (rfl : ((iv 12 62)).toInt = _) (by decide : (8 : Int32).toInt = 8) c7
                refine lv_ldc hx hb hown (ht _ m_1380) dX12_shared_50 ?_
                have hP9 : va_P (dC, dI) classes (WM h g ca (u2 iv 12 62 (iv 12 62)) lv (u2 (u2 fa 12 63 (fa 12 63)) 12 64 (fa 12 64)) la) s.heap := hP
                have hD9 : va_D A (WM h g ca (u2 iv 12 62 (iv 12 62)) lv (u2 (u2 fa 12 63 (fa 12 63)) 12 64 (fa 12 64)) la) := hD
                exact W.iret (v := (-100004)) hx hb hr (fun t ht9 hW => ⟨⟨(-100004), ((u2 iv 12 62 (iv 12 62)), lv, (u2 (u2 fa 12 63 (fa 12 63)) 12 64 (fa 12 64)), la), rfl, ⟨(fa 12 63), (fa 12 64), (iv 12 62), (hI.1 12 62), ⟨by decide, by decide⟩, rfl⟩, by rw [ht9]; exact hP9, hD9⟩, hS.F ht9⟩) hS.2.2 dX12_shared_52
            · have fc6 := z_nle (rfl : (k).toInt = _) (by decide : (9999 : Int32).toInt = 9999) c6
              refine lv_ldc hx hb hown (ht _ m_1373) dX12_shared_38 ?_
              have hP9 : va_P (dC, dI) classes (WM h g ca (u2 iv 12 62 (iv 12 62)) lv (u2 (u2 fa 12 63 (fa 12 63)) 12 64 (fa 12 64)) la) s.heap := hP
              have hD9 : va_D A (WM h g ca (u2 iv 12 62 (iv 12 62)) lv (u2 (u2 fa 12 63 (fa 12 63)) 12 64 (fa 12 64)) la) := hD
              exact W.iret (v := (-100002)) hx hb hr (fun t ht9 hW => ⟨⟨(-100002), ((u2 iv 12 62 (iv 12 62)), lv, (u2 (u2 fa 12 63 (fa 12 63)) 12 64 (fa 12 64)), la), rfl, ⟨(fa 12 63), (fa 12 64), (iv 12 62), (hI.1 12 62), ⟨by decide, by decide⟩, rfl⟩, by rw [ht9]; exact hP9, hD9⟩, hS.F ht9⟩) hS.2.2 dX12_shared_40
        · skip
          refine lv_if_eq (tgt := 38) hx hb dX12_shared_27 (by decide) (fun c13 => ?_) (fun c13 => ?_)
          · skip
            refine lv_ldc hx hb hown (ht _ m_1373) dX12_shared_38 ?_
            have hP9 : va_P (dC, dI) classes (WM h g ca (u2 iv 12 62 (iv 12 62)) lv (u2 (u2 fa 12 63 (fa 12 63)) 12 64 (fa 12 64)) la) s.heap := hP
            have hD9 : va_D A (WM h g ca (u2 iv 12 62 (iv 12 62)) lv (u2 (u2 fa 12 63 (fa 12 63)) 12 64 (fa 12 64)) la) := hD
            exact W.iret (v := (-100002)) hx hb hr (fun t ht9 hW => ⟨⟨(-100002), ((u2 iv 12 62 (iv 12 62)), lv, (u2 (u2 fa 12 63 (fa 12 63)) 12 64 (fa 12 64)), la), rfl, ⟨(fa 12 63), (fa 12 64), (iv 12 62), (hI.1 12 62), ⟨by decide, by decide⟩, rfl⟩, by rw [ht9]; exact hP9, hD9⟩, hS.F ht9⟩) hS.2.2 dX12_shared_40
          · exact absurd rfl c13
  · skip
    refine lv_if_eq (tgt := 38) hx hb dX12_shared_8 (by decide) (fun c14 => ?_) (fun c14 => ?_)
    · skip
      refine lv_ldc hx hb hown (ht _ m_1373) dX12_shared_38 ?_
      have hP9 : va_P (dC, dI) classes (WM h g ca (u2 iv 12 62 (iv 12 62)) lv (u2 (u2 fa 12 63 (fa 12 63)) 12 64 (fa 12 64)) la) s.heap := hP
      have hD9 : va_D A (WM h g ca (u2 iv 12 62 (iv 12 62)) lv (u2 (u2 fa 12 63 (fa 12 63)) 12 64 (fa 12 64)) la) := hD
      exact W.iret (v := (-100002)) hx hb hr (fun t ht9 hW => ⟨⟨(-100002), ((u2 iv 12 62 (iv 12 62)), lv, (u2 (u2 fa 12 63 (fa 12 63)) 12 64 (fa 12 64)), la), rfl, ⟨(fa 12 63), (fa 12 64), (iv 12 62), (hI.1 12 62), ⟨by decide, by decide⟩, rfl⟩, by rw [ht9]; exact hP9, hD9⟩, hS.F ht9⟩) hS.2.2 dX12_shared_40
    · exact absurd rfl c14
set_option maxHeartbeats 4000000 in
set_option maxRecDepth 100000 in
/-- X12_findSpan -/
theorem c_X12_findSpan (l : Launch) (dC : Nat → ClassId) (dI : Nat → Nat → Nat) (sz : Nat) (h : Nat) (g : Nat → Nat → Nat) (ca : Nat → Nat → ClassId) (iv : Nat → Nat → Int32) (lv : Nat → Nat → Int64) (fa : Nat → Nat → Nat → Int32) (la : Nat → Nat → Nat → Int64) (hI : IX iv fa) (a : Int32) : Met l yX12_findSpan (wc yX12_findSpan cX12_findSpan 3 (some .boolean)) ({ frames := 0, cells := 0, slots := 0, locals := 0 } : Room) (pW (dC, dI) classes (WM h g ca iv lv fa la) (TM ca) sz [.ref h, .int a]) (va_Qi (fun r (u : SS) => ∃ (ni_12_65 : Int32) (ni_12_66 : Int32), (0 ≤ r.toInt ∧ r.toInt ≤ 1) ∧ u = ((u2 (u2 iv 12 65 ni_12_65) 12 66 ni_12_66), lv, fa, la)) (bM (dC, dI) h g ca (va_A (WM h g ca iv lv fa la) sz)) (va_A (WM h g ca iv lv fa la) sz)) 0 0 (va_A (WM h g ca iv lv fa la) sz) := by
  refine Met.ofW (cc := cX12_findSpan) (maxL := 3) (ret := (some .boolean)) (by decide) rfl ?_
  intro p e s m args below meth c s₁ B hml hv
  obtain ⟨rfl, hsz, hP, hK, hD0⟩ := hv
  have hx := B.exec
  have hb := B.bytes
  have hr := B.returns
  have ht := tb_tl (atoms_spec (ws := wc yX12_findSpan cX12_findSpan 3 (some .boolean)) B.pre)
  have hown : s.vm.findClass RX12 = some m.cls := findClass_of_methodNamed B.named
  have hlocks := B.notSynchronized
  subst hsz
  have hD := hD0.self (sz := s.heap.size)
  generalize hAe : va_A (WM h g ca iv lv fa la) s.heap.size = A at hD ⊢
  have hA : ∀ q : Nat, s.heap.size ≤ q → A q := fun q h => by rw [← hAe]; exact Or.inr h
  have hS : va_S A s.heap s.heap [] := va_S.rf
  have hl := lv_entry [.ref h, .int a] (n := 3) (Nat.le_of_ble_eq_true rfl)
  rw [lg_entry_eq]
  generalize (lg_sl [.ref h, .int a] ++ List.replicate (3 - (lg_sl [.ref h, .int a]).length) Slot.unset).toArray = ls at hl ⊢
  have hl : lv_has ls 3 [(0, .ref h), (1, .int a)] := hl
  refine lv_aload_n hx hb dX12_findSpan_0 rfl (lv_at hl 0 rfl) ?_
  refine lv_sipush (v := (-20000)) hx hb dX12_findSpan_1 (by decide) ?_
  refine pM_12_65 (v := (-20000)) hx hb ht hown hK hP hD hS m_1204 dX12_findSpan_4 (fun H locs hP hD hS => ?_)
  refine lv_aload_n hx hb dX12_findSpan_7 rfl (lv_at hl 0 rfl) ?_
  refine lv_sipush (v := 20000) hx hb dX12_findSpan_8 (by decide) ?_
  refine pM_12_66 (v := 20000) hx hb ht hown hK hP hD hS m_1205 dX12_findSpan_11 (fun H locs hP hD hS => ?_)
  refine lv_iconst (v := 0) hx hb dX12_findSpan_14 (by decide) ?_
  refine lv_istore_n (lv' := [(2, .int 0), (0, .ref h), (1, .int a)]) hx hb dX12_findSpan_15 rfl hl (by decide) rfl (fun ls hl => ?_)
  have lp182 : ∀ (nn182 : Nat) (x181_2 : Int32) (w181_i_12_66 : Int32) (w181_i_12_65 : Int32), 0 ≤ x181_2.toInt ∧ x181_2.toInt ≤ 8 → 8 - x181_2.toInt < (nn182 : Int) → ∀ (H : Heap) (locs : List Loc), ∀ (ls : Array Slot), va_P (dC, dI) classes (WM h g ca (u2 (u2 iv 12 65 w181_i_12_65) 12 66 w181_i_12_66) lv fa la) H → va_D A (WM h g ca (u2 (u2 iv 12 65 w181_i_12_65) 12 66 w181_i_12_66) lv fa la) → va_S A s.heap H locs → lv_has ls 3 [(2, .int x181_2), (0, .ref h), (1, .int a)] → W p l e ({ frames := 0, cells := 0, slots := 0, locals := 0 } : Room) s m ([.ref h, .int a] : List Value).toArray below meth c H locs 0 0 (MQ below (va_Qi (fun r (u : SS) => ∃ (ni_12_65 : Int32) (ni_12_66 : Int32), (0 ≤ r.toInt ∧ r.toInt ≤ 1) ∧ u = ((u2 (u2 iv 12 65 ni_12_65) 12 66 ni_12_66), lv, fa, la)) (bM (dC, dI) h g ca A) A) ([.ref h, .int a] : List Value).toArray s 0 0 A) (F0 m 16 ls []) := by
    intro nn182
    induction nn182 with
    | zero => intro x181_2 w181_i_12_66 w181_i_12_65 hx181_2 hm182; exfalso; omega
    | succ nn182 ih182 =>
      intro x181_2 w181_i_12_66 w181_i_12_65 hx181_2 hm182 H locs ls hP hD hS hl
      refine lv_iload_n hx hb dX12_findSpan_16 rfl (lv_at hl 0 rfl) ?_
      refine lv_aload_n hx hb dX12_findSpan_17 rfl (lv_at hl 1 rfl) ?_
      have i_12_62 : 0 ≤ (iv 12 62).toInt ∧ (iv 12 62).toInt ≤ 8 := hI.1 12 62
      refine gM_12_62 hx hb ht hown hK hP m_1201 (v := (iv 12 62)) rfl dX12_findSpan_18 ?_
      refine lv_icmp_ge (tgt := 98) hx hb dX12_findSpan_21 (by decide) (fun c183 => ?_) (fun c183 => ?_)
      · have fc183 := z_le (rfl : ((iv 12 62)).toInt = _) (rfl : (x181_2).toInt = _) c183
        refine lv_aload_n hx hb dX12_findSpan_98 rfl (lv_at hl 1 rfl) ?_
        refine gM_12_65 hx hb ht hown hK hP m_1204 (v := w181_i_12_65) rfl dX12_findSpan_99 ?_
        refine lv_aload_n hx hb dX12_findSpan_102 rfl (lv_at hl 1 rfl) ?_
        refine gM_12_66 hx hb ht hown hK hP m_1205 (v := w181_i_12_66) rfl dX12_findSpan_103 ?_
        refine lv_icmp_gt (tgt := 113) hx hb dX12_findSpan_106 (by decide) (fun c184 => ?_) (fun c184 => ?_)
        · have fc184 := z_lt (rfl : (w181_i_12_66).toInt = _) (rfl : (w181_i_12_65).toInt = _) c184
          refine lv_iconst (v := 0) hx hb dX12_findSpan_113 (by decide) ?_
          have hP9 : va_P (dC, dI) classes (WM h g ca (u2 (u2 iv 12 65 w181_i_12_65) 12 66 w181_i_12_66) lv fa la) H := hP
          have hD9 : va_D A (WM h g ca (u2 (u2 iv 12 65 w181_i_12_65) 12 66 w181_i_12_66) lv fa la) := hD
          exact W.zret (v := 0) hx hb hr rfl (fun t ht9 hW => ⟨⟨0, ((u2 (u2 iv 12 65 w181_i_12_65) 12 66 w181_i_12_66), lv, fa, la), rfl, ⟨w181_i_12_65, w181_i_12_66, ⟨by decide, by decide⟩, rfl⟩, by rw [ht9]; exact hP9, hD9⟩, hS.F ht9⟩) hS.2.2 dX12_findSpan_114
        · have fc184 := z_nlt (rfl : (w181_i_12_66).toInt = _) (rfl : (w181_i_12_65).toInt = _) c184
          refine lv_iconst (v := 1) hx hb dX12_findSpan_109 (by decide) ?_
          refine lv_goto (tgt := 114) hx hb dX12_findSpan_110 (by decide) ?_
          have hP9 : va_P (dC, dI) classes (WM h g ca (u2 (u2 iv 12 65 w181_i_12_65) 12 66 w181_i_12_66) lv fa la) H := hP
          have hD9 : va_D A (WM h g ca (u2 (u2 iv 12 65 w181_i_12_65) 12 66 w181_i_12_66) lv fa la) := hD
          exact W.zret (v := 1) hx hb hr rfl (fun t ht9 hW => ⟨⟨1, ((u2 (u2 iv 12 65 w181_i_12_65) 12 66 w181_i_12_66), lv, fa, la), rfl, ⟨w181_i_12_65, w181_i_12_66, ⟨by decide, by decide⟩, rfl⟩, by rw [ht9]; exact hP9, hD9⟩, hS.F ht9⟩) hS.2.2 dX12_findSpan_114
      · have fc183 := z_nle (rfl : ((iv 12 62)).toInt = _) (rfl : (x181_2).toInt = _) c183
        refine lv_iload_n hx hb dX12_findSpan_24 rfl (lv_at hl 2 rfl) ?_
        refine lv_iload_n hx hb dX12_findSpan_25 rfl (lv_at hl 0 rfl) ?_
        refine lv_ishr hx hb dX12_findSpan_26 ?_
        refine lv_topi (fun v185 ev185 => ?_)
        refine lv_iconst (v := 1) hx hb dX12_findSpan_27 (by decide) ?_
        refine lv_iand hx hb dX12_findSpan_28 ?_
        refine lv_topi (fun v186 ev186 => ?_)
        refine lv_if_ne (tgt := 92) hx hb dX12_findSpan_29 (by decide) (fun c187 => ?_) (fun c187 => ?_)
        · have fc187 := z_ne (rfl : (v186).toInt = _) (by decide : (0 : Int32).toInt = 0) c187
          obtain ⟨v188, ev188⟩ : ∃ y : Int32, y = x181_2 + 1 := ⟨_, rfl⟩
          have tv188 := z_add ev188 rfl (by decide : (1 : Int32).toInt = 1) (by omega) (by omega)
          refine lv_iinc (v := v188) (lv' := [(2, .int v188), (0, .ref h), (1, .int a)]) hx hb dX12_findSpan_92 hl (k := 0) rfl (by rw [ev188]; rfl) (by decide) rfl (fun ls hl => ?_)
          refine lv_goto (tgt := 16) hx hb dX12_findSpan_95 (by decide) ?_
          exact ih182 v188 w181_i_12_66 w181_i_12_65 ⟨by omega, by omega⟩ (by omega) _ _ ls hP hD hS (lv_sub hl [0, 1, 2] rfl)
        · have fc187 := z_eq (rfl : (v186).toInt = _) (by decide : (0 : Int32).toInt = 0) c187
          refine lv_aload_n hx hb dX12_findSpan_32 rfl (lv_at hl 1 rfl) ?_
          refine lv_aload_n hx hb dX12_findSpan_33 rfl (lv_at hl 1 rfl) ?_
          refine gM_12_63 hx hb ht hown hK hP m_1202 dX12_findSpan_34 ?_
          refine lv_iload_n hx hb dX12_findSpan_37 rfl (lv_at hl 0 rfl) ?_
          refine lM_12_63 hx hb hK hP (f := (fa 12 63)) rfl (vp_in_iff.mpr ⟨by omega, by omega⟩) dX12_findSpan_38 ?_
          refine lv_topi (fun v189 ev189 => ?_)
          refine lv_aload_n hx hb dX12_findSpan_39 rfl (lv_at hl 1 rfl) ?_
          refine gM_12_65 hx hb ht hown hK hP m_1204 (v := w181_i_12_65) rfl dX12_findSpan_40 ?_
          refine lv_icmp_le (tgt := 55) hx hb dX12_findSpan_43 (by decide) (fun c190 => ?_) (fun c190 => ?_)
          · have fc190 := z_le (rfl : (v189).toInt = _) (rfl : (w181_i_12_65).toInt = _) c190
            refine lv_aload_n hx hb dX12_findSpan_55 rfl (lv_at hl 1 rfl) ?_
            refine gM_12_65 hx hb ht hown hK hP m_1204 (v := w181_i_12_65) rfl dX12_findSpan_56 ?_
            refine pM_12_65 (v := w181_i_12_65) hx hb ht hown hK hP hD hS m_1204 dX12_findSpan_59 (fun H locs hP hD hS => ?_)
            have hP : va_P (dC, dI) classes (WM h g ca (u2 (u2 iv 12 65 w181_i_12_65) 12 66 w181_i_12_66) lv fa la) H := hP
            have hD : va_D A (WM h g ca (u2 (u2 iv 12 65 w181_i_12_65) 12 66 w181_i_12_66) lv fa la) := hD
            refine lv_aload_n hx hb dX12_findSpan_62 rfl (lv_at hl 1 rfl) ?_
            refine lv_aload_n hx hb dX12_findSpan_63 rfl (lv_at hl 1 rfl) ?_
            refine gM_12_64 hx hb ht hown hK hP m_1203 dX12_findSpan_64 ?_
            refine lv_iload_n hx hb dX12_findSpan_67 rfl (lv_at hl 0 rfl) ?_
            refine lM_12_64 hx hb hK hP (f := (fa 12 64)) rfl (vp_in_iff.mpr ⟨by omega, by omega⟩) dX12_findSpan_68 ?_
            refine lv_topi (fun v191 ev191 => ?_)
            refine lv_aload_n hx hb dX12_findSpan_69 rfl (lv_at hl 1 rfl) ?_
            refine gM_12_66 hx hb ht hown hK hP m_1205 (v := w181_i_12_66) rfl dX12_findSpan_70 ?_
            refine lv_icmp_ge (tgt := 85) hx hb dX12_findSpan_73 (by decide) (fun c192 => ?_) (fun c192 => ?_)
            · have fc192 := z_le (rfl : (w181_i_12_66).toInt = _) (rfl : (v191).toInt = _) c192
              refine lv_aload_n hx hb dX12_findSpan_85 rfl (lv_at hl 1 rfl) ?_
              refine gM_12_66 hx hb ht hown hK hP m_1205 (v := w181_i_12_66) rfl dX12_findSpan_86 ?_
              refine pM_12_66 (v := w181_i_12_66) hx hb ht hown hK hP hD hS m_1205 dX12_findSpan_89 (fun H locs hP hD hS => ?_)
              have hP : va_P (dC, dI) classes (WM h g ca (u2 (u2 iv 12 65 w181_i_12_65) 12 66 w181_i_12_66) lv fa la) H := hP
              have hD : va_D A (WM h g ca (u2 (u2 iv 12 65 w181_i_12_65) 12 66 w181_i_12_66) lv fa la) := hD
              obtain ⟨v193, ev193⟩ : ∃ y : Int32, y = x181_2 + 1 := ⟨_, rfl⟩
              have tv193 := z_add ev193 rfl (by decide : (1 : Int32).toInt = 1) (by omega) (by omega)
              refine lv_iinc (v := v193) (lv' := [(2, .int v193), (0, .ref h), (1, .int a)]) hx hb dX12_findSpan_92 hl (k := 0) rfl (by rw [ev193]; rfl) (by decide) rfl (fun ls hl => ?_)
              refine lv_goto (tgt := 16) hx hb dX12_findSpan_95 (by decide) ?_
              exact ih182 v193 w181_i_12_66 w181_i_12_65 ⟨by omega, by omega⟩ (by omega) _ _ ls hP hD hS (lv_sub hl [0, 1, 2] rfl)
            · have fc192 := z_nle (rfl : (w181_i_12_66).toInt = _) (rfl : (v191).toInt = _) c192
              refine lv_aload_n hx hb dX12_findSpan_76 rfl (lv_at hl 1 rfl) ?_
              refine gM_12_64 hx hb ht hown hK hP m_1203 dX12_findSpan_77 ?_
              refine lv_iload_n hx hb dX12_findSpan_80 rfl (lv_at hl 0 rfl) ?_
              refine lM_12_64 hx hb hK hP (f := (fa 12 64)) rfl (vp_in_iff.mpr ⟨by omega, by omega⟩) dX12_findSpan_81 ?_
              refine lv_topi (fun v194 ev194 => ?_)
              obtain rfl : v191 = v194 := ev191.trans ev194.symm
              refine lv_goto (tgt := 89) hx hb dX12_findSpan_82 (by decide) ?_
              refine pM_12_66 (v := v191) hx hb ht hown hK hP hD hS m_1205 dX12_findSpan_89 (fun H locs hP hD hS => ?_)
              have hP : va_P (dC, dI) classes (WM h g ca (u2 (u2 iv 12 65 w181_i_12_65) 12 66 v191) lv fa la) H := hP
              have hD : va_D A (WM h g ca (u2 (u2 iv 12 65 w181_i_12_65) 12 66 v191) lv fa la) := hD
              obtain ⟨v195, ev195⟩ : ∃ y : Int32, y = x181_2 + 1 := ⟨_, rfl⟩
              have tv195 := z_add ev195 rfl (by decide : (1 : Int32).toInt = 1) (by omega) (by omega)
              refine lv_iinc (v := v195) (lv' := [(2, .int v195), (0, .ref h), (1, .int a)]) hx hb dX12_findSpan_92 hl (k := 0) rfl (by rw [ev195]; rfl) (by decide) rfl (fun ls hl => ?_)
              refine lv_goto (tgt := 16) hx hb dX12_findSpan_95 (by decide) ?_
              exact ih182 v195 v191 w181_i_12_65 ⟨by omega, by omega⟩ (by omega) _ _ ls hP hD hS (lv_sub hl [0, 1, 2] rfl)
          · have fc190 := z_nle (rfl : (v189).toInt = _) (rfl : (w181_i_12_65).toInt = _) c190
            refine lv_aload_n hx hb dX12_findSpan_46 rfl (lv_at hl 1 rfl) ?_
            refine gM_12_63 hx hb ht hown hK hP m_1202 dX12_findSpan_47 ?_
            refine lv_iload_n hx hb dX12_findSpan_50 rfl (lv_at hl 0 rfl) ?_
            refine lM_12_63 hx hb hK hP (f := (fa 12 63)) rfl (vp_in_iff.mpr ⟨by omega, by omega⟩) dX12_findSpan_51 ?_
            refine lv_topi (fun v196 ev196 => ?_)
            obtain rfl : v189 = v196 := ev189.trans ev196.symm
            refine lv_goto (tgt := 59) hx hb dX12_findSpan_52 (by decide) ?_
            refine pM_12_65 (v := v189) hx hb ht hown hK hP hD hS m_1204 dX12_findSpan_59 (fun H locs hP hD hS => ?_)
            have hP : va_P (dC, dI) classes (WM h g ca (u2 (u2 iv 12 65 v189) 12 66 w181_i_12_66) lv fa la) H := hP
            have hD : va_D A (WM h g ca (u2 (u2 iv 12 65 v189) 12 66 w181_i_12_66) lv fa la) := hD
            refine lv_aload_n hx hb dX12_findSpan_62 rfl (lv_at hl 1 rfl) ?_
            refine lv_aload_n hx hb dX12_findSpan_63 rfl (lv_at hl 1 rfl) ?_
            refine gM_12_64 hx hb ht hown hK hP m_1203 dX12_findSpan_64 ?_
            refine lv_iload_n hx hb dX12_findSpan_67 rfl (lv_at hl 0 rfl) ?_
            refine lM_12_64 hx hb hK hP (f := (fa 12 64)) rfl (vp_in_iff.mpr ⟨by omega, by omega⟩) dX12_findSpan_68 ?_
            refine lv_topi (fun v197 ev197 => ?_)
            refine lv_aload_n hx hb dX12_findSpan_69 rfl (lv_at hl 1 rfl) ?_
            refine gM_12_66 hx hb ht hown hK hP m_1205 (v := w181_i_12_66) rfl dX12_findSpan_70 ?_
            refine lv_icmp_ge (tgt := 85) hx hb dX12_findSpan_73 (by decide) (fun c198 => ?_) (fun c198 => ?_)
            · have fc198 := z_le (rfl : (w181_i_12_66).toInt = _) (rfl : (v197).toInt = _) c198
              refine lv_aload_n hx hb dX12_findSpan_85 rfl (lv_at hl 1 rfl) ?_
              refine gM_12_66 hx hb ht hown hK hP m_1205 (v := w181_i_12_66) rfl dX12_findSpan_86 ?_
              refine pM_12_66 (v := w181_i_12_66) hx hb ht hown hK hP hD hS m_1205 dX12_findSpan_89 (fun H locs hP hD hS => ?_)
              have hP : va_P (dC, dI) classes (WM h g ca (u2 (u2 iv 12 65 v189) 12 66 w181_i_12_66) lv fa la) H := hP
              have hD : va_D A (WM h g ca (u2 (u2 iv 12 65 v189) 12 66 w181_i_12_66) lv fa la) := hD
              obtain ⟨v199, ev199⟩ : ∃ y : Int32, y = x181_2 + 1 := ⟨_, rfl⟩
              have tv199 := z_add ev199 rfl (by decide : (1 : Int32).toInt = 1) (by omega) (by omega)
              refine lv_iinc (v := v199) (lv' := [(2, .int v199), (0, .ref h), (1, .int a)]) hx hb dX12_findSpan_92 hl (k := 0) rfl (by rw [ev199]; rfl) (by decide) rfl (fun ls hl => ?_)
              refine lv_goto (tgt := 16) hx hb dX12_findSpan_95 (by decide) ?_
              exact ih182 v199 w181_i_12_66 v189 ⟨by omega, by omega⟩ (by omega) _ _ ls hP hD hS (lv_sub hl [0, 1, 2] rfl)
            · have fc198 := z_nle (rfl : (w181_i_12_66).toInt = _) (rfl : (v197).toInt = _) c198
              refine lv_aload_n hx hb dX12_findSpan_76 rfl (lv_at hl 1 rfl) ?_
              refine gM_12_64 hx hb ht hown hK hP m_1203 dX12_findSpan_77 ?_
              refine lv_iload_n hx hb dX12_findSpan_80 rfl (lv_at hl 0 rfl) ?_
              refine lM_12_64 hx hb hK hP (f := (fa 12 64)) rfl (vp_in_iff.mpr ⟨by omega, by omega⟩) dX12_findSpan_81 ?_
              refine lv_topi (fun v200 ev200 => ?_)
              obtain rfl : v197 = v200 := ev197.trans ev200.symm
              refine lv_goto (tgt := 89) hx hb dX12_findSpan_82 (by decide) ?_
              refine pM_12_66 (v := v197) hx hb ht hown hK hP hD hS m_1205 dX12_findSpan_89 (fun H locs hP hD hS => ?_)
              have hP : va_P (dC, dI) classes (WM h g ca (u2 (u2 iv 12 65 v189) 12 66 v197) lv fa la) H := hP
              have hD : va_D A (WM h g ca (u2 (u2 iv 12 65 v189) 12 66 v197) lv fa la) := hD
              obtain ⟨v201, ev201⟩ : ∃ y : Int32, y = x181_2 + 1 := ⟨_, rfl⟩
              have tv201 := z_add ev201 rfl (by decide : (1 : Int32).toInt = 1) (by omega) (by omega)
              refine lv_iinc (v := v201) (lv' := [(2, .int v201), (0, .ref h), (1, .int a)]) hx hb dX12_findSpan_92 hl (k := 0) rfl (by rw [ev201]; rfl) (by decide) rfl (fun ls hl => ?_)
              refine lv_goto (tgt := 16) hx hb dX12_findSpan_95 (by decide) ?_
              exact ih182 v201 v197 v189 ⟨by omega, by omega⟩ (by omega) _ _ ls hP hD hS (lv_sub hl [0, 1, 2] rfl)
  exact lp182 9 0 20000 (-20000) ⟨by decide, by decide⟩ (by first | decide | omega) _ _ ls hP hD hS (lv_sub hl [0, 1, 2] rfl)
set_option maxHeartbeats 4000000 in
set_option maxRecDepth 100000 in
/-- X12_ones -/
theorem c_X12_ones (l : Launch) (dC : Nat → ClassId) (dI : Nat → Nat → Nat) (a : Int32) : Met l yX12_ones (wc yX12_ones cX12_ones 3 (some .int)) ({ frames := 0, cells := 0, slots := 0, locals := 0 } : Room) (pR (dC, dI) classes [] [] [.int a]) (vp_Si (fun r => True)) 0 0 (fun _ => False) := by
  refine Met.ofW (cc := cX12_ones) (maxL := 3) (ret := (some .int)) (by decide) rfl ?_
  intro p e s m args below meth c s₁ B hml hv
  obtain ⟨rfl, hP, hK⟩ := hv
  have hx := B.exec
  have hb := B.bytes
  have hr := B.returns
  have ht := tb_tl (atoms_spec (ws := wc yX12_ones cX12_ones 3 (some .int)) B.pre)
  have hown : s.vm.findClass RX12 = some m.cls := findClass_of_methodNamed B.named
  have hlocks := B.notSynchronized
  have hl := lv_entry [.int a] (n := 3) (Nat.le_of_ble_eq_true rfl)
  rw [lg_entry_eq]
  generalize (lg_sl [.int a] ++ List.replicate (3 - (lg_sl [.int a]).length) Slot.unset).toArray = ls at hl ⊢
  have hl : lv_has ls 3 [(0, .int a)] := hl
  refine lv_iconst (v := 0) hx hb dX12_ones_0 (by decide) ?_
  refine lv_istore_n (lv' := [(1, .int 0), (0, .int a)]) hx hb dX12_ones_1 rfl hl (by decide) rfl (fun ls hl => ?_)
  refine lv_iconst (v := 0) hx hb dX12_ones_2 (by decide) ?_
  refine lv_istore_n (lv' := [(2, .int 0), (1, .int 0), (0, .int a)]) hx hb dX12_ones_3 rfl hl (by decide) rfl (fun ls hl => ?_)
  have lp92 : ∀ (nn92 : Nat) (x91_2 : Int32) (x91_1 : Int32), 0 ≤ x91_2.toInt ∧ x91_2.toInt ≤ 19 → 19 - x91_2.toInt < (nn92 : Int) → ∀ (ls : Array Slot), lv_has ls 3 [(2, .int x91_2), (1, .int x91_1), (0, .int a)] → W p l e ({ frames := 0, cells := 0, slots := 0, locals := 0 } : Room) s m ([.int a] : List Value).toArray below meth c s.heap [] 0 0 (MQ below (vp_Si (fun r => True)) ([.int a] : List Value).toArray s 0 0 (fun _ => False)) (F0 m 4 ls []) := by
    intro nn92
    induction nn92 with
    | zero => intro x91_2 x91_1 hx91_2 hm92; exfalso; omega
    | succ nn92 ih92 =>
      intro x91_2 x91_1 hx91_2 hm92 ls hl
      refine lv_iload_n hx hb dX12_ones_4 rfl (lv_at hl 0 rfl) ?_
      refine lv_bipush (v := 16) hx hb dX12_ones_5 (by decide) ?_
      refine lv_icmp_ge (tgt := 24) hx hb dX12_ones_7 (by decide) (fun c93 => ?_) (fun c93 => ?_)
      · have fc93 := z_le (by decide : (16 : Int32).toInt = 16) (rfl : (x91_2).toInt = _) c93
        refine lv_iload_n hx hb dX12_ones_24 rfl (lv_at hl 1 rfl) ?_
        exact W.iret (v := x91_1) hx hb hr (fun t ht9 hW => ⟨x91_1, rfl, trivial, ht9⟩) (fun q hq => by cases hq) dX12_ones_25
      · have fc93 := z_nle (by decide : (16 : Int32).toInt = 16) (rfl : (x91_2).toInt = _) c93
        refine lv_iload_n hx hb dX12_ones_10 rfl (lv_at hl 1 rfl) ?_
        refine lv_iload_n hx hb dX12_ones_11 rfl (lv_at hl 2 rfl) ?_
        refine lv_iload_n hx hb dX12_ones_12 rfl (lv_at hl 0 rfl) ?_
        refine lv_ishr hx hb dX12_ones_13 ?_
        refine lv_topi (fun v94 ev94 => ?_)
        refine lv_iconst (v := 1) hx hb dX12_ones_14 (by decide) ?_
        refine lv_iand hx hb dX12_ones_15 ?_
        refine lv_topi (fun v95 ev95 => ?_)
        refine lv_iadd hx hb dX12_ones_16 ?_
        refine lv_topi (fun v96 ev96 => ?_)
        refine lv_istore_n (lv' := [(1, .int v96), (2, .int x91_2), (0, .int a)]) hx hb dX12_ones_17 rfl hl (by decide) rfl (fun ls hl => ?_)
        obtain ⟨v97, ev97⟩ : ∃ y : Int32, y = x91_2 + 1 := ⟨_, rfl⟩
        have tv97 := z_add ev97 rfl (by decide : (1 : Int32).toInt = 1) (by omega) (by omega)
        refine lv_iinc (v := v97) (lv' := [(2, .int v97), (1, .int v96), (0, .int a)]) hx hb dX12_ones_18 hl (k := 1) rfl (by rw [ev97]; rfl) (by decide) rfl (fun ls hl => ?_)
        refine lv_goto (tgt := 4) hx hb dX12_ones_21 (by decide) ?_
        exact ih92 v97 v96 ⟨by omega, by omega⟩ (by omega) ls (lv_sub hl [0, 1, 2] rfl)
  exact lp92 20 0 0 ⟨by decide, by decide⟩ (by first | decide | omega) ls (lv_sub hl [0, 1, 2] rfl)
/-! ===== m7 ===== -/
set_option maxRecDepth 100000 in
theorem m_57 : Cond.selects RX12 yX12_isPast yX12_isPast ∈ tb := tb_in 57 (by decide +kernel) rfl
theorem m_1528 : Cond.methodLink RX12 350 yX12_isPast ∈ tb := mb_7_0 _ (List.mem_of_getElem? (i := 12) rfl)
theorem m_1530 : Cond.instanceMethod yX12_isPast ∈ tb := mb_7_0 _ (List.mem_of_getElem? (i := 13) rfl)
theorem m_1531 : Cond.code yX12_isPast cX12_isPast 2 (some .boolean) ∈ tb := mb_7_0 _ (List.mem_of_getElem? (i := 14) rfl)
theorem m_1561 : Cond.constantLong RX12 364 (-100002) ∈ tb := mb_7_1 _ (List.mem_of_getElem? (i := 15) rfl)
theorem hd_X12_isPast_v : yX12_isPast.cls = RX12 ∧ yX12_isPast.cls ≠ "java/lang/invoke/MethodHandle" ∧ yX12_isPast.cls ≠ "java/lang/invoke/VarHandle" ∧ (parseMethodDescriptor yX12_isPast.desc).map (fun d => d.parameters.length) = some 1 := by decide +kernel
set_option maxRecDepth 100000 in
theorem dvX12_cut_0 : ([(0, .aload_n 0, 1), (1, .iload_n 1, 1), (2, .invokevirtual 436, 3), (5, .ifCond .eq 6, 3), (8, .ldc 187, 2), (10, .ireturn, 1), (11, .iload_n 2, 1), (12, .iconst 1, 1), (13, .if_icmp .lt 23, 3), (16, .iload_n 3, 1), (17, .iconst 1, 1), (18, .if_icmp .lt 18, 3), (21, .iload_n 2, 1), (22, .i2l, 1), (23, .iload_n 3, 1), (24, .i2l, 1), (25, .ladd, 1), (26, .aload_n 0, 1), (27, .getfield 145, 3), (30, .iload_n 1, 1), (31, .laload, 1), (32, .lcmp, 1), (33, .ifCond .eq 6, 3), (36, .ldc 178, 2)] : List (Nat × Instr × Nat)).all (fun q => decide (decode cX12_cut q.1 = .ok (q.2.1, q.2.2))) = true := by decide +kernel
theorem dX12_cut_0 : decode cX12_cut 0 = .ok (.aload_n 0, 1) := all_at dvX12_cut_0 0 rfl
theorem dX12_cut_1 : decode cX12_cut 1 = .ok (.iload_n 1, 1) := all_at dvX12_cut_0 1 rfl
theorem dX12_cut_2 : decode cX12_cut 2 = .ok (.invokevirtual 436, 3) := all_at dvX12_cut_0 2 rfl
theorem dX12_cut_5 : decode cX12_cut 5 = .ok (.ifCond .eq 6, 3) := all_at dvX12_cut_0 3 rfl
theorem dX12_cut_8 : decode cX12_cut 8 = .ok (.ldc 187, 2) := all_at dvX12_cut_0 4 rfl
theorem dX12_cut_10 : decode cX12_cut 10 = .ok (.ireturn, 1) := all_at dvX12_cut_0 5 rfl
theorem dX12_cut_11 : decode cX12_cut 11 = .ok (.iload_n 2, 1) := all_at dvX12_cut_0 6 rfl
theorem dX12_cut_12 : decode cX12_cut 12 = .ok (.iconst 1, 1) := all_at dvX12_cut_0 7 rfl
theorem dX12_cut_13 : decode cX12_cut 13 = .ok (.if_icmp .lt 23, 3) := all_at dvX12_cut_0 8 rfl
theorem dX12_cut_16 : decode cX12_cut 16 = .ok (.iload_n 3, 1) := all_at dvX12_cut_0 9 rfl
theorem dX12_cut_17 : decode cX12_cut 17 = .ok (.iconst 1, 1) := all_at dvX12_cut_0 10 rfl
theorem dX12_cut_18 : decode cX12_cut 18 = .ok (.if_icmp .lt 18, 3) := all_at dvX12_cut_0 11 rfl
theorem dX12_cut_21 : decode cX12_cut 21 = .ok (.iload_n 2, 1) := all_at dvX12_cut_0 12 rfl
theorem dX12_cut_22 : decode cX12_cut 22 = .ok (.i2l, 1) := all_at dvX12_cut_0 13 rfl
theorem dX12_cut_23 : decode cX12_cut 23 = .ok (.iload_n 3, 1) := all_at dvX12_cut_0 14 rfl
theorem dX12_cut_24 : decode cX12_cut 24 = .ok (.i2l, 1) := all_at dvX12_cut_0 15 rfl
theorem dX12_cut_25 : decode cX12_cut 25 = .ok (.ladd, 1) := all_at dvX12_cut_0 16 rfl
theorem dX12_cut_26 : decode cX12_cut 26 = .ok (.aload_n 0, 1) := all_at dvX12_cut_0 17 rfl
theorem dX12_cut_27 : decode cX12_cut 27 = .ok (.getfield 145, 3) := all_at dvX12_cut_0 18 rfl
theorem dX12_cut_30 : decode cX12_cut 30 = .ok (.iload_n 1, 1) := all_at dvX12_cut_0 19 rfl
theorem dX12_cut_31 : decode cX12_cut 31 = .ok (.laload, 1) := all_at dvX12_cut_0 20 rfl
theorem dX12_cut_32 : decode cX12_cut 32 = .ok (.lcmp, 1) := all_at dvX12_cut_0 21 rfl
theorem dX12_cut_33 : decode cX12_cut 33 = .ok (.ifCond .eq 6, 3) := all_at dvX12_cut_0 22 rfl
theorem dX12_cut_36 : decode cX12_cut 36 = .ok (.ldc 178, 2) := all_at dvX12_cut_0 23 rfl
set_option maxRecDepth 100000 in
theorem dvX12_cut_38 : ([(38, .ireturn, 1), (39, .iconst 0, 1), (40, .istore 4, 2), (42, .iconst 0, 1), (43, .istore 5, 2), (45, .iload 5, 2), (47, .aload_n 0, 1), (48, .getfield 429, 3), (51, .if_icmp .ge 53, 3), (54, .iload 4, 2), (56, .ifCond .ne 35, 3), (59, .aload_n 0, 1), (60, .getfield 148, 3), (63, .iload 5, 2), (65, .iaload, 1), (66, .iload_n 1, 1), (67, .if_icmp .ne 28, 3), (70, .aload_n 0, 1), (71, .getfield 139, 3), (74, .iload 5, 2), (76, .iaload, 1), (77, .iconst 1, 1), (78, .if_icmp .ne 17, 3), (81, .aload_n 0, 1)] : List (Nat × Instr × Nat)).all (fun q => decide (decode cX12_cut q.1 = .ok (q.2.1, q.2.2))) = true := by decide +kernel
theorem dX12_cut_38 : decode cX12_cut 38 = .ok (.ireturn, 1) := all_at dvX12_cut_38 0 rfl
theorem dX12_cut_39 : decode cX12_cut 39 = .ok (.iconst 0, 1) := all_at dvX12_cut_38 1 rfl
theorem dX12_cut_40 : decode cX12_cut 40 = .ok (.istore 4, 2) := all_at dvX12_cut_38 2 rfl
theorem dX12_cut_42 : decode cX12_cut 42 = .ok (.iconst 0, 1) := all_at dvX12_cut_38 3 rfl
theorem dX12_cut_43 : decode cX12_cut 43 = .ok (.istore 5, 2) := all_at dvX12_cut_38 4 rfl
theorem dX12_cut_45 : decode cX12_cut 45 = .ok (.iload 5, 2) := all_at dvX12_cut_38 5 rfl
theorem dX12_cut_47 : decode cX12_cut 47 = .ok (.aload_n 0, 1) := all_at dvX12_cut_38 6 rfl
theorem dX12_cut_48 : decode cX12_cut 48 = .ok (.getfield 429, 3) := all_at dvX12_cut_38 7 rfl
theorem dX12_cut_51 : decode cX12_cut 51 = .ok (.if_icmp .ge 53, 3) := all_at dvX12_cut_38 8 rfl
theorem dX12_cut_54 : decode cX12_cut 54 = .ok (.iload 4, 2) := all_at dvX12_cut_38 9 rfl
theorem dX12_cut_56 : decode cX12_cut 56 = .ok (.ifCond .ne 35, 3) := all_at dvX12_cut_38 10 rfl
theorem dX12_cut_59 : decode cX12_cut 59 = .ok (.aload_n 0, 1) := all_at dvX12_cut_38 11 rfl
theorem dX12_cut_60 : decode cX12_cut 60 = .ok (.getfield 148, 3) := all_at dvX12_cut_38 12 rfl
theorem dX12_cut_63 : decode cX12_cut 63 = .ok (.iload 5, 2) := all_at dvX12_cut_38 13 rfl
theorem dX12_cut_65 : decode cX12_cut 65 = .ok (.iaload, 1) := all_at dvX12_cut_38 14 rfl
theorem dX12_cut_66 : decode cX12_cut 66 = .ok (.iload_n 1, 1) := all_at dvX12_cut_38 15 rfl
theorem dX12_cut_67 : decode cX12_cut 67 = .ok (.if_icmp .ne 28, 3) := all_at dvX12_cut_38 16 rfl
theorem dX12_cut_70 : decode cX12_cut 70 = .ok (.aload_n 0, 1) := all_at dvX12_cut_38 17 rfl
theorem dX12_cut_71 : decode cX12_cut 71 = .ok (.getfield 139, 3) := all_at dvX12_cut_38 18 rfl
theorem dX12_cut_74 : decode cX12_cut 74 = .ok (.iload 5, 2) := all_at dvX12_cut_38 19 rfl
theorem dX12_cut_76 : decode cX12_cut 76 = .ok (.iaload, 1) := all_at dvX12_cut_38 20 rfl
theorem dX12_cut_77 : decode cX12_cut 77 = .ok (.iconst 1, 1) := all_at dvX12_cut_38 21 rfl
theorem dX12_cut_78 : decode cX12_cut 78 = .ok (.if_icmp .ne 17, 3) := all_at dvX12_cut_38 22 rfl
theorem dX12_cut_81 : decode cX12_cut 81 = .ok (.aload_n 0, 1) := all_at dvX12_cut_38 23 rfl
set_option maxRecDepth 100000 in
theorem dvX12_cut_82 : ([(82, .getfield 154, 3), (85, .iload 5, 2), (87, .iaload, 1), (88, .ifCond .ge 7, 3), (91, .iconst 1, 1), (92, .goto 4, 3), (95, .iconst 0, 1), (96, .istore 4, 2), (98, .iinc 5 1, 3), (101, .goto (-56), 3), (104, .aload_n 0, 1), (105, .iload_n 1, 1), (106, .invokevirtual 439, 3), (109, .ifCond .eq 8, 3), (112, .iload 4, 2), (114, .ifCond .eq 6, 3), (117, .ldc 179, 2), (119, .ireturn, 1), (120, .aload_n 0, 1), (121, .getfield 429, 3), (124, .iconst 2, 1), (125, .iadd, 1), (126, .bipush 40, 2), (128, .if_icmp .le 6, 3)] : List (Nat × Instr × Nat)).all (fun q => decide (decode cX12_cut q.1 = .ok (q.2.1, q.2.2))) = true := by decide +kernel
theorem dX12_cut_82 : decode cX12_cut 82 = .ok (.getfield 154, 3) := all_at dvX12_cut_82 0 rfl
theorem dX12_cut_85 : decode cX12_cut 85 = .ok (.iload 5, 2) := all_at dvX12_cut_82 1 rfl
theorem dX12_cut_87 : decode cX12_cut 87 = .ok (.iaload, 1) := all_at dvX12_cut_82 2 rfl
theorem dX12_cut_88 : decode cX12_cut 88 = .ok (.ifCond .ge 7, 3) := all_at dvX12_cut_82 3 rfl
theorem dX12_cut_91 : decode cX12_cut 91 = .ok (.iconst 1, 1) := all_at dvX12_cut_82 4 rfl
theorem dX12_cut_92 : decode cX12_cut 92 = .ok (.goto 4, 3) := all_at dvX12_cut_82 5 rfl
theorem dX12_cut_95 : decode cX12_cut 95 = .ok (.iconst 0, 1) := all_at dvX12_cut_82 6 rfl
theorem dX12_cut_96 : decode cX12_cut 96 = .ok (.istore 4, 2) := all_at dvX12_cut_82 7 rfl
theorem dX12_cut_98 : decode cX12_cut 98 = .ok (.iinc 5 1, 3) := all_at dvX12_cut_82 8 rfl
theorem dX12_cut_101 : decode cX12_cut 101 = .ok (.goto (-56), 3) := all_at dvX12_cut_82 9 rfl
theorem dX12_cut_104 : decode cX12_cut 104 = .ok (.aload_n 0, 1) := all_at dvX12_cut_82 10 rfl
theorem dX12_cut_105 : decode cX12_cut 105 = .ok (.iload_n 1, 1) := all_at dvX12_cut_82 11 rfl
theorem dX12_cut_106 : decode cX12_cut 106 = .ok (.invokevirtual 439, 3) := all_at dvX12_cut_82 12 rfl
theorem dX12_cut_109 : decode cX12_cut 109 = .ok (.ifCond .eq 8, 3) := all_at dvX12_cut_82 13 rfl
theorem dX12_cut_112 : decode cX12_cut 112 = .ok (.iload 4, 2) := all_at dvX12_cut_82 14 rfl
theorem dX12_cut_114 : decode cX12_cut 114 = .ok (.ifCond .eq 6, 3) := all_at dvX12_cut_82 15 rfl
theorem dX12_cut_117 : decode cX12_cut 117 = .ok (.ldc 179, 2) := all_at dvX12_cut_82 16 rfl
theorem dX12_cut_119 : decode cX12_cut 119 = .ok (.ireturn, 1) := all_at dvX12_cut_82 17 rfl
theorem dX12_cut_120 : decode cX12_cut 120 = .ok (.aload_n 0, 1) := all_at dvX12_cut_82 18 rfl
theorem dX12_cut_121 : decode cX12_cut 121 = .ok (.getfield 429, 3) := all_at dvX12_cut_82 19 rfl
theorem dX12_cut_124 : decode cX12_cut 124 = .ok (.iconst 2, 1) := all_at dvX12_cut_82 20 rfl
theorem dX12_cut_125 : decode cX12_cut 125 = .ok (.iadd, 1) := all_at dvX12_cut_82 21 rfl
theorem dX12_cut_126 : decode cX12_cut 126 = .ok (.bipush 40, 2) := all_at dvX12_cut_82 22 rfl
theorem dX12_cut_128 : decode cX12_cut 128 = .ok (.if_icmp .le 6, 3) := all_at dvX12_cut_82 23 rfl
set_option maxRecDepth 100000 in
theorem dvX12_cut_131 : ([(131, .ldc 182, 2), (133, .ireturn, 1), (134, .aload_n 0, 1), (135, .getfield 154, 3), (138, .iload_n 1, 1), (139, .aload_n 0, 1), (140, .getfield 171, 3), (143, .iastore, 1), (144, .aload_n 0, 1), (145, .iconst 0, 1), (146, .aload_n 0, 1), (147, .getfield 142, 3), (150, .iload_n 1, 1), (151, .iaload, 1), (152, .iload_n 2, 1), (153, .i2l, 1), (154, .iload_n 1, 1), (155, .iconst 0, 1), (156, .invokevirtual 432, 3), (159, .aload_n 0, 1), (160, .iconst 0, 1), (161, .aload_n 0, 1), (162, .getfield 142, 3), (165, .iload_n 1, 1)] : List (Nat × Instr × Nat)).all (fun q => decide (decode cX12_cut q.1 = .ok (q.2.1, q.2.2))) = true := by decide +kernel
theorem dX12_cut_131 : decode cX12_cut 131 = .ok (.ldc 182, 2) := all_at dvX12_cut_131 0 rfl
theorem dX12_cut_133 : decode cX12_cut 133 = .ok (.ireturn, 1) := all_at dvX12_cut_131 1 rfl
theorem dX12_cut_134 : decode cX12_cut 134 = .ok (.aload_n 0, 1) := all_at dvX12_cut_131 2 rfl
theorem dX12_cut_135 : decode cX12_cut 135 = .ok (.getfield 154, 3) := all_at dvX12_cut_131 3 rfl
theorem dX12_cut_138 : decode cX12_cut 138 = .ok (.iload_n 1, 1) := all_at dvX12_cut_131 4 rfl
theorem dX12_cut_139 : decode cX12_cut 139 = .ok (.aload_n 0, 1) := all_at dvX12_cut_131 5 rfl
theorem dX12_cut_140 : decode cX12_cut 140 = .ok (.getfield 171, 3) := all_at dvX12_cut_131 6 rfl
theorem dX12_cut_143 : decode cX12_cut 143 = .ok (.iastore, 1) := all_at dvX12_cut_131 7 rfl
theorem dX12_cut_144 : decode cX12_cut 144 = .ok (.aload_n 0, 1) := all_at dvX12_cut_131 8 rfl
theorem dX12_cut_145 : decode cX12_cut 145 = .ok (.iconst 0, 1) := all_at dvX12_cut_131 9 rfl
theorem dX12_cut_146 : decode cX12_cut 146 = .ok (.aload_n 0, 1) := all_at dvX12_cut_131 10 rfl
theorem dX12_cut_147 : decode cX12_cut 147 = .ok (.getfield 142, 3) := all_at dvX12_cut_131 11 rfl
theorem dX12_cut_150 : decode cX12_cut 150 = .ok (.iload_n 1, 1) := all_at dvX12_cut_131 12 rfl
theorem dX12_cut_151 : decode cX12_cut 151 = .ok (.iaload, 1) := all_at dvX12_cut_131 13 rfl
theorem dX12_cut_152 : decode cX12_cut 152 = .ok (.iload_n 2, 1) := all_at dvX12_cut_131 14 rfl
theorem dX12_cut_153 : decode cX12_cut 153 = .ok (.i2l, 1) := all_at dvX12_cut_131 15 rfl
theorem dX12_cut_154 : decode cX12_cut 154 = .ok (.iload_n 1, 1) := all_at dvX12_cut_131 16 rfl
theorem dX12_cut_155 : decode cX12_cut 155 = .ok (.iconst 0, 1) := all_at dvX12_cut_131 17 rfl
theorem dX12_cut_156 : decode cX12_cut 156 = .ok (.invokevirtual 432, 3) := all_at dvX12_cut_131 18 rfl
theorem dX12_cut_159 : decode cX12_cut 159 = .ok (.aload_n 0, 1) := all_at dvX12_cut_131 19 rfl
theorem dX12_cut_160 : decode cX12_cut 160 = .ok (.iconst 0, 1) := all_at dvX12_cut_131 20 rfl
theorem dX12_cut_161 : decode cX12_cut 161 = .ok (.aload_n 0, 1) := all_at dvX12_cut_131 21 rfl
theorem dX12_cut_162 : decode cX12_cut 162 = .ok (.getfield 142, 3) := all_at dvX12_cut_131 22 rfl
theorem dX12_cut_165 : decode cX12_cut 165 = .ok (.iload_n 1, 1) := all_at dvX12_cut_131 23 rfl
set_option maxRecDepth 100000 in
theorem dvX12_cut_166 : ([(166, .iaload, 1), (167, .iload_n 3, 1), (168, .i2l, 1), (169, .iload_n 1, 1), (170, .iconst 0, 1), (171, .invokevirtual 432, 3), (174, .aload_n 0, 1), (175, .getfield 429, 3), (178, .iconst 2, 1), (179, .isub, 1), (180, .ireturn, 1)] : List (Nat × Instr × Nat)).all (fun q => decide (decode cX12_cut q.1 = .ok (q.2.1, q.2.2))) = true := by decide +kernel
theorem dX12_cut_166 : decode cX12_cut 166 = .ok (.iaload, 1) := all_at dvX12_cut_166 0 rfl
theorem dX12_cut_167 : decode cX12_cut 167 = .ok (.iload_n 3, 1) := all_at dvX12_cut_166 1 rfl
theorem dX12_cut_168 : decode cX12_cut 168 = .ok (.i2l, 1) := all_at dvX12_cut_166 2 rfl
theorem dX12_cut_169 : decode cX12_cut 169 = .ok (.iload_n 1, 1) := all_at dvX12_cut_166 3 rfl
theorem dX12_cut_170 : decode cX12_cut 170 = .ok (.iconst 0, 1) := all_at dvX12_cut_166 4 rfl
theorem dX12_cut_171 : decode cX12_cut 171 = .ok (.invokevirtual 432, 3) := all_at dvX12_cut_166 5 rfl
theorem dX12_cut_174 : decode cX12_cut 174 = .ok (.aload_n 0, 1) := all_at dvX12_cut_166 6 rfl
theorem dX12_cut_175 : decode cX12_cut 175 = .ok (.getfield 429, 3) := all_at dvX12_cut_166 7 rfl
theorem dX12_cut_178 : decode cX12_cut 178 = .ok (.iconst 2, 1) := all_at dvX12_cut_166 8 rfl
theorem dX12_cut_179 : decode cX12_cut 179 = .ok (.isub, 1) := all_at dvX12_cut_166 9 rfl
theorem dX12_cut_180 : decode cX12_cut 180 = .ok (.ireturn, 1) := all_at dvX12_cut_166 10 rfl
set_option maxRecDepth 100000 in
theorem dvX12_paper_0 : ([(0, .aload_n 0, 1), (1, .iload_n 1, 1), (2, .invokevirtual 436, 3), (5, .ifCond .eq 6, 3), (8, .ldc 187, 2), (10, .ireturn, 1), (11, .iconst 0, 1), (12, .istore_n 3, 1), (13, .iconst 0, 1), (14, .istore 4, 2), (16, .iload 4, 2), (18, .aload_n 0, 1), (19, .getfield 429, 3), (22, .if_icmp .ge 31, 3), (25, .iload_n 3, 1), (26, .aload_n 0, 1), (27, .getfield 148, 3), (30, .iload 4, 2), (32, .iaload, 1), (33, .iload_n 1, 1), (34, .if_icmp .ne 7, 3), (37, .iconst 1, 1), (38, .goto 4, 3), (41, .iconst 0, 1)] : List (Nat × Instr × Nat)).all (fun q => decide (decode cX12_paper q.1 = .ok (q.2.1, q.2.2))) = true := by decide +kernel
theorem dX12_paper_0 : decode cX12_paper 0 = .ok (.aload_n 0, 1) := all_at dvX12_paper_0 0 rfl
theorem dX12_paper_1 : decode cX12_paper 1 = .ok (.iload_n 1, 1) := all_at dvX12_paper_0 1 rfl
theorem dX12_paper_2 : decode cX12_paper 2 = .ok (.invokevirtual 436, 3) := all_at dvX12_paper_0 2 rfl
theorem dX12_paper_5 : decode cX12_paper 5 = .ok (.ifCond .eq 6, 3) := all_at dvX12_paper_0 3 rfl
theorem dX12_paper_8 : decode cX12_paper 8 = .ok (.ldc 187, 2) := all_at dvX12_paper_0 4 rfl
theorem dX12_paper_10 : decode cX12_paper 10 = .ok (.ireturn, 1) := all_at dvX12_paper_0 5 rfl
theorem dX12_paper_11 : decode cX12_paper 11 = .ok (.iconst 0, 1) := all_at dvX12_paper_0 6 rfl
theorem dX12_paper_12 : decode cX12_paper 12 = .ok (.istore_n 3, 1) := all_at dvX12_paper_0 7 rfl
theorem dX12_paper_13 : decode cX12_paper 13 = .ok (.iconst 0, 1) := all_at dvX12_paper_0 8 rfl
theorem dX12_paper_14 : decode cX12_paper 14 = .ok (.istore 4, 2) := all_at dvX12_paper_0 9 rfl
theorem dX12_paper_16 : decode cX12_paper 16 = .ok (.iload 4, 2) := all_at dvX12_paper_0 10 rfl
theorem dX12_paper_18 : decode cX12_paper 18 = .ok (.aload_n 0, 1) := all_at dvX12_paper_0 11 rfl
theorem dX12_paper_19 : decode cX12_paper 19 = .ok (.getfield 429, 3) := all_at dvX12_paper_0 12 rfl
theorem dX12_paper_22 : decode cX12_paper 22 = .ok (.if_icmp .ge 31, 3) := all_at dvX12_paper_0 13 rfl
theorem dX12_paper_25 : decode cX12_paper 25 = .ok (.iload_n 3, 1) := all_at dvX12_paper_0 14 rfl
theorem dX12_paper_26 : decode cX12_paper 26 = .ok (.aload_n 0, 1) := all_at dvX12_paper_0 15 rfl
theorem dX12_paper_27 : decode cX12_paper 27 = .ok (.getfield 148, 3) := all_at dvX12_paper_0 16 rfl
theorem dX12_paper_30 : decode cX12_paper 30 = .ok (.iload 4, 2) := all_at dvX12_paper_0 17 rfl
theorem dX12_paper_32 : decode cX12_paper 32 = .ok (.iaload, 1) := all_at dvX12_paper_0 18 rfl
theorem dX12_paper_33 : decode cX12_paper 33 = .ok (.iload_n 1, 1) := all_at dvX12_paper_0 19 rfl
theorem dX12_paper_34 : decode cX12_paper 34 = .ok (.if_icmp .ne 7, 3) := all_at dvX12_paper_0 20 rfl
theorem dX12_paper_37 : decode cX12_paper 37 = .ok (.iconst 1, 1) := all_at dvX12_paper_0 21 rfl
theorem dX12_paper_38 : decode cX12_paper 38 = .ok (.goto 4, 3) := all_at dvX12_paper_0 22 rfl
theorem dX12_paper_41 : decode cX12_paper 41 = .ok (.iconst 0, 1) := all_at dvX12_paper_0 23 rfl
set_option maxRecDepth 100000 in
theorem dvX12_paper_42 : ([(42, .invokestatic 203, 3), (45, .iadd, 1), (46, .istore_n 3, 1), (47, .iinc 4 1, 3), (50, .goto (-34), 3), (53, .iload_n 2, 1), (54, .tableswitch 87 0 6 #[42, 49, 56, 64, 71, 78, 85], 42), (96, .aload_n 0, 1), (97, .getfield 139, 3), (100, .iload_n 1, 1), (101, .iaload, 1), (102, .ireturn, 1), (103, .aload_n 0, 1), (104, .getfield 142, 3), (107, .iload_n 1, 1), (108, .iaload, 1), (109, .ireturn, 1), (110, .aload_n 0, 1), (111, .getfield 145, 3), (114, .iload_n 1, 1), (115, .laload, 1), (116, .l2i, 1), (117, .ireturn, 1), (118, .aload_n 0, 1)] : List (Nat × Instr × Nat)).all (fun q => decide (decode cX12_paper q.1 = .ok (q.2.1, q.2.2))) = true := by decide +kernel
theorem dX12_paper_42 : decode cX12_paper 42 = .ok (.invokestatic 203, 3) := all_at dvX12_paper_42 0 rfl
theorem dX12_paper_45 : decode cX12_paper 45 = .ok (.iadd, 1) := all_at dvX12_paper_42 1 rfl
theorem dX12_paper_46 : decode cX12_paper 46 = .ok (.istore_n 3, 1) := all_at dvX12_paper_42 2 rfl
theorem dX12_paper_47 : decode cX12_paper 47 = .ok (.iinc 4 1, 3) := all_at dvX12_paper_42 3 rfl
theorem dX12_paper_50 : decode cX12_paper 50 = .ok (.goto (-34), 3) := all_at dvX12_paper_42 4 rfl
theorem dX12_paper_53 : decode cX12_paper 53 = .ok (.iload_n 2, 1) := all_at dvX12_paper_42 5 rfl
theorem dX12_paper_54 : decode cX12_paper 54 = .ok (.tableswitch 87 0 6 #[42, 49, 56, 64, 71, 78, 85], 42) := all_at dvX12_paper_42 6 rfl
theorem dX12_paper_96 : decode cX12_paper 96 = .ok (.aload_n 0, 1) := all_at dvX12_paper_42 7 rfl
theorem dX12_paper_97 : decode cX12_paper 97 = .ok (.getfield 139, 3) := all_at dvX12_paper_42 8 rfl
theorem dX12_paper_100 : decode cX12_paper 100 = .ok (.iload_n 1, 1) := all_at dvX12_paper_42 9 rfl
theorem dX12_paper_101 : decode cX12_paper 101 = .ok (.iaload, 1) := all_at dvX12_paper_42 10 rfl
theorem dX12_paper_102 : decode cX12_paper 102 = .ok (.ireturn, 1) := all_at dvX12_paper_42 11 rfl
theorem dX12_paper_103 : decode cX12_paper 103 = .ok (.aload_n 0, 1) := all_at dvX12_paper_42 12 rfl
theorem dX12_paper_104 : decode cX12_paper 104 = .ok (.getfield 142, 3) := all_at dvX12_paper_42 13 rfl
theorem dX12_paper_107 : decode cX12_paper 107 = .ok (.iload_n 1, 1) := all_at dvX12_paper_42 14 rfl
theorem dX12_paper_108 : decode cX12_paper 108 = .ok (.iaload, 1) := all_at dvX12_paper_42 15 rfl
theorem dX12_paper_109 : decode cX12_paper 109 = .ok (.ireturn, 1) := all_at dvX12_paper_42 16 rfl
theorem dX12_paper_110 : decode cX12_paper 110 = .ok (.aload_n 0, 1) := all_at dvX12_paper_42 17 rfl
theorem dX12_paper_111 : decode cX12_paper 111 = .ok (.getfield 145, 3) := all_at dvX12_paper_42 18 rfl
theorem dX12_paper_114 : decode cX12_paper 114 = .ok (.iload_n 1, 1) := all_at dvX12_paper_42 19 rfl
theorem dX12_paper_115 : decode cX12_paper 115 = .ok (.laload, 1) := all_at dvX12_paper_42 20 rfl
theorem dX12_paper_116 : decode cX12_paper 116 = .ok (.l2i, 1) := all_at dvX12_paper_42 21 rfl
theorem dX12_paper_117 : decode cX12_paper 117 = .ok (.ireturn, 1) := all_at dvX12_paper_42 22 rfl
theorem dX12_paper_118 : decode cX12_paper 118 = .ok (.aload_n 0, 1) := all_at dvX12_paper_42 23 rfl
set_option maxRecDepth 100000 in
theorem dvX12_paper_119 : ([(119, .getfield 148, 3), (122, .iload_n 1, 1), (123, .iaload, 1), (124, .ireturn, 1), (125, .aload_n 0, 1), (126, .getfield 151, 3), (129, .iload_n 1, 1), (130, .iaload, 1), (131, .ireturn, 1), (132, .aload_n 0, 1), (133, .getfield 154, 3), (136, .iload_n 1, 1), (137, .iaload, 1), (138, .ireturn, 1), (139, .iload_n 3, 1), (140, .ireturn, 1), (141, .ldc 178, 2), (143, .ireturn, 1)] : List (Nat × Instr × Nat)).all (fun q => decide (decode cX12_paper q.1 = .ok (q.2.1, q.2.2))) = true := by decide +kernel
theorem dX12_paper_119 : decode cX12_paper 119 = .ok (.getfield 148, 3) := all_at dvX12_paper_119 0 rfl
theorem dX12_paper_122 : decode cX12_paper 122 = .ok (.iload_n 1, 1) := all_at dvX12_paper_119 1 rfl
theorem dX12_paper_123 : decode cX12_paper 123 = .ok (.iaload, 1) := all_at dvX12_paper_119 2 rfl
theorem dX12_paper_124 : decode cX12_paper 124 = .ok (.ireturn, 1) := all_at dvX12_paper_119 3 rfl
theorem dX12_paper_125 : decode cX12_paper 125 = .ok (.aload_n 0, 1) := all_at dvX12_paper_119 4 rfl
theorem dX12_paper_126 : decode cX12_paper 126 = .ok (.getfield 151, 3) := all_at dvX12_paper_119 5 rfl
theorem dX12_paper_129 : decode cX12_paper 129 = .ok (.iload_n 1, 1) := all_at dvX12_paper_119 6 rfl
theorem dX12_paper_130 : decode cX12_paper 130 = .ok (.iaload, 1) := all_at dvX12_paper_119 7 rfl
theorem dX12_paper_131 : decode cX12_paper 131 = .ok (.ireturn, 1) := all_at dvX12_paper_119 8 rfl
theorem dX12_paper_132 : decode cX12_paper 132 = .ok (.aload_n 0, 1) := all_at dvX12_paper_119 9 rfl
theorem dX12_paper_133 : decode cX12_paper 133 = .ok (.getfield 154, 3) := all_at dvX12_paper_119 10 rfl
theorem dX12_paper_136 : decode cX12_paper 136 = .ok (.iload_n 1, 1) := all_at dvX12_paper_119 11 rfl
theorem dX12_paper_137 : decode cX12_paper 137 = .ok (.iaload, 1) := all_at dvX12_paper_119 12 rfl
theorem dX12_paper_138 : decode cX12_paper 138 = .ok (.ireturn, 1) := all_at dvX12_paper_119 13 rfl
theorem dX12_paper_139 : decode cX12_paper 139 = .ok (.iload_n 3, 1) := all_at dvX12_paper_119 14 rfl
theorem dX12_paper_140 : decode cX12_paper 140 = .ok (.ireturn, 1) := all_at dvX12_paper_119 15 rfl
theorem dX12_paper_141 : decode cX12_paper 141 = .ok (.ldc 178, 2) := all_at dvX12_paper_119 16 rfl
theorem dX12_paper_143 : decode cX12_paper 143 = .ok (.ireturn, 1) := all_at dvX12_paper_119 17 rfl
set_option maxRecDepth 100000 in
theorem dvX12_stood_0 : ([(0, .aload_n 0, 1), (1, .iload_n 1, 1), (2, .invokevirtual 350, 3), (5, .ifCond .eq 13, 3), (8, .iload_n 2, 1), (9, .i2l, 1), (10, .lconst 0, 1), (11, .lconst 1, 1), (12, .invokestatic 167, 3), (15, .ifCond .ne 7, 3), (18, .ldc2_w 364, 3), (21, .lreturn, 1), (22, .lconst 0, 1), (23, .lstore_n 3, 1), (24, .iconst 0, 1), (25, .istore 5, 2), (27, .iload 5, 2), (29, .aload_n 0, 1), (30, .getfield 429, 3), (33, .if_icmp .ge 80, 3), (36, .aload_n 0, 1), (37, .getfield 151, 3), (40, .iload 5, 2), (42, .iaload, 1)] : List (Nat × Instr × Nat)).all (fun q => decide (decode cX12_stood q.1 = .ok (q.2.1, q.2.2))) = true := by decide +kernel
theorem dX12_stood_0 : decode cX12_stood 0 = .ok (.aload_n 0, 1) := all_at dvX12_stood_0 0 rfl
theorem dX12_stood_1 : decode cX12_stood 1 = .ok (.iload_n 1, 1) := all_at dvX12_stood_0 1 rfl
theorem dX12_stood_2 : decode cX12_stood 2 = .ok (.invokevirtual 350, 3) := all_at dvX12_stood_0 2 rfl
theorem dX12_stood_5 : decode cX12_stood 5 = .ok (.ifCond .eq 13, 3) := all_at dvX12_stood_0 3 rfl
theorem dX12_stood_8 : decode cX12_stood 8 = .ok (.iload_n 2, 1) := all_at dvX12_stood_0 4 rfl
theorem dX12_stood_9 : decode cX12_stood 9 = .ok (.i2l, 1) := all_at dvX12_stood_0 5 rfl
theorem dX12_stood_10 : decode cX12_stood 10 = .ok (.lconst 0, 1) := all_at dvX12_stood_0 6 rfl
theorem dX12_stood_11 : decode cX12_stood 11 = .ok (.lconst 1, 1) := all_at dvX12_stood_0 7 rfl
theorem dX12_stood_12 : decode cX12_stood 12 = .ok (.invokestatic 167, 3) := all_at dvX12_stood_0 8 rfl
theorem dX12_stood_15 : decode cX12_stood 15 = .ok (.ifCond .ne 7, 3) := all_at dvX12_stood_0 9 rfl
theorem dX12_stood_18 : decode cX12_stood 18 = .ok (.ldc2_w 364, 3) := all_at dvX12_stood_0 10 rfl
theorem dX12_stood_21 : decode cX12_stood 21 = .ok (.lreturn, 1) := all_at dvX12_stood_0 11 rfl
theorem dX12_stood_22 : decode cX12_stood 22 = .ok (.lconst 0, 1) := all_at dvX12_stood_0 12 rfl
theorem dX12_stood_23 : decode cX12_stood 23 = .ok (.lstore_n 3, 1) := all_at dvX12_stood_0 13 rfl
theorem dX12_stood_24 : decode cX12_stood 24 = .ok (.iconst 0, 1) := all_at dvX12_stood_0 14 rfl
theorem dX12_stood_25 : decode cX12_stood 25 = .ok (.istore 5, 2) := all_at dvX12_stood_0 15 rfl
theorem dX12_stood_27 : decode cX12_stood 27 = .ok (.iload 5, 2) := all_at dvX12_stood_0 16 rfl
theorem dX12_stood_29 : decode cX12_stood 29 = .ok (.aload_n 0, 1) := all_at dvX12_stood_0 17 rfl
theorem dX12_stood_30 : decode cX12_stood 30 = .ok (.getfield 429, 3) := all_at dvX12_stood_0 18 rfl
theorem dX12_stood_33 : decode cX12_stood 33 = .ok (.if_icmp .ge 80, 3) := all_at dvX12_stood_0 19 rfl
theorem dX12_stood_36 : decode cX12_stood 36 = .ok (.aload_n 0, 1) := all_at dvX12_stood_0 20 rfl
theorem dX12_stood_37 : decode cX12_stood 37 = .ok (.getfield 151, 3) := all_at dvX12_stood_0 21 rfl
theorem dX12_stood_40 : decode cX12_stood 40 = .ok (.iload 5, 2) := all_at dvX12_stood_0 22 rfl
theorem dX12_stood_42 : decode cX12_stood 42 = .ok (.iaload, 1) := all_at dvX12_stood_0 23 rfl
set_option maxRecDepth 100000 in
theorem dvX12_stood_43 : ([(43, .iload_n 1, 1), (44, .if_icmp .gt 28, 3), (47, .aload_n 0, 1), (48, .getfield 154, 3), (51, .iload 5, 2), (53, .iaload, 1), (54, .ifCond .lt 14, 3), (57, .aload_n 0, 1), (58, .getfield 154, 3), (61, .iload 5, 2), (63, .iaload, 1), (64, .iload_n 1, 1), (65, .if_icmp .le 7, 3), (68, .iconst 1, 1), (69, .goto 4, 3), (72, .iconst 0, 1), (73, .istore 6, 2), (75, .lload_n 3, 1), (76, .iload 6, 2), (78, .ifCond .eq 26, 3), (81, .aload_n 0, 1), (82, .getfield 139, 3), (85, .iload 5, 2), (87, .iaload, 1)] : List (Nat × Instr × Nat)).all (fun q => decide (decode cX12_stood q.1 = .ok (q.2.1, q.2.2))) = true := by decide +kernel
theorem dX12_stood_43 : decode cX12_stood 43 = .ok (.iload_n 1, 1) := all_at dvX12_stood_43 0 rfl
theorem dX12_stood_44 : decode cX12_stood 44 = .ok (.if_icmp .gt 28, 3) := all_at dvX12_stood_43 1 rfl
theorem dX12_stood_47 : decode cX12_stood 47 = .ok (.aload_n 0, 1) := all_at dvX12_stood_43 2 rfl
theorem dX12_stood_48 : decode cX12_stood 48 = .ok (.getfield 154, 3) := all_at dvX12_stood_43 3 rfl
theorem dX12_stood_51 : decode cX12_stood 51 = .ok (.iload 5, 2) := all_at dvX12_stood_43 4 rfl
theorem dX12_stood_53 : decode cX12_stood 53 = .ok (.iaload, 1) := all_at dvX12_stood_43 5 rfl
theorem dX12_stood_54 : decode cX12_stood 54 = .ok (.ifCond .lt 14, 3) := all_at dvX12_stood_43 6 rfl
theorem dX12_stood_57 : decode cX12_stood 57 = .ok (.aload_n 0, 1) := all_at dvX12_stood_43 7 rfl
theorem dX12_stood_58 : decode cX12_stood 58 = .ok (.getfield 154, 3) := all_at dvX12_stood_43 8 rfl
theorem dX12_stood_61 : decode cX12_stood 61 = .ok (.iload 5, 2) := all_at dvX12_stood_43 9 rfl
theorem dX12_stood_63 : decode cX12_stood 63 = .ok (.iaload, 1) := all_at dvX12_stood_43 10 rfl
theorem dX12_stood_64 : decode cX12_stood 64 = .ok (.iload_n 1, 1) := all_at dvX12_stood_43 11 rfl
theorem dX12_stood_65 : decode cX12_stood 65 = .ok (.if_icmp .le 7, 3) := all_at dvX12_stood_43 12 rfl
theorem dX12_stood_68 : decode cX12_stood 68 = .ok (.iconst 1, 1) := all_at dvX12_stood_43 13 rfl
theorem dX12_stood_69 : decode cX12_stood 69 = .ok (.goto 4, 3) := all_at dvX12_stood_43 14 rfl
theorem dX12_stood_72 : decode cX12_stood 72 = .ok (.iconst 0, 1) := all_at dvX12_stood_43 15 rfl
theorem dX12_stood_73 : decode cX12_stood 73 = .ok (.istore 6, 2) := all_at dvX12_stood_43 16 rfl
theorem dX12_stood_75 : decode cX12_stood 75 = .ok (.lload_n 3, 1) := all_at dvX12_stood_43 17 rfl
theorem dX12_stood_76 : decode cX12_stood 76 = .ok (.iload 6, 2) := all_at dvX12_stood_43 18 rfl
theorem dX12_stood_78 : decode cX12_stood 78 = .ok (.ifCond .eq 26, 3) := all_at dvX12_stood_43 19 rfl
theorem dX12_stood_81 : decode cX12_stood 81 = .ok (.aload_n 0, 1) := all_at dvX12_stood_43 20 rfl
theorem dX12_stood_82 : decode cX12_stood 82 = .ok (.getfield 139, 3) := all_at dvX12_stood_43 21 rfl
theorem dX12_stood_85 : decode cX12_stood 85 = .ok (.iload 5, 2) := all_at dvX12_stood_43 22 rfl
theorem dX12_stood_87 : decode cX12_stood 87 = .ok (.iaload, 1) := all_at dvX12_stood_43 23 rfl
set_option maxRecDepth 100000 in
theorem dvX12_stood_88 : ([(88, .iconst 1, 1), (89, .iload_n 2, 1), (90, .isub, 1), (91, .if_icmp .ne 13, 3), (94, .aload_n 0, 1), (95, .getfield 145, 3), (98, .iload 5, 2), (100, .laload, 1), (101, .goto 4, 3), (104, .lconst 0, 1), (105, .ladd, 1), (106, .lstore_n 3, 1), (107, .iinc 5 1, 3), (110, .goto (-83), 3), (113, .lload_n 3, 1), (114, .lreturn, 1)] : List (Nat × Instr × Nat)).all (fun q => decide (decode cX12_stood q.1 = .ok (q.2.1, q.2.2))) = true := by decide +kernel
theorem dX12_stood_88 : decode cX12_stood 88 = .ok (.iconst 1, 1) := all_at dvX12_stood_88 0 rfl
theorem dX12_stood_89 : decode cX12_stood 89 = .ok (.iload_n 2, 1) := all_at dvX12_stood_88 1 rfl
theorem dX12_stood_90 : decode cX12_stood 90 = .ok (.isub, 1) := all_at dvX12_stood_88 2 rfl
theorem dX12_stood_91 : decode cX12_stood 91 = .ok (.if_icmp .ne 13, 3) := all_at dvX12_stood_88 3 rfl
theorem dX12_stood_94 : decode cX12_stood 94 = .ok (.aload_n 0, 1) := all_at dvX12_stood_88 4 rfl
theorem dX12_stood_95 : decode cX12_stood 95 = .ok (.getfield 145, 3) := all_at dvX12_stood_88 5 rfl
theorem dX12_stood_98 : decode cX12_stood 98 = .ok (.iload 5, 2) := all_at dvX12_stood_88 6 rfl
theorem dX12_stood_100 : decode cX12_stood 100 = .ok (.laload, 1) := all_at dvX12_stood_88 7 rfl
theorem dX12_stood_101 : decode cX12_stood 101 = .ok (.goto 4, 3) := all_at dvX12_stood_88 8 rfl
theorem dX12_stood_104 : decode cX12_stood 104 = .ok (.lconst 0, 1) := all_at dvX12_stood_88 9 rfl
theorem dX12_stood_105 : decode cX12_stood 105 = .ok (.ladd, 1) := all_at dvX12_stood_88 10 rfl
theorem dX12_stood_106 : decode cX12_stood 106 = .ok (.lstore_n 3, 1) := all_at dvX12_stood_88 11 rfl
theorem dX12_stood_107 : decode cX12_stood 107 = .ok (.iinc 5 1, 3) := all_at dvX12_stood_88 12 rfl
theorem dX12_stood_110 : decode cX12_stood 110 = .ok (.goto (-83), 3) := all_at dvX12_stood_88 13 rfl
theorem dX12_stood_113 : decode cX12_stood 113 = .ok (.lload_n 3, 1) := all_at dvX12_stood_88 14 rfl
theorem dX12_stood_114 : decode cX12_stood 114 = .ok (.lreturn, 1) := all_at dvX12_stood_88 15 rfl
set_option maxRecDepth 100000 in
theorem dvX12_undo_0 : ([(0, .aload_n 0, 1), (1, .iload_n 1, 1), (2, .invokevirtual 436, 3), (5, .ifCond .eq 6, 3), (8, .ldc 187, 2), (10, .ireturn, 1), (11, .aload_n 0, 1), (12, .iload_n 1, 1), (13, .invokevirtual 439, 3), (16, .ifCond .ne 6, 3), (19, .ldc 179, 2), (21, .ireturn, 1), (22, .aload_n 0, 1), (23, .getfield 154, 3), (26, .iload_n 1, 1), (27, .aload_n 0, 1), (28, .getfield 171, 3), (31, .iastore, 1), (32, .iconst 1, 1), (33, .istore_n 2, 1), (34, .lconst 1, 1), (35, .iload_n 1, 1), (36, .lshl, 1), (37, .lstore_n 3, 1)] : List (Nat × Instr × Nat)).all (fun q => decide (decode cX12_undo q.1 = .ok (q.2.1, q.2.2))) = true := by decide +kernel
theorem dX12_undo_0 : decode cX12_undo 0 = .ok (.aload_n 0, 1) := all_at dvX12_undo_0 0 rfl
theorem dX12_undo_1 : decode cX12_undo 1 = .ok (.iload_n 1, 1) := all_at dvX12_undo_0 1 rfl
theorem dX12_undo_2 : decode cX12_undo 2 = .ok (.invokevirtual 436, 3) := all_at dvX12_undo_0 2 rfl
theorem dX12_undo_5 : decode cX12_undo 5 = .ok (.ifCond .eq 6, 3) := all_at dvX12_undo_0 3 rfl
theorem dX12_undo_8 : decode cX12_undo 8 = .ok (.ldc 187, 2) := all_at dvX12_undo_0 4 rfl
theorem dX12_undo_10 : decode cX12_undo 10 = .ok (.ireturn, 1) := all_at dvX12_undo_0 5 rfl
theorem dX12_undo_11 : decode cX12_undo 11 = .ok (.aload_n 0, 1) := all_at dvX12_undo_0 6 rfl
theorem dX12_undo_12 : decode cX12_undo 12 = .ok (.iload_n 1, 1) := all_at dvX12_undo_0 7 rfl
theorem dX12_undo_13 : decode cX12_undo 13 = .ok (.invokevirtual 439, 3) := all_at dvX12_undo_0 8 rfl
theorem dX12_undo_16 : decode cX12_undo 16 = .ok (.ifCond .ne 6, 3) := all_at dvX12_undo_0 9 rfl
theorem dX12_undo_19 : decode cX12_undo 19 = .ok (.ldc 179, 2) := all_at dvX12_undo_0 10 rfl
theorem dX12_undo_21 : decode cX12_undo 21 = .ok (.ireturn, 1) := all_at dvX12_undo_0 11 rfl
theorem dX12_undo_22 : decode cX12_undo 22 = .ok (.aload_n 0, 1) := all_at dvX12_undo_0 12 rfl
theorem dX12_undo_23 : decode cX12_undo 23 = .ok (.getfield 154, 3) := all_at dvX12_undo_0 13 rfl
theorem dX12_undo_26 : decode cX12_undo 26 = .ok (.iload_n 1, 1) := all_at dvX12_undo_0 14 rfl
theorem dX12_undo_27 : decode cX12_undo 27 = .ok (.aload_n 0, 1) := all_at dvX12_undo_0 15 rfl
theorem dX12_undo_28 : decode cX12_undo 28 = .ok (.getfield 171, 3) := all_at dvX12_undo_0 16 rfl
theorem dX12_undo_31 : decode cX12_undo 31 = .ok (.iastore, 1) := all_at dvX12_undo_0 17 rfl
theorem dX12_undo_32 : decode cX12_undo 32 = .ok (.iconst 1, 1) := all_at dvX12_undo_0 18 rfl
theorem dX12_undo_33 : decode cX12_undo 33 = .ok (.istore_n 2, 1) := all_at dvX12_undo_0 19 rfl
theorem dX12_undo_34 : decode cX12_undo 34 = .ok (.lconst 1, 1) := all_at dvX12_undo_0 20 rfl
theorem dX12_undo_35 : decode cX12_undo 35 = .ok (.iload_n 1, 1) := all_at dvX12_undo_0 21 rfl
theorem dX12_undo_36 : decode cX12_undo 36 = .ok (.lshl, 1) := all_at dvX12_undo_0 22 rfl
theorem dX12_undo_37 : decode cX12_undo 37 = .ok (.lstore_n 3, 1) := all_at dvX12_undo_0 23 rfl
set_option maxRecDepth 100000 in
theorem dvX12_undo_38 : ([(38, .iload_n 1, 1), (39, .iconst 1, 1), (40, .iadd, 1), (41, .istore 5, 2), (43, .iload 5, 2), (45, .aload_n 0, 1), (46, .getfield 429, 3), (49, .if_icmp .ge 94, 3), (52, .aload_n 0, 1), (53, .getfield 148, 3), (56, .iload 5, 2), (58, .iaload, 1), (59, .ifCond .lt 78, 3), (62, .lload_n 3, 1), (63, .aload_n 0, 1), (64, .getfield 148, 3), (67, .iload 5, 2), (69, .iaload, 1), (70, .lshr, 1), (71, .lconst 1, 1), (72, .land, 1), (73, .lconst 1, 1), (74, .lcmp, 1), (75, .ifCond .ne 62, 3)] : List (Nat × Instr × Nat)).all (fun q => decide (decode cX12_undo q.1 = .ok (q.2.1, q.2.2))) = true := by decide +kernel
theorem dX12_undo_38 : decode cX12_undo 38 = .ok (.iload_n 1, 1) := all_at dvX12_undo_38 0 rfl
theorem dX12_undo_39 : decode cX12_undo 39 = .ok (.iconst 1, 1) := all_at dvX12_undo_38 1 rfl
theorem dX12_undo_40 : decode cX12_undo 40 = .ok (.iadd, 1) := all_at dvX12_undo_38 2 rfl
theorem dX12_undo_41 : decode cX12_undo 41 = .ok (.istore 5, 2) := all_at dvX12_undo_38 3 rfl
theorem dX12_undo_43 : decode cX12_undo 43 = .ok (.iload 5, 2) := all_at dvX12_undo_38 4 rfl
theorem dX12_undo_45 : decode cX12_undo 45 = .ok (.aload_n 0, 1) := all_at dvX12_undo_38 5 rfl
theorem dX12_undo_46 : decode cX12_undo 46 = .ok (.getfield 429, 3) := all_at dvX12_undo_38 6 rfl
theorem dX12_undo_49 : decode cX12_undo 49 = .ok (.if_icmp .ge 94, 3) := all_at dvX12_undo_38 7 rfl
theorem dX12_undo_52 : decode cX12_undo 52 = .ok (.aload_n 0, 1) := all_at dvX12_undo_38 8 rfl
theorem dX12_undo_53 : decode cX12_undo 53 = .ok (.getfield 148, 3) := all_at dvX12_undo_38 9 rfl
theorem dX12_undo_56 : decode cX12_undo 56 = .ok (.iload 5, 2) := all_at dvX12_undo_38 10 rfl
theorem dX12_undo_58 : decode cX12_undo 58 = .ok (.iaload, 1) := all_at dvX12_undo_38 11 rfl
theorem dX12_undo_59 : decode cX12_undo 59 = .ok (.ifCond .lt 78, 3) := all_at dvX12_undo_38 12 rfl
theorem dX12_undo_62 : decode cX12_undo 62 = .ok (.lload_n 3, 1) := all_at dvX12_undo_38 13 rfl
theorem dX12_undo_63 : decode cX12_undo 63 = .ok (.aload_n 0, 1) := all_at dvX12_undo_38 14 rfl
theorem dX12_undo_64 : decode cX12_undo 64 = .ok (.getfield 148, 3) := all_at dvX12_undo_38 15 rfl
theorem dX12_undo_67 : decode cX12_undo 67 = .ok (.iload 5, 2) := all_at dvX12_undo_38 16 rfl
theorem dX12_undo_69 : decode cX12_undo 69 = .ok (.iaload, 1) := all_at dvX12_undo_38 17 rfl
theorem dX12_undo_70 : decode cX12_undo 70 = .ok (.lshr, 1) := all_at dvX12_undo_38 18 rfl
theorem dX12_undo_71 : decode cX12_undo 71 = .ok (.lconst 1, 1) := all_at dvX12_undo_38 19 rfl
theorem dX12_undo_72 : decode cX12_undo 72 = .ok (.land, 1) := all_at dvX12_undo_38 20 rfl
theorem dX12_undo_73 : decode cX12_undo 73 = .ok (.lconst 1, 1) := all_at dvX12_undo_38 21 rfl
theorem dX12_undo_74 : decode cX12_undo 74 = .ok (.lcmp, 1) := all_at dvX12_undo_38 22 rfl
theorem dX12_undo_75 : decode cX12_undo 75 = .ok (.ifCond .ne 62, 3) := all_at dvX12_undo_38 23 rfl
set_option maxRecDepth 100000 in
theorem dvX12_undo_78 : ([(78, .lload_n 3, 1), (79, .lconst 1, 1), (80, .iload 5, 2), (82, .lshl, 1), (83, .lor, 1), (84, .lstore_n 3, 1), (85, .iload_n 2, 1), (86, .aload_n 0, 1), (87, .getfield 154, 3), (90, .iload 5, 2), (92, .iaload, 1), (93, .ifCond .ge 7, 3), (96, .iconst 1, 1), (97, .goto 4, 3), (100, .iconst 0, 1), (101, .invokestatic 203, 3), (104, .iadd, 1), (105, .istore_n 2, 1), (106, .aload_n 0, 1), (107, .getfield 154, 3), (110, .iload 5, 2), (112, .aload_n 0, 1), (113, .getfield 154, 3), (116, .iload 5, 2)] : List (Nat × Instr × Nat)).all (fun q => decide (decode cX12_undo q.1 = .ok (q.2.1, q.2.2))) = true := by decide +kernel
theorem dX12_undo_78 : decode cX12_undo 78 = .ok (.lload_n 3, 1) := all_at dvX12_undo_78 0 rfl
theorem dX12_undo_79 : decode cX12_undo 79 = .ok (.lconst 1, 1) := all_at dvX12_undo_78 1 rfl
theorem dX12_undo_80 : decode cX12_undo 80 = .ok (.iload 5, 2) := all_at dvX12_undo_78 2 rfl
theorem dX12_undo_82 : decode cX12_undo 82 = .ok (.lshl, 1) := all_at dvX12_undo_78 3 rfl
theorem dX12_undo_83 : decode cX12_undo 83 = .ok (.lor, 1) := all_at dvX12_undo_78 4 rfl
theorem dX12_undo_84 : decode cX12_undo 84 = .ok (.lstore_n 3, 1) := all_at dvX12_undo_78 5 rfl
theorem dX12_undo_85 : decode cX12_undo 85 = .ok (.iload_n 2, 1) := all_at dvX12_undo_78 6 rfl
theorem dX12_undo_86 : decode cX12_undo 86 = .ok (.aload_n 0, 1) := all_at dvX12_undo_78 7 rfl
theorem dX12_undo_87 : decode cX12_undo 87 = .ok (.getfield 154, 3) := all_at dvX12_undo_78 8 rfl
theorem dX12_undo_90 : decode cX12_undo 90 = .ok (.iload 5, 2) := all_at dvX12_undo_78 9 rfl
theorem dX12_undo_92 : decode cX12_undo 92 = .ok (.iaload, 1) := all_at dvX12_undo_78 10 rfl
theorem dX12_undo_93 : decode cX12_undo 93 = .ok (.ifCond .ge 7, 3) := all_at dvX12_undo_78 11 rfl
theorem dX12_undo_96 : decode cX12_undo 96 = .ok (.iconst 1, 1) := all_at dvX12_undo_78 12 rfl
theorem dX12_undo_97 : decode cX12_undo 97 = .ok (.goto 4, 3) := all_at dvX12_undo_78 13 rfl
theorem dX12_undo_100 : decode cX12_undo 100 = .ok (.iconst 0, 1) := all_at dvX12_undo_78 14 rfl
theorem dX12_undo_101 : decode cX12_undo 101 = .ok (.invokestatic 203, 3) := all_at dvX12_undo_78 15 rfl
theorem dX12_undo_104 : decode cX12_undo 104 = .ok (.iadd, 1) := all_at dvX12_undo_78 16 rfl
theorem dX12_undo_105 : decode cX12_undo 105 = .ok (.istore_n 2, 1) := all_at dvX12_undo_78 17 rfl
theorem dX12_undo_106 : decode cX12_undo 106 = .ok (.aload_n 0, 1) := all_at dvX12_undo_78 18 rfl
theorem dX12_undo_107 : decode cX12_undo 107 = .ok (.getfield 154, 3) := all_at dvX12_undo_78 19 rfl
theorem dX12_undo_110 : decode cX12_undo 110 = .ok (.iload 5, 2) := all_at dvX12_undo_78 20 rfl
theorem dX12_undo_112 : decode cX12_undo 112 = .ok (.aload_n 0, 1) := all_at dvX12_undo_78 21 rfl
theorem dX12_undo_113 : decode cX12_undo 113 = .ok (.getfield 154, 3) := all_at dvX12_undo_78 22 rfl
theorem dX12_undo_116 : decode cX12_undo 116 = .ok (.iload 5, 2) := all_at dvX12_undo_78 23 rfl
set_option maxRecDepth 100000 in
theorem dvX12_undo_118 : ([(118, .iaload, 1), (119, .ifCond .ge 10, 3), (122, .aload_n 0, 1), (123, .getfield 171, 3), (126, .goto 10, 3), (129, .aload_n 0, 1), (130, .getfield 154, 3), (133, .iload 5, 2), (135, .iaload, 1), (136, .iastore, 1), (137, .iinc 5 1, 3), (140, .goto (-97), 3), (143, .iload_n 2, 1), (144, .ireturn, 1)] : List (Nat × Instr × Nat)).all (fun q => decide (decode cX12_undo q.1 = .ok (q.2.1, q.2.2))) = true := by decide +kernel
theorem dX12_undo_118 : decode cX12_undo 118 = .ok (.iaload, 1) := all_at dvX12_undo_118 0 rfl
theorem dX12_undo_119 : decode cX12_undo 119 = .ok (.ifCond .ge 10, 3) := all_at dvX12_undo_118 1 rfl
theorem dX12_undo_122 : decode cX12_undo 122 = .ok (.aload_n 0, 1) := all_at dvX12_undo_118 2 rfl
theorem dX12_undo_123 : decode cX12_undo 123 = .ok (.getfield 171, 3) := all_at dvX12_undo_118 3 rfl
theorem dX12_undo_126 : decode cX12_undo 126 = .ok (.goto 10, 3) := all_at dvX12_undo_118 4 rfl
theorem dX12_undo_129 : decode cX12_undo 129 = .ok (.aload_n 0, 1) := all_at dvX12_undo_118 5 rfl
theorem dX12_undo_130 : decode cX12_undo 130 = .ok (.getfield 154, 3) := all_at dvX12_undo_118 6 rfl
theorem dX12_undo_133 : decode cX12_undo 133 = .ok (.iload 5, 2) := all_at dvX12_undo_118 7 rfl
theorem dX12_undo_135 : decode cX12_undo 135 = .ok (.iaload, 1) := all_at dvX12_undo_118 8 rfl
theorem dX12_undo_136 : decode cX12_undo 136 = .ok (.iastore, 1) := all_at dvX12_undo_118 9 rfl
theorem dX12_undo_137 : decode cX12_undo 137 = .ok (.iinc 5 1, 3) := all_at dvX12_undo_118 10 rfl
theorem dX12_undo_140 : decode cX12_undo 140 = .ok (.goto (-97), 3) := all_at dvX12_undo_118 11 rfl
theorem dX12_undo_143 : decode cX12_undo 143 = .ok (.iload_n 2, 1) := all_at dvX12_undo_118 12 rfl
theorem dX12_undo_144 : decode cX12_undo 144 = .ok (.ireturn, 1) := all_at dvX12_undo_118 13 rfl
theorem sw_0_6 (x : Int32) : (x.toInt < 0 ∨ 6 < x.toInt) ∨ x = 0 ∨ x = 1 ∨ x = 2 ∨ x = 3 ∨ x = 4 ∨ x = 5 ∨ x = 6 := by
  by_cases h : x.toInt < 0 ∨ 6 < x.toInt
  · exact Or.inl h
  · right
    have h2 : x.toInt = 0 ∨ x.toInt = 1 ∨ x.toInt = 2 ∨ x.toInt = 3 ∨ x.toInt = 4 ∨ x.toInt = 5 ∨ x.toInt = 6 := by omega
    rcases h2 with h2 | h2 | h2 | h2 | h2 | h2 | h2
    · exact Or.inl (z_of (by decide) h2)
    · exact Or.inr (Or.inl (z_of (by decide) h2))
    · exact Or.inr (Or.inr (Or.inl (z_of (by decide) h2)))
    · exact Or.inr (Or.inr (Or.inr (Or.inl (z_of (by decide) h2))))
    · exact Or.inr (Or.inr (Or.inr (Or.inr (Or.inl (z_of (by decide) h2)))))
    · exact Or.inr (Or.inr (Or.inr (Or.inr (Or.inr (Or.inl (z_of (by decide) h2))))))
    · exact Or.inr (Or.inr (Or.inr (Or.inr (Or.inr (Or.inr (z_of (by decide) h2))))))
set_option maxHeartbeats 4000000 in
set_option maxRecDepth 100000 in
/-- X12_paper -/
theorem c_X12_paper (l : Launch) (dC : Nat → ClassId) (dI : Nat → Nat → Nat) (h : Nat) (g : Nat → Nat → Nat) (ca : Nat → Nat → ClassId) (iv : Nat → Nat → Int32) (lv : Nat → Nat → Int64) (fa : Nat → Nat → Nat → Int32) (la : Nat → Nat → Nat → Int64) (hI : IX iv fa) (a : Int32) (b : Int32) : Met l yX12_paper (wc yX12_paper cX12_paper 5 (some .int)) ({ frames := 2, cells := 0, slots := 0, locals := 46 } : Room) (pR (dC, dI) classes (WM h g ca iv lv fa la) (TM ca) [.ref h, .int a, .int b]) (vp_Si (fun r => True)) 0 0 (fun _ => False) := by
  refine Met.ofW (cc := cX12_paper) (maxL := 5) (ret := (some .int)) (by decide) rfl ?_
  intro p e s m args below meth c s₁ B hml hv
  obtain ⟨rfl, hP, hK⟩ := hv
  have hx := B.exec
  have hb := B.bytes
  have hr := B.returns
  have ht := tb_tl (atoms_spec (ws := wc yX12_paper cX12_paper 5 (some .int)) B.pre)
  have hown : s.vm.findClass RX12 = some m.cls := findClass_of_methodNamed B.named
  have hlocks := B.notSynchronized
  have hl := lv_entry [.ref h, .int a, .int b] (n := 5) (Nat.le_of_ble_eq_true rfl)
  rw [lg_entry_eq]
  generalize (lg_sl [.ref h, .int a, .int b] ++ List.replicate (5 - (lg_sl [.ref h, .int a, .int b]).length) Slot.unset).toArray = ls at hl ⊢
  have hl : lv_has ls 5 [(0, .ref h), (1, .int a), (2, .int b)] := hl
  refine lv_aload_n hx hb dX12_paper_0 rfl (lv_at hl 0 rfl) ?_
  refine lv_iload_n hx hb dX12_paper_1 rfl (lv_at hl 1 rfl) ?_
  refine vp_callSi (W.runV (As := [.int a]) (rest := []) ⟨hx, hb, hml, hown, ht⟩ (c_X12_noPaper l dC dI h g ca iv lv fa la hI a) (kV 1 ht m_1684 m_1686 m_73 m_89 m_1687 rfl rfl hd_X12_noPaper_v ⟨Nat.le_of_ble_eq_true rfl, Nat.le_of_ble_eq_true rfl⟩) (vR hP hK (rM_12 hK hP)) rfl rfl hl.1 rfl (lv_room (Nat.le_of_ble_eq_true rfl)) dX12_paper_2 ⟨Nat.le_of_ble_eq_true rfl, Nat.le_of_ble_eq_true rfl⟩) (fun r1 hr1 => ?_)
  rcases hr1 with ⟨rfl, fr1⟩ | ⟨rfl, fr1⟩
  · skip
    have i_12_67 : 0 ≤ (iv 12 67).toInt ∧ (iv 12 67).toInt ≤ 40 := hI.1 12 67
    have fr1 : ¬ (0 ≤ (a : Int32).toInt ∧ (a : Int32).toInt < ((iv 12 67) : Int32).toInt) := fr1
    refine lv_if_eq (tgt := 11) hx hb dX12_paper_5 (by decide) (fun c2 => ?_) (fun c2 => ?_)
    · exact absurd c2 (by decide)
    · skip
      refine lv_ldc hx hb hown (ht _ m_1389) dX12_paper_8 ?_
      exact W.iret (v := (-100001)) hx hb hr (fun t ht9 hW => ⟨(-100001), rfl, trivial, ht9⟩) (fun q hq => by cases hq) dX12_paper_10
  · skip
    have i_12_67 : 0 ≤ (iv 12 67).toInt ∧ (iv 12 67).toInt ≤ 40 := hI.1 12 67
    have fr1 : (0 ≤ (a : Int32).toInt ∧ (a : Int32).toInt < ((iv 12 67) : Int32).toInt) := Decidable.not_not.mp fr1
    refine lv_if_eq (tgt := 11) hx hb dX12_paper_5 (by decide) (fun c3 => ?_) (fun c3 => ?_)
    · skip
      refine lv_iconst (v := 0) hx hb dX12_paper_11 (by decide) ?_
      refine lv_istore_n (lv' := [(3, .int 0), (0, .ref h), (1, .int a), (2, .int b)]) hx hb dX12_paper_12 rfl hl (by decide) rfl (fun ls hl => ?_)
      refine lv_iconst (v := 0) hx hb dX12_paper_13 (by decide) ?_
      refine lv_istore (lv' := [(4, .int 0), (3, .int 0), (0, .ref h), (1, .int a), (2, .int b)]) hx hb dX12_paper_14 hl (by decide) rfl (fun ls hl => ?_)
      have lp941 : ∀ (nn941 : Nat) (x940_4 : Int32) (x940_3 : Int32), 0 ≤ x940_4.toInt ∧ x940_4.toInt ≤ 40 → 40 - x940_4.toInt < (nn941 : Int) → ∀ (ls : Array Slot), lv_has ls 5 [(4, .int x940_4), (3, .int x940_3), (0, .ref h), (1, .int a), (2, .int b)] → W p l e ({ frames := 2, cells := 0, slots := 0, locals := 46 } : Room) s m ([.ref h, .int a, .int b] : List Value).toArray below meth c s.heap [] 0 0 (MQ below (vp_Si (fun r => True)) ([.ref h, .int a, .int b] : List Value).toArray s 0 0 (fun _ => False)) (F0 m 16 ls []) := by
        intro nn941
        induction nn941 with
        | zero => intro x940_4 x940_3 hx940_4 hm941; exfalso; omega
        | succ nn941 ih941 =>
          intro x940_4 x940_3 hx940_4 hm941 ls hl
          refine lv_iload hx hb dX12_paper_16 (lv_at hl 0 rfl) ?_
          refine lv_aload_n hx hb dX12_paper_18 rfl (lv_at hl 2 rfl) ?_
          refine gM_12_67 hx hb ht hown hK hP m_1206 (v := (iv 12 67)) rfl dX12_paper_19 ?_
          refine lv_icmp_ge (tgt := 53) hx hb dX12_paper_22 (by decide) (fun c942 => ?_) (fun c942 => ?_)
          · have fc942 := z_le (rfl : ((iv 12 67)).toInt = _) (rfl : (x940_4).toInt = _) c942
            refine lv_iload_n hx hb dX12_paper_53 rfl (lv_at hl 4 rfl) ?_
            rcases sw_0_6 b with h943 | rfl | rfl | rfl | rfl | rfl | rfl | rfl
            · refine lv_tableOut (tgt := 141) hx hb dX12_paper_54 h943 (by decide) ?_
              refine lv_ldc hx hb hown (ht _ m_1373) dX12_paper_141 ?_
              exact W.iret (v := (-100002)) hx hb hr (fun t ht9 hW => ⟨(-100002), rfl, trivial, ht9⟩) (fun q hq => by cases hq) dX12_paper_143
            · refine lv_tableIn (tgt := 96) (off := 42) hx hb dX12_paper_54 (by decide) (by decide) rfl (by decide) ?_
              refine lv_aload_n hx hb dX12_paper_96 rfl (lv_at hl 2 rfl) ?_
              refine gM_12_68 hx hb ht hown hK hP m_1207 dX12_paper_97 ?_
              refine lv_iload_n hx hb dX12_paper_100 rfl (lv_at hl 3 rfl) ?_
              refine lM_12_68 hx hb hK hP (f := (fa 12 68)) rfl (vp_in_iff.mpr ⟨by omega, by omega⟩) dX12_paper_101 ?_
              refine lv_topi (fun v944 ev944 => ?_)
              exact W.iret (v := v944) hx hb hr (fun t ht9 hW => ⟨v944, rfl, trivial, ht9⟩) (fun q hq => by cases hq) dX12_paper_102
            · refine lv_tableIn (tgt := 103) (off := 49) hx hb dX12_paper_54 (by decide) (by decide) rfl (by decide) ?_
              refine lv_aload_n hx hb dX12_paper_103 rfl (lv_at hl 2 rfl) ?_
              refine gM_12_69 hx hb ht hown hK hP m_1208 dX12_paper_104 ?_
              refine lv_iload_n hx hb dX12_paper_107 rfl (lv_at hl 3 rfl) ?_
              refine lM_12_69 hx hb hK hP (f := (fa 12 69)) rfl (vp_in_iff.mpr ⟨by omega, by omega⟩) dX12_paper_108 ?_
              refine lv_topi (fun v945 ev945 => ?_)
              exact W.iret (v := v945) hx hb hr (fun t ht9 hW => ⟨v945, rfl, trivial, ht9⟩) (fun q hq => by cases hq) dX12_paper_109
            · refine lv_tableIn (tgt := 110) (off := 56) hx hb dX12_paper_54 (by decide) (by decide) rfl (by decide) ?_
              refine lv_aload_n hx hb dX12_paper_110 rfl (lv_at hl 2 rfl) ?_
              refine gM_12_70 hx hb ht hown hK hP m_1209 dX12_paper_111 ?_
              refine lv_iload_n hx hb dX12_paper_114 rfl (lv_at hl 3 rfl) ?_
              refine lM_12_70 hx hb hK hP (f := (la 12 70)) rfl (vp_in_iff.mpr ⟨by omega, by omega⟩) dX12_paper_115 ?_
              refine lv_topl (fun w946 ew946 => ?_)
              obtain ⟨v947, ev947⟩ : ∃ y : Int32, w946.toInt32 = y := ⟨_, rfl⟩
              refine lv_l2i (v := v947) hx hb dX12_paper_116 ev947 ?_
              exact W.iret (v := v947) hx hb hr (fun t ht9 hW => ⟨v947, rfl, trivial, ht9⟩) (fun q hq => by cases hq) dX12_paper_117
            · refine lv_tableIn (tgt := 118) (off := 64) hx hb dX12_paper_54 (by decide) (by decide) rfl (by decide) ?_
              refine lv_aload_n hx hb dX12_paper_118 rfl (lv_at hl 2 rfl) ?_
              refine gM_12_71 hx hb ht hown hK hP m_1210 dX12_paper_119 ?_
              refine lv_iload_n hx hb dX12_paper_122 rfl (lv_at hl 3 rfl) ?_
              refine lM_12_71 hx hb hK hP (f := (fa 12 71)) rfl (vp_in_iff.mpr ⟨by omega, by omega⟩) dX12_paper_123 ?_
              refine lv_topi (fun v948 ev948 => ?_)
              have tv948 : (-1) ≤ v948.toInt ∧ v948.toInt ≤ 39 := by rw [ev948]; exact hI.2 12 71 _
              exact W.iret (v := v948) hx hb hr (fun t ht9 hW => ⟨v948, rfl, trivial, ht9⟩) (fun q hq => by cases hq) dX12_paper_124
            · refine lv_tableIn (tgt := 125) (off := 71) hx hb dX12_paper_54 (by decide) (by decide) rfl (by decide) ?_
              refine lv_aload_n hx hb dX12_paper_125 rfl (lv_at hl 2 rfl) ?_
              refine gM_12_72 hx hb ht hown hK hP m_1211 dX12_paper_126 ?_
              refine lv_iload_n hx hb dX12_paper_129 rfl (lv_at hl 3 rfl) ?_
              refine lM_12_72 hx hb hK hP (f := (fa 12 72)) rfl (vp_in_iff.mpr ⟨by omega, by omega⟩) dX12_paper_130 ?_
              refine lv_topi (fun v949 ev949 => ?_)
              exact W.iret (v := v949) hx hb hr (fun t ht9 hW => ⟨v949, rfl, trivial, ht9⟩) (fun q hq => by cases hq) dX12_paper_131
            · refine lv_tableIn (tgt := 132) (off := 78) hx hb dX12_paper_54 (by decide) (by decide) rfl (by decide) ?_
              refine lv_aload_n hx hb dX12_paper_132 rfl (lv_at hl 2 rfl) ?_
              refine gM_12_73 hx hb ht hown hK hP m_1212 dX12_paper_133 ?_
              refine lv_iload_n hx hb dX12_paper_136 rfl (lv_at hl 3 rfl) ?_
              refine lM_12_73 hx hb hK hP (f := (fa 12 73)) rfl (vp_in_iff.mpr ⟨by omega, by omega⟩) dX12_paper_137 ?_
              refine lv_topi (fun v950 ev950 => ?_)
              exact W.iret (v := v950) hx hb hr (fun t ht9 hW => ⟨v950, rfl, trivial, ht9⟩) (fun q hq => by cases hq) dX12_paper_138
            · refine lv_tableIn (tgt := 139) (off := 85) hx hb dX12_paper_54 (by decide) (by decide) rfl (by decide) ?_
              refine lv_iload_n hx hb dX12_paper_139 rfl (lv_at hl 1 rfl) ?_
              exact W.iret (v := x940_3) hx hb hr (fun t ht9 hW => ⟨x940_3, rfl, trivial, ht9⟩) (fun q hq => by cases hq) dX12_paper_140
          · have fc942 := z_nle (rfl : ((iv 12 67)).toInt = _) (rfl : (x940_4).toInt = _) c942
            refine lv_iload_n hx hb dX12_paper_25 rfl (lv_at hl 1 rfl) ?_
            refine lv_aload_n hx hb dX12_paper_26 rfl (lv_at hl 2 rfl) ?_
            refine gM_12_71 hx hb ht hown hK hP m_1210 dX12_paper_27 ?_
            refine lv_iload hx hb dX12_paper_30 (lv_at hl 0 rfl) ?_
            refine lM_12_71 hx hb hK hP (f := (fa 12 71)) rfl (vp_in_iff.mpr ⟨by omega, by omega⟩) dX12_paper_32 ?_
            refine lv_topi (fun v951 ev951 => ?_)
            have tv951 : (-1) ≤ v951.toInt ∧ v951.toInt ≤ 39 := by rw [ev951]; exact hI.2 12 71 _
            refine lv_iload_n hx hb dX12_paper_33 rfl (lv_at hl 3 rfl) ?_
            refine lv_icmp_ne (tgt := 41) hx hb dX12_paper_34 (by decide) (fun c952 => ?_) (fun c952 => ?_)
            · have fc952 := z_ne (rfl : (v951).toInt = _) (rfl : (a).toInt = _) c952
              refine lv_iconst (v := 0) hx hb dX12_paper_41 (by decide) ?_
              refine vp_callSi (W.runS (As := [.int 0]) (rest := [.int x940_3]) ⟨hx, hb, hml, hown, ht⟩ (c_X12_bit l dC dI 0 ⟨by decide, by decide⟩) (kS 1 ht m_1396 m_1397 m_89 m_1398 rfl rfl hd_X12_bit_v ⟨Nat.le_of_ble_eq_true rfl, Nat.le_of_ble_eq_true rfl⟩) (sR noP (hK.sub (tys' := []) [] rfl)) rfl rfl hl.1 rfl (lv_room (Nat.le_of_ble_eq_true rfl)) dX12_paper_42 ⟨Nat.le_of_ble_eq_true rfl, Nat.le_of_ble_eq_true rfl⟩) (fun r953 hr953 => ?_)
              refine lv_iadd hx hb dX12_paper_45 ?_
              refine lv_topi (fun v954 ev954 => ?_)
              refine lv_istore_n (lv' := [(3, .int v954), (4, .int x940_4), (0, .ref h), (1, .int a), (2, .int b)]) hx hb dX12_paper_46 rfl hl (by decide) rfl (fun ls hl => ?_)
              obtain ⟨v955, ev955⟩ : ∃ y : Int32, y = x940_4 + 1 := ⟨_, rfl⟩
              have tv955 := z_add ev955 rfl (by decide : (1 : Int32).toInt = 1) (by omega) (by omega)
              refine lv_iinc (v := v955) (lv' := [(4, .int v955), (3, .int v954), (0, .ref h), (1, .int a), (2, .int b)]) hx hb dX12_paper_47 hl (k := 1) rfl (by rw [ev955]; rfl) (by decide) rfl (fun ls hl => ?_)
              refine lv_goto (tgt := 16) hx hb dX12_paper_50 (by decide) ?_
              exact ih941 v955 v954 ⟨by omega, by omega⟩ (by omega) ls (lv_sub hl [0, 1, 2, 3, 4] rfl)
            · have fc952 := z_eq (rfl : (v951).toInt = _) (rfl : (a).toInt = _) c952
              refine lv_iconst (v := 1) hx hb dX12_paper_37 (by decide) ?_
              refine lv_goto (tgt := 42) hx hb dX12_paper_38 (by decide) ?_
              refine vp_callSi (W.runS (As := [.int 1]) (rest := [.int x940_3]) ⟨hx, hb, hml, hown, ht⟩ (c_X12_bit l dC dI 1 ⟨by decide, by decide⟩) (kS 1 ht m_1396 m_1397 m_89 m_1398 rfl rfl hd_X12_bit_v ⟨Nat.le_of_ble_eq_true rfl, Nat.le_of_ble_eq_true rfl⟩) (sR noP (hK.sub (tys' := []) [] rfl)) rfl rfl hl.1 rfl (lv_room (Nat.le_of_ble_eq_true rfl)) dX12_paper_42 ⟨Nat.le_of_ble_eq_true rfl, Nat.le_of_ble_eq_true rfl⟩) (fun r956 hr956 => ?_)
              refine lv_iadd hx hb dX12_paper_45 ?_
              refine lv_topi (fun v957 ev957 => ?_)
              refine lv_istore_n (lv' := [(3, .int v957), (4, .int x940_4), (0, .ref h), (1, .int a), (2, .int b)]) hx hb dX12_paper_46 rfl hl (by decide) rfl (fun ls hl => ?_)
              obtain ⟨v958, ev958⟩ : ∃ y : Int32, y = x940_4 + 1 := ⟨_, rfl⟩
              have tv958 := z_add ev958 rfl (by decide : (1 : Int32).toInt = 1) (by omega) (by omega)
              refine lv_iinc (v := v958) (lv' := [(4, .int v958), (3, .int v957), (0, .ref h), (1, .int a), (2, .int b)]) hx hb dX12_paper_47 hl (k := 1) rfl (by rw [ev958]; rfl) (by decide) rfl (fun ls hl => ?_)
              refine lv_goto (tgt := 16) hx hb dX12_paper_50 (by decide) ?_
              exact ih941 v958 v957 ⟨by omega, by omega⟩ (by omega) ls (lv_sub hl [0, 1, 2, 3, 4] rfl)
      exact lp941 41 0 0 ⟨by decide, by decide⟩ (by first | decide | omega) ls (lv_sub hl [0, 1, 2, 3, 4] rfl)
    · exact absurd rfl c3
/-! ===== h1 ===== -/
theorem m_77 : Cond.initialized RX11 ∈ tb := mb_1_0 _ (List.mem_of_getElem? (i := 0) rfl)
theorem m_80 : Cond.initialized RX0 ∈ tb := mb_1_0 _ (List.mem_of_getElem? (i := 3) rfl)
theorem m_114 : Cond.fieldLink RX11 109 "SilkHouse$Skeins" "number" "I" ∈ tb := mb_1_1 _ (List.mem_of_getElem? (i := 11) rfl)
theorem m_136 : Cond.fieldLink RX11 134 "SilkHouse$Scales" "number" "I" ∈ tb := mb_1_2 _ (List.mem_of_getElem? (i := 1) rfl)
theorem m_165 : Cond.fieldLink RX11 96 "SilkHouse$Bales" "number" "I" ∈ tb := mb_1_2 _ (List.mem_of_getElem? (i := 20) rfl)
theorem m_415 : Cond.fieldLink RX11 10 "SilkHouse" "skeins" "LSilkHouse$Skeins;" ∈ tb := mb_2_1 _ (List.mem_of_getElem? (i := 20) rfl)
theorem m_416 : Cond.fieldLink RX11 19 "SilkHouse" "scales" "LSilkHouse$Scales;" ∈ tb := mb_2_1 _ (List.mem_of_getElem? (i := 21) rfl)
theorem m_417 : Cond.fieldLink RX11 26 "SilkHouse" "bales" "LSilkHouse$Bales;" ∈ tb := mb_2_1 _ (List.mem_of_getElem? (i := 22) rfl)
theorem m_425 : Cond.fieldLink RX11 85 "SilkHouse" "now" "I" ∈ tb := mb_2_2 _ (List.mem_of_getElem? (i := 6) rfl)
theorem m_453 : Cond.methodLink RX11 89 yX11_within ∈ tb := mb_2_2 _ (List.mem_of_getElem? (i := 11) rfl)
theorem m_454 : Cond.static yX11_within ∈ tb := mb_2_2 _ (List.mem_of_getElem? (i := 12) rfl)
theorem m_455 : Cond.code yX11_within cX11_within 3 (some .boolean) ∈ tb := mb_2_2 _ (List.mem_of_getElem? (i := 13) rfl)
theorem m_456 : Cond.constant RX11 93 (-100002) ∈ tb := mb_2_2 _ (List.mem_of_getElem? (i := 14) rfl)
theorem m_457 : Cond.constant RX11 94 (-100003) ∈ tb := mb_2_2 _ (List.mem_of_getElem? (i := 15) rfl)
theorem m_462 : Cond.constant RX11 95 (99999) ∈ tb := mb_2_2 _ (List.mem_of_getElem? (i := 20) rfl)
theorem m_463 : Cond.constant RX11 99 (-100004) ∈ tb := mb_2_2 _ (List.mem_of_getElem? (i := 21) rfl)
theorem m_464 : Cond.methodLink RX11 100 yX0_bring ∈ tb := mb_2_2 _ (List.mem_of_getElem? (i := 22) rfl)
theorem m_465 : Cond.instanceMethod yX0_bring ∈ tb := mb_2_2 _ (List.mem_of_getElem? (i := 23) rfl)
theorem m_466 : Cond.selects RX0 yX0_bring yX0_bring ∈ tb := mb_2_3 _ (List.mem_of_getElem? (i := 0) rfl)
theorem m_467 : Cond.code yX0_bring cX0_bring 2 (some .int) ∈ tb := mb_2_3 _ (List.mem_of_getElem? (i := 1) rfl)
theorem m_472 : Cond.methodLink RX11 104 yX0_has ∈ tb := mb_2_3 _ (List.mem_of_getElem? (i := 6) rfl)
theorem m_473 : Cond.instanceMethod yX0_has ∈ tb := mb_2_3 _ (List.mem_of_getElem? (i := 7) rfl)
theorem m_474 : Cond.selects RX0 yX0_has yX0_has ∈ tb := mb_2_3 _ (List.mem_of_getElem? (i := 8) rfl)
theorem m_475 : Cond.code yX0_has cX0_has 2 (some .boolean) ∈ tb := mb_2_3 _ (List.mem_of_getElem? (i := 9) rfl)
theorem m_476 : Cond.constant RX11 108 (-100001) ∈ tb := mb_2_3 _ (List.mem_of_getElem? (i := 10) rfl)
theorem m_477 : Cond.methodLink RX11 110 yX10_drawn ∈ tb := mb_2_3 _ (List.mem_of_getElem? (i := 11) rfl)
theorem m_478 : Cond.instanceMethod yX10_drawn ∈ tb := mb_2_3 _ (List.mem_of_getElem? (i := 12) rfl)
theorem m_479 : Cond.selects RX10 yX10_drawn yX10_drawn ∈ tb := mb_2_3 _ (List.mem_of_getElem? (i := 13) rfl)
theorem m_480 : Cond.code yX10_drawn cX10_drawn 5 (some .int) ∈ tb := mb_2_3 _ (List.mem_of_getElem? (i := 14) rfl)
theorem m_489 : Cond.methodLink RX11 114 yX10_draw ∈ tb := mb_2_3 _ (List.mem_of_getElem? (i := 23) rfl)
theorem m_490 : Cond.instanceMethod yX10_draw ∈ tb := mb_2_4 _ (List.mem_of_getElem? (i := 0) rfl)
theorem m_491 : Cond.selects RX10 yX10_draw yX10_draw ∈ tb := mb_2_4 _ (List.mem_of_getElem? (i := 1) rfl)
theorem m_492 : Cond.code yX10_draw cX10_draw 5 (some .int) ∈ tb := mb_2_4 _ (List.mem_of_getElem? (i := 2) rfl)
theorem m_497 : Cond.methodLink RX11 118 yX10_weigh ∈ tb := mb_2_4 _ (List.mem_of_getElem? (i := 6) rfl)
theorem m_498 : Cond.instanceMethod yX10_weigh ∈ tb := mb_2_4 _ (List.mem_of_getElem? (i := 7) rfl)
theorem m_499 : Cond.selects RX10 yX10_weigh yX10_weigh ∈ tb := mb_2_4 _ (List.mem_of_getElem? (i := 8) rfl)
theorem m_500 : Cond.code yX10_weigh cX10_weigh 5 none ∈ tb := mb_2_4 _ (List.mem_of_getElem? (i := 9) rfl)
theorem m_501 : Cond.methodLink RX11 122 yX10_dryIn ∈ tb := mb_2_4 _ (List.mem_of_getElem? (i := 10) rfl)
theorem m_502 : Cond.instanceMethod yX10_dryIn ∈ tb := mb_2_4 _ (List.mem_of_getElem? (i := 11) rfl)
theorem m_503 : Cond.selects RX10 yX10_dryIn yX10_dryIn ∈ tb := mb_2_4 _ (List.mem_of_getElem? (i := 12) rfl)
theorem m_504 : Cond.code yX10_dryIn cX10_dryIn 4 none ∈ tb := mb_2_4 _ (List.mem_of_getElem? (i := 13) rfl)
theorem m_509 : Cond.methodLink RX11 126 yX10_has ∈ tb := mb_2_4 _ (List.mem_of_getElem? (i := 18) rfl)
theorem m_510 : Cond.instanceMethod yX10_has ∈ tb := mb_2_4 _ (List.mem_of_getElem? (i := 19) rfl)
theorem m_511 : Cond.selects RX10 yX10_has yX10_has ∈ tb := mb_2_4 _ (List.mem_of_getElem? (i := 20) rfl)
theorem m_512 : Cond.code yX10_has cX10_has 2 (some .boolean) ∈ tb := mb_2_4 _ (List.mem_of_getElem? (i := 21) rfl)
theorem m_513 : Cond.methodLink RX11 127 yX10_get ∈ tb := mb_2_4 _ (List.mem_of_getElem? (i := 22) rfl)
theorem m_514 : Cond.methodLink RX11 130 yX10_dropOut ∈ tb := mb_2_4 _ (List.mem_of_getElem? (i := 23) rfl)
theorem m_515 : Cond.instanceMethod yX10_dropOut ∈ tb := mb_2_5 _ (List.mem_of_getElem? (i := 0) rfl)
theorem m_516 : Cond.selects RX10 yX10_dropOut yX10_dropOut ∈ tb := mb_2_5 _ (List.mem_of_getElem? (i := 1) rfl)
theorem m_517 : Cond.code yX10_dropOut cX10_dropOut 3 none ∈ tb := mb_2_5 _ (List.mem_of_getElem? (i := 2) rfl)
theorem m_526 : Cond.methodLink RX11 135 yX9_note ∈ tb := mb_2_5 _ (List.mem_of_getElem? (i := 11) rfl)
theorem m_527 : Cond.instanceMethod yX9_note ∈ tb := mb_2_5 _ (List.mem_of_getElem? (i := 12) rfl)
theorem m_528 : Cond.selects RX9 yX9_note yX9_note ∈ tb := mb_2_5 _ (List.mem_of_getElem? (i := 13) rfl)
theorem m_529 : Cond.code yX9_note cX9_note 4 (some .int) ∈ tb := mb_2_5 _ (List.mem_of_getElem? (i := 14) rfl)
theorem m_534 : Cond.methodLink RX11 138 yX9_least ∈ tb := mb_2_5 _ (List.mem_of_getElem? (i := 19) rfl)
theorem m_535 : Cond.instanceMethod yX9_least ∈ tb := mb_2_5 _ (List.mem_of_getElem? (i := 20) rfl)
theorem m_536 : Cond.selects RX9 yX9_least yX9_least ∈ tb := mb_2_5 _ (List.mem_of_getElem? (i := 21) rfl)
theorem m_537 : Cond.code yX9_least cX9_least 5 (some .int) ∈ tb := mb_2_5 _ (List.mem_of_getElem? (i := 22) rfl)
theorem m_553 : Cond.methodLink RX11 141 yX9_greatest ∈ tb := mb_2_6 _ (List.mem_of_getElem? (i := 11) rfl)
theorem m_554 : Cond.instanceMethod yX9_greatest ∈ tb := mb_2_6 _ (List.mem_of_getElem? (i := 12) rfl)
theorem m_555 : Cond.selects RX9 yX9_greatest yX9_greatest ∈ tb := mb_2_6 _ (List.mem_of_getElem? (i := 13) rfl)
theorem m_556 : Cond.code yX9_greatest cX9_greatest 5 (some .int) ∈ tb := mb_3_0 _ (List.mem_of_getElem? (i := 0) rfl)
theorem hd_X0_bring_v : yX0_bring.cls = RX0 ∧ yX0_bring.cls ≠ "java/lang/invoke/MethodHandle" ∧ yX0_bring.cls ≠ "java/lang/invoke/VarHandle" ∧ (parseMethodDescriptor yX0_bring.desc).map (fun d => d.parameters.length) = some 1 := by decide +kernel
theorem hd_X0_has_v : yX0_has.cls = RX0 ∧ yX0_has.cls ≠ "java/lang/invoke/MethodHandle" ∧ yX0_has.cls ≠ "java/lang/invoke/VarHandle" ∧ (parseMethodDescriptor yX0_has.desc).map (fun d => d.parameters.length) = some 1 := by decide +kernel
theorem hd_X10_draw_v : yX10_draw.cls = RX10 ∧ yX10_draw.cls ≠ "java/lang/invoke/MethodHandle" ∧ yX10_draw.cls ≠ "java/lang/invoke/VarHandle" ∧ (parseMethodDescriptor yX10_draw.desc).map (fun d => d.parameters.length) = some 3 := by decide +kernel
theorem hd_X10_drawn_v : yX10_drawn.cls = RX10 ∧ yX10_drawn.cls ≠ "java/lang/invoke/MethodHandle" ∧ yX10_drawn.cls ≠ "java/lang/invoke/VarHandle" ∧ (parseMethodDescriptor yX10_drawn.desc).map (fun d => d.parameters.length) = some 2 := by decide +kernel
theorem hd_X10_dropOut_v : yX10_dropOut.cls = RX10 ∧ yX10_dropOut.cls ≠ "java/lang/invoke/MethodHandle" ∧ yX10_dropOut.cls ≠ "java/lang/invoke/VarHandle" ∧ (parseMethodDescriptor yX10_dropOut.desc).map (fun d => d.parameters.length) = some 2 := by decide +kernel
theorem hd_X10_dryIn_v : yX10_dryIn.cls = RX10 ∧ yX10_dryIn.cls ≠ "java/lang/invoke/MethodHandle" ∧ yX10_dryIn.cls ≠ "java/lang/invoke/VarHandle" ∧ (parseMethodDescriptor yX10_dryIn.desc).map (fun d => d.parameters.length) = some 3 := by decide +kernel
theorem hd_X10_has_v : yX10_has.cls = RX10 ∧ yX10_has.cls ≠ "java/lang/invoke/MethodHandle" ∧ yX10_has.cls ≠ "java/lang/invoke/VarHandle" ∧ (parseMethodDescriptor yX10_has.desc).map (fun d => d.parameters.length) = some 1 := by decide +kernel
theorem hd_X10_weigh_v : yX10_weigh.cls = RX10 ∧ yX10_weigh.cls ≠ "java/lang/invoke/MethodHandle" ∧ yX10_weigh.cls ≠ "java/lang/invoke/VarHandle" ∧ (parseMethodDescriptor yX10_weigh.desc).map (fun d => d.parameters.length) = some 4 := by decide +kernel
theorem hd_X11_within_v : yX11_within.cls = RX11 ∧ yX11_within.cls ≠ "java/lang/invoke/MethodHandle" ∧ yX11_within.cls ≠ "java/lang/invoke/VarHandle" ∧ (parseMethodDescriptor yX11_within.desc).map (fun d => d.parameters.length) = some 3 := by decide +kernel
theorem hd_X9_greatest_v : yX9_greatest.cls = RX9 ∧ yX9_greatest.cls ≠ "java/lang/invoke/MethodHandle" ∧ yX9_greatest.cls ≠ "java/lang/invoke/VarHandle" ∧ (parseMethodDescriptor yX9_greatest.desc).map (fun d => d.parameters.length) = some 2 := by decide +kernel
theorem hd_X9_least_v : yX9_least.cls = RX9 ∧ yX9_least.cls ≠ "java/lang/invoke/MethodHandle" ∧ yX9_least.cls ≠ "java/lang/invoke/VarHandle" ∧ (parseMethodDescriptor yX9_least.desc).map (fun d => d.parameters.length) = some 2 := by decide +kernel
theorem hd_X9_note_v : yX9_note.cls = RX9 ∧ yX9_note.cls ≠ "java/lang/invoke/MethodHandle" ∧ yX9_note.cls ≠ "java/lang/invoke/VarHandle" ∧ (parseMethodDescriptor yX9_note.desc).map (fun d => d.parameters.length) = some 3 := by decide +kernel
set_option maxRecDepth 100000 in
theorem dvX11_bale_0 : ([(0, .iload_n 1, 1), (1, .iconst 1, 1), (2, .ldc 95, 2), (4, .invokestatic 89, 3), (7, .ifCond .ne 6, 3), (10, .ldc 93, 2), (12, .ireturn, 1), (13, .aload_n 0, 1), (14, .getfield 26, 3), (17, .getfield 96, 3), (20, .bipush 10, 2), (22, .if_icmp .lt 6, 3), (25, .ldc 99, 2), (27, .ireturn, 1), (28, .aload_n 0, 1), (29, .getfield 26, 3), (32, .iload_n 1, 1), (33, .invokevirtual 100, 3), (36, .ireturn, 1)] : List (Nat × Instr × Nat)).all (fun q => decide (decode cX11_bale q.1 = .ok (q.2.1, q.2.2))) = true := by decide +kernel
theorem dX11_bale_0 : decode cX11_bale 0 = .ok (.iload_n 1, 1) := all_at dvX11_bale_0 0 rfl
theorem dX11_bale_1 : decode cX11_bale 1 = .ok (.iconst 1, 1) := all_at dvX11_bale_0 1 rfl
theorem dX11_bale_2 : decode cX11_bale 2 = .ok (.ldc 95, 2) := all_at dvX11_bale_0 2 rfl
theorem dX11_bale_4 : decode cX11_bale 4 = .ok (.invokestatic 89, 3) := all_at dvX11_bale_0 3 rfl
theorem dX11_bale_7 : decode cX11_bale 7 = .ok (.ifCond .ne 6, 3) := all_at dvX11_bale_0 4 rfl
theorem dX11_bale_10 : decode cX11_bale 10 = .ok (.ldc 93, 2) := all_at dvX11_bale_0 5 rfl
theorem dX11_bale_12 : decode cX11_bale 12 = .ok (.ireturn, 1) := all_at dvX11_bale_0 6 rfl
theorem dX11_bale_13 : decode cX11_bale 13 = .ok (.aload_n 0, 1) := all_at dvX11_bale_0 7 rfl
theorem dX11_bale_14 : decode cX11_bale 14 = .ok (.getfield 26, 3) := all_at dvX11_bale_0 8 rfl
theorem dX11_bale_17 : decode cX11_bale 17 = .ok (.getfield 96, 3) := all_at dvX11_bale_0 9 rfl
theorem dX11_bale_20 : decode cX11_bale 20 = .ok (.bipush 10, 2) := all_at dvX11_bale_0 10 rfl
theorem dX11_bale_22 : decode cX11_bale 22 = .ok (.if_icmp .lt 6, 3) := all_at dvX11_bale_0 11 rfl
theorem dX11_bale_25 : decode cX11_bale 25 = .ok (.ldc 99, 2) := all_at dvX11_bale_0 12 rfl
theorem dX11_bale_27 : decode cX11_bale 27 = .ok (.ireturn, 1) := all_at dvX11_bale_0 13 rfl
theorem dX11_bale_28 : decode cX11_bale 28 = .ok (.aload_n 0, 1) := all_at dvX11_bale_0 14 rfl
theorem dX11_bale_29 : decode cX11_bale 29 = .ok (.getfield 26, 3) := all_at dvX11_bale_0 15 rfl
theorem dX11_bale_32 : decode cX11_bale 32 = .ok (.iload_n 1, 1) := all_at dvX11_bale_0 16 rfl
theorem dX11_bale_33 : decode cX11_bale 33 = .ok (.invokevirtual 100, 3) := all_at dvX11_bale_0 17 rfl
theorem dX11_bale_36 : decode cX11_bale 36 = .ok (.ireturn, 1) := all_at dvX11_bale_0 18 rfl
set_option maxRecDepth 100000 in
theorem dvX11_error_0 : ([(0, .iload_n 1, 1), (1, .iconst 0, 1), (2, .iconst 3, 1), (3, .invokestatic 89, 3), (6, .ifCond .eq 23, 3), (9, .iload_n 2, 1), (10, .iconst 0, 1), (11, .sipush 3000, 3), (14, .invokestatic 89, 3), (17, .ifCond .eq 12, 3), (20, .iload_n 3, 1), (21, .iconst 0, 1), (22, .iconst 1, 1), (23, .invokestatic 89, 3), (26, .ifCond .ne 6, 3), (29, .ldc 93, 2), (31, .ireturn, 1), (32, .iload_n 3, 1), (33, .ifCond .ne 15, 3), (36, .aload_n 0, 1), (37, .getfield 19, 3), (40, .iload_n 1, 1), (41, .iload_n 2, 1), (42, .invokevirtual 138, 3)] : List (Nat × Instr × Nat)).all (fun q => decide (decode cX11_error q.1 = .ok (q.2.1, q.2.2))) = true := by decide +kernel
theorem dX11_error_0 : decode cX11_error 0 = .ok (.iload_n 1, 1) := all_at dvX11_error_0 0 rfl
theorem dX11_error_1 : decode cX11_error 1 = .ok (.iconst 0, 1) := all_at dvX11_error_0 1 rfl
theorem dX11_error_2 : decode cX11_error 2 = .ok (.iconst 3, 1) := all_at dvX11_error_0 2 rfl
theorem dX11_error_3 : decode cX11_error 3 = .ok (.invokestatic 89, 3) := all_at dvX11_error_0 3 rfl
theorem dX11_error_6 : decode cX11_error 6 = .ok (.ifCond .eq 23, 3) := all_at dvX11_error_0 4 rfl
theorem dX11_error_9 : decode cX11_error 9 = .ok (.iload_n 2, 1) := all_at dvX11_error_0 5 rfl
theorem dX11_error_10 : decode cX11_error 10 = .ok (.iconst 0, 1) := all_at dvX11_error_0 6 rfl
theorem dX11_error_11 : decode cX11_error 11 = .ok (.sipush 3000, 3) := all_at dvX11_error_0 7 rfl
theorem dX11_error_14 : decode cX11_error 14 = .ok (.invokestatic 89, 3) := all_at dvX11_error_0 8 rfl
theorem dX11_error_17 : decode cX11_error 17 = .ok (.ifCond .eq 12, 3) := all_at dvX11_error_0 9 rfl
theorem dX11_error_20 : decode cX11_error 20 = .ok (.iload_n 3, 1) := all_at dvX11_error_0 10 rfl
theorem dX11_error_21 : decode cX11_error 21 = .ok (.iconst 0, 1) := all_at dvX11_error_0 11 rfl
theorem dX11_error_22 : decode cX11_error 22 = .ok (.iconst 1, 1) := all_at dvX11_error_0 12 rfl
theorem dX11_error_23 : decode cX11_error 23 = .ok (.invokestatic 89, 3) := all_at dvX11_error_0 13 rfl
theorem dX11_error_26 : decode cX11_error 26 = .ok (.ifCond .ne 6, 3) := all_at dvX11_error_0 14 rfl
theorem dX11_error_29 : decode cX11_error 29 = .ok (.ldc 93, 2) := all_at dvX11_error_0 15 rfl
theorem dX11_error_31 : decode cX11_error 31 = .ok (.ireturn, 1) := all_at dvX11_error_0 16 rfl
theorem dX11_error_32 : decode cX11_error 32 = .ok (.iload_n 3, 1) := all_at dvX11_error_0 17 rfl
theorem dX11_error_33 : decode cX11_error 33 = .ok (.ifCond .ne 15, 3) := all_at dvX11_error_0 18 rfl
theorem dX11_error_36 : decode cX11_error 36 = .ok (.aload_n 0, 1) := all_at dvX11_error_0 19 rfl
theorem dX11_error_37 : decode cX11_error 37 = .ok (.getfield 19, 3) := all_at dvX11_error_0 20 rfl
theorem dX11_error_40 : decode cX11_error 40 = .ok (.iload_n 1, 1) := all_at dvX11_error_0 21 rfl
theorem dX11_error_41 : decode cX11_error 41 = .ok (.iload_n 2, 1) := all_at dvX11_error_0 22 rfl
theorem dX11_error_42 : decode cX11_error 42 = .ok (.invokevirtual 138, 3) := all_at dvX11_error_0 23 rfl
set_option maxRecDepth 100000 in
theorem dvX11_error_45 : ([(45, .goto 12, 3), (48, .aload_n 0, 1), (49, .getfield 19, 3), (52, .iload_n 1, 1), (53, .iload_n 2, 1), (54, .invokevirtual 141, 3), (57, .ireturn, 1)] : List (Nat × Instr × Nat)).all (fun q => decide (decode cX11_error q.1 = .ok (q.2.1, q.2.2))) = true := by decide +kernel
theorem dX11_error_45 : decode cX11_error 45 = .ok (.goto 12, 3) := all_at dvX11_error_45 0 rfl
theorem dX11_error_48 : decode cX11_error 48 = .ok (.aload_n 0, 1) := all_at dvX11_error_45 1 rfl
theorem dX11_error_49 : decode cX11_error 49 = .ok (.getfield 19, 3) := all_at dvX11_error_45 2 rfl
theorem dX11_error_52 : decode cX11_error 52 = .ok (.iload_n 1, 1) := all_at dvX11_error_45 3 rfl
theorem dX11_error_53 : decode cX11_error 53 = .ok (.iload_n 2, 1) := all_at dvX11_error_45 4 rfl
theorem dX11_error_54 : decode cX11_error 54 = .ok (.invokevirtual 141, 3) := all_at dvX11_error_45 5 rfl
theorem dX11_error_57 : decode cX11_error 57 = .ok (.ireturn, 1) := all_at dvX11_error_45 6 rfl
set_option maxRecDepth 100000 in
theorem dvX11_go_0 : ([(0, .iload_n 1, 1), (1, .iconst 0, 1), (2, .sipush 999, 3), (5, .invokestatic 89, 3), (8, .ifCond .ne 6, 3), (11, .ldc 93, 2), (13, .ireturn, 1), (14, .aload_n 0, 1), (15, .getfield 85, 3), (18, .iload_n 1, 1), (19, .iadd, 1), (20, .sipush 3000, 3), (23, .if_icmp .le 6, 3), (26, .ldc 94, 2), (28, .ireturn, 1), (29, .aload_n 0, 1), (30, .dup, 1), (31, .getfield 85, 3), (34, .iload_n 1, 1), (35, .iadd, 1), (36, .putfield 85, 3), (39, .aload_n 0, 1), (40, .getfield 85, 3), (43, .ireturn, 1)] : List (Nat × Instr × Nat)).all (fun q => decide (decode cX11_go q.1 = .ok (q.2.1, q.2.2))) = true := by decide +kernel
theorem dX11_go_0 : decode cX11_go 0 = .ok (.iload_n 1, 1) := all_at dvX11_go_0 0 rfl
theorem dX11_go_1 : decode cX11_go 1 = .ok (.iconst 0, 1) := all_at dvX11_go_0 1 rfl
theorem dX11_go_2 : decode cX11_go 2 = .ok (.sipush 999, 3) := all_at dvX11_go_0 2 rfl
theorem dX11_go_5 : decode cX11_go 5 = .ok (.invokestatic 89, 3) := all_at dvX11_go_0 3 rfl
theorem dX11_go_8 : decode cX11_go 8 = .ok (.ifCond .ne 6, 3) := all_at dvX11_go_0 4 rfl
theorem dX11_go_11 : decode cX11_go 11 = .ok (.ldc 93, 2) := all_at dvX11_go_0 5 rfl
theorem dX11_go_13 : decode cX11_go 13 = .ok (.ireturn, 1) := all_at dvX11_go_0 6 rfl
theorem dX11_go_14 : decode cX11_go 14 = .ok (.aload_n 0, 1) := all_at dvX11_go_0 7 rfl
theorem dX11_go_15 : decode cX11_go 15 = .ok (.getfield 85, 3) := all_at dvX11_go_0 8 rfl
theorem dX11_go_18 : decode cX11_go 18 = .ok (.iload_n 1, 1) := all_at dvX11_go_0 9 rfl
theorem dX11_go_19 : decode cX11_go 19 = .ok (.iadd, 1) := all_at dvX11_go_0 10 rfl
theorem dX11_go_20 : decode cX11_go 20 = .ok (.sipush 3000, 3) := all_at dvX11_go_0 11 rfl
theorem dX11_go_23 : decode cX11_go 23 = .ok (.if_icmp .le 6, 3) := all_at dvX11_go_0 12 rfl
theorem dX11_go_26 : decode cX11_go 26 = .ok (.ldc 94, 2) := all_at dvX11_go_0 13 rfl
theorem dX11_go_28 : decode cX11_go 28 = .ok (.ireturn, 1) := all_at dvX11_go_0 14 rfl
theorem dX11_go_29 : decode cX11_go 29 = .ok (.aload_n 0, 1) := all_at dvX11_go_0 15 rfl
theorem dX11_go_30 : decode cX11_go 30 = .ok (.dup, 1) := all_at dvX11_go_0 16 rfl
theorem dX11_go_31 : decode cX11_go 31 = .ok (.getfield 85, 3) := all_at dvX11_go_0 17 rfl
theorem dX11_go_34 : decode cX11_go 34 = .ok (.iload_n 1, 1) := all_at dvX11_go_0 18 rfl
theorem dX11_go_35 : decode cX11_go 35 = .ok (.iadd, 1) := all_at dvX11_go_0 19 rfl
theorem dX11_go_36 : decode cX11_go 36 = .ok (.putfield 85, 3) := all_at dvX11_go_0 20 rfl
theorem dX11_go_39 : decode cX11_go 39 = .ok (.aload_n 0, 1) := all_at dvX11_go_0 21 rfl
theorem dX11_go_40 : decode cX11_go 40 = .ok (.getfield 85, 3) := all_at dvX11_go_0 22 rfl
theorem dX11_go_43 : decode cX11_go 43 = .ok (.ireturn, 1) := all_at dvX11_go_0 23 rfl
set_option maxRecDepth 100000 in
theorem dvX11_lose_0 : ([(0, .aload_n 0, 1), (1, .getfield 10, 3), (4, .iload_n 1, 1), (5, .invokevirtual 126, 3), (8, .ifCond .ne 6, 3), (11, .ldc 108, 2), (13, .ireturn, 1), (14, .aload_n 0, 1), (15, .getfield 10, 3), (18, .iload_n 1, 1), (19, .bipush 8, 2), (21, .invokevirtual 127, 3), (24, .iconst (-1), 1), (25, .if_icmp .eq 6, 3), (28, .ldc 94, 2), (30, .ireturn, 1), (31, .aload_n 0, 1), (32, .getfield 10, 3), (35, .iload_n 1, 1), (36, .aload_n 0, 1), (37, .getfield 85, 3), (40, .invokevirtual 130, 3), (43, .iconst 1, 1), (44, .ireturn, 1)] : List (Nat × Instr × Nat)).all (fun q => decide (decode cX11_lose q.1 = .ok (q.2.1, q.2.2))) = true := by decide +kernel
theorem dX11_lose_0 : decode cX11_lose 0 = .ok (.aload_n 0, 1) := all_at dvX11_lose_0 0 rfl
theorem dX11_lose_1 : decode cX11_lose 1 = .ok (.getfield 10, 3) := all_at dvX11_lose_0 1 rfl
theorem dX11_lose_4 : decode cX11_lose 4 = .ok (.iload_n 1, 1) := all_at dvX11_lose_0 2 rfl
theorem dX11_lose_5 : decode cX11_lose 5 = .ok (.invokevirtual 126, 3) := all_at dvX11_lose_0 3 rfl
theorem dX11_lose_8 : decode cX11_lose 8 = .ok (.ifCond .ne 6, 3) := all_at dvX11_lose_0 4 rfl
theorem dX11_lose_11 : decode cX11_lose 11 = .ok (.ldc 108, 2) := all_at dvX11_lose_0 5 rfl
theorem dX11_lose_13 : decode cX11_lose 13 = .ok (.ireturn, 1) := all_at dvX11_lose_0 6 rfl
theorem dX11_lose_14 : decode cX11_lose 14 = .ok (.aload_n 0, 1) := all_at dvX11_lose_0 7 rfl
theorem dX11_lose_15 : decode cX11_lose 15 = .ok (.getfield 10, 3) := all_at dvX11_lose_0 8 rfl
theorem dX11_lose_18 : decode cX11_lose 18 = .ok (.iload_n 1, 1) := all_at dvX11_lose_0 9 rfl
theorem dX11_lose_19 : decode cX11_lose 19 = .ok (.bipush 8, 2) := all_at dvX11_lose_0 10 rfl
theorem dX11_lose_21 : decode cX11_lose 21 = .ok (.invokevirtual 127, 3) := all_at dvX11_lose_0 11 rfl
theorem dX11_lose_24 : decode cX11_lose 24 = .ok (.iconst (-1), 1) := all_at dvX11_lose_0 12 rfl
theorem dX11_lose_25 : decode cX11_lose 25 = .ok (.if_icmp .eq 6, 3) := all_at dvX11_lose_0 13 rfl
theorem dX11_lose_28 : decode cX11_lose 28 = .ok (.ldc 94, 2) := all_at dvX11_lose_0 14 rfl
theorem dX11_lose_30 : decode cX11_lose 30 = .ok (.ireturn, 1) := all_at dvX11_lose_0 15 rfl
theorem dX11_lose_31 : decode cX11_lose 31 = .ok (.aload_n 0, 1) := all_at dvX11_lose_0 16 rfl
theorem dX11_lose_32 : decode cX11_lose 32 = .ok (.getfield 10, 3) := all_at dvX11_lose_0 17 rfl
theorem dX11_lose_35 : decode cX11_lose 35 = .ok (.iload_n 1, 1) := all_at dvX11_lose_0 18 rfl
theorem dX11_lose_36 : decode cX11_lose 36 = .ok (.aload_n 0, 1) := all_at dvX11_lose_0 19 rfl
theorem dX11_lose_37 : decode cX11_lose 37 = .ok (.getfield 85, 3) := all_at dvX11_lose_0 20 rfl
theorem dX11_lose_40 : decode cX11_lose 40 = .ok (.invokevirtual 130, 3) := all_at dvX11_lose_0 21 rfl
theorem dX11_lose_43 : decode cX11_lose 43 = .ok (.iconst 1, 1) := all_at dvX11_lose_0 22 rfl
theorem dX11_lose_44 : decode cX11_lose 44 = .ok (.ireturn, 1) := all_at dvX11_lose_0 23 rfl
set_option maxRecDepth 100000 in
theorem dvX11_skein_0 : ([(0, .aload_n 0, 1), (1, .getfield 26, 3), (4, .iload_n 1, 1), (5, .invokevirtual 104, 3), (8, .ifCond .ne 6, 3), (11, .ldc 108, 2), (13, .ireturn, 1), (14, .iload_n 2, 1), (15, .iconst 0, 1), (16, .iconst 2, 1), (17, .invokestatic 89, 3), (20, .ifCond .eq 33, 3), (23, .iload_n 3, 1), (24, .iconst 0, 1), (25, .iconst 3, 1), (26, .invokestatic 89, 3), (29, .ifCond .eq 24, 3), (32, .iload 6, 2), (34, .iconst 0, 1), (35, .iconst 3, 1), (36, .invokestatic 89, 3), (39, .ifCond .eq 14, 3), (42, .iload 7, 2), (44, .iconst 0, 1)] : List (Nat × Instr × Nat)).all (fun q => decide (decode cX11_skein q.1 = .ok (q.2.1, q.2.2))) = true := by decide +kernel
theorem dX11_skein_0 : decode cX11_skein 0 = .ok (.aload_n 0, 1) := all_at dvX11_skein_0 0 rfl
theorem dX11_skein_1 : decode cX11_skein 1 = .ok (.getfield 26, 3) := all_at dvX11_skein_0 1 rfl
theorem dX11_skein_4 : decode cX11_skein 4 = .ok (.iload_n 1, 1) := all_at dvX11_skein_0 2 rfl
theorem dX11_skein_5 : decode cX11_skein 5 = .ok (.invokevirtual 104, 3) := all_at dvX11_skein_0 3 rfl
theorem dX11_skein_8 : decode cX11_skein 8 = .ok (.ifCond .ne 6, 3) := all_at dvX11_skein_0 4 rfl
theorem dX11_skein_11 : decode cX11_skein 11 = .ok (.ldc 108, 2) := all_at dvX11_skein_0 5 rfl
theorem dX11_skein_13 : decode cX11_skein 13 = .ok (.ireturn, 1) := all_at dvX11_skein_0 6 rfl
theorem dX11_skein_14 : decode cX11_skein 14 = .ok (.iload_n 2, 1) := all_at dvX11_skein_0 7 rfl
theorem dX11_skein_15 : decode cX11_skein 15 = .ok (.iconst 0, 1) := all_at dvX11_skein_0 8 rfl
theorem dX11_skein_16 : decode cX11_skein 16 = .ok (.iconst 2, 1) := all_at dvX11_skein_0 9 rfl
theorem dX11_skein_17 : decode cX11_skein 17 = .ok (.invokestatic 89, 3) := all_at dvX11_skein_0 10 rfl
theorem dX11_skein_20 : decode cX11_skein 20 = .ok (.ifCond .eq 33, 3) := all_at dvX11_skein_0 11 rfl
theorem dX11_skein_23 : decode cX11_skein 23 = .ok (.iload_n 3, 1) := all_at dvX11_skein_0 12 rfl
theorem dX11_skein_24 : decode cX11_skein 24 = .ok (.iconst 0, 1) := all_at dvX11_skein_0 13 rfl
theorem dX11_skein_25 : decode cX11_skein 25 = .ok (.iconst 3, 1) := all_at dvX11_skein_0 14 rfl
theorem dX11_skein_26 : decode cX11_skein 26 = .ok (.invokestatic 89, 3) := all_at dvX11_skein_0 15 rfl
theorem dX11_skein_29 : decode cX11_skein 29 = .ok (.ifCond .eq 24, 3) := all_at dvX11_skein_0 16 rfl
theorem dX11_skein_32 : decode cX11_skein 32 = .ok (.iload 6, 2) := all_at dvX11_skein_0 17 rfl
theorem dX11_skein_34 : decode cX11_skein 34 = .ok (.iconst 0, 1) := all_at dvX11_skein_0 18 rfl
theorem dX11_skein_35 : decode cX11_skein 35 = .ok (.iconst 3, 1) := all_at dvX11_skein_0 19 rfl
theorem dX11_skein_36 : decode cX11_skein 36 = .ok (.invokestatic 89, 3) := all_at dvX11_skein_0 20 rfl
theorem dX11_skein_39 : decode cX11_skein 39 = .ok (.ifCond .eq 14, 3) := all_at dvX11_skein_0 21 rfl
theorem dX11_skein_42 : decode cX11_skein 42 = .ok (.iload 7, 2) := all_at dvX11_skein_0 22 rfl
theorem dX11_skein_44 : decode cX11_skein 44 = .ok (.iconst 0, 1) := all_at dvX11_skein_0 23 rfl
set_option maxRecDepth 100000 in
theorem dvX11_skein_45 : ([(45, .bipush 7, 2), (47, .invokestatic 89, 3), (50, .ifCond .ne 6, 3), (53, .ldc 93, 2), (55, .ireturn, 1), (56, .iload 4, 2), (58, .bipush 100, 2), (60, .sipush 9999, 3), (63, .invokestatic 89, 3), (66, .ifCond .eq 15, 3), (69, .iload 5, 2), (71, .bipush 50, 2), (73, .iload 4, 2), (75, .invokestatic 89, 3), (78, .ifCond .ne 6, 3), (81, .ldc 93, 2), (83, .ireturn, 1), (84, .aload_n 0, 1), (85, .getfield 10, 3), (88, .getfield 109, 3), (91, .bipush 60, 2), (93, .if_icmp .ge 17, 3), (96, .aload_n 0, 1), (97, .getfield 10, 3)] : List (Nat × Instr × Nat)).all (fun q => decide (decode cX11_skein q.1 = .ok (q.2.1, q.2.2))) = true := by decide +kernel
theorem dX11_skein_45 : decode cX11_skein 45 = .ok (.bipush 7, 2) := all_at dvX11_skein_45 0 rfl
theorem dX11_skein_47 : decode cX11_skein 47 = .ok (.invokestatic 89, 3) := all_at dvX11_skein_45 1 rfl
theorem dX11_skein_50 : decode cX11_skein 50 = .ok (.ifCond .ne 6, 3) := all_at dvX11_skein_45 2 rfl
theorem dX11_skein_53 : decode cX11_skein 53 = .ok (.ldc 93, 2) := all_at dvX11_skein_45 3 rfl
theorem dX11_skein_55 : decode cX11_skein 55 = .ok (.ireturn, 1) := all_at dvX11_skein_45 4 rfl
theorem dX11_skein_56 : decode cX11_skein 56 = .ok (.iload 4, 2) := all_at dvX11_skein_45 5 rfl
theorem dX11_skein_58 : decode cX11_skein 58 = .ok (.bipush 100, 2) := all_at dvX11_skein_45 6 rfl
theorem dX11_skein_60 : decode cX11_skein 60 = .ok (.sipush 9999, 3) := all_at dvX11_skein_45 7 rfl
theorem dX11_skein_63 : decode cX11_skein 63 = .ok (.invokestatic 89, 3) := all_at dvX11_skein_45 8 rfl
theorem dX11_skein_66 : decode cX11_skein 66 = .ok (.ifCond .eq 15, 3) := all_at dvX11_skein_45 9 rfl
theorem dX11_skein_69 : decode cX11_skein 69 = .ok (.iload 5, 2) := all_at dvX11_skein_45 10 rfl
theorem dX11_skein_71 : decode cX11_skein 71 = .ok (.bipush 50, 2) := all_at dvX11_skein_45 11 rfl
theorem dX11_skein_73 : decode cX11_skein 73 = .ok (.iload 4, 2) := all_at dvX11_skein_45 12 rfl
theorem dX11_skein_75 : decode cX11_skein 75 = .ok (.invokestatic 89, 3) := all_at dvX11_skein_45 13 rfl
theorem dX11_skein_78 : decode cX11_skein 78 = .ok (.ifCond .ne 6, 3) := all_at dvX11_skein_45 14 rfl
theorem dX11_skein_81 : decode cX11_skein 81 = .ok (.ldc 93, 2) := all_at dvX11_skein_45 15 rfl
theorem dX11_skein_83 : decode cX11_skein 83 = .ok (.ireturn, 1) := all_at dvX11_skein_45 16 rfl
theorem dX11_skein_84 : decode cX11_skein 84 = .ok (.aload_n 0, 1) := all_at dvX11_skein_45 17 rfl
theorem dX11_skein_85 : decode cX11_skein 85 = .ok (.getfield 10, 3) := all_at dvX11_skein_45 18 rfl
theorem dX11_skein_88 : decode cX11_skein 88 = .ok (.getfield 109, 3) := all_at dvX11_skein_45 19 rfl
theorem dX11_skein_91 : decode cX11_skein 91 = .ok (.bipush 60, 2) := all_at dvX11_skein_45 20 rfl
theorem dX11_skein_93 : decode cX11_skein 93 = .ok (.if_icmp .ge 17, 3) := all_at dvX11_skein_45 21 rfl
theorem dX11_skein_96 : decode cX11_skein 96 = .ok (.aload_n 0, 1) := all_at dvX11_skein_45 22 rfl
theorem dX11_skein_97 : decode cX11_skein 97 = .ok (.getfield 10, 3) := all_at dvX11_skein_45 23 rfl
set_option maxRecDepth 100000 in
theorem dvX11_skein_100 : ([(100, .iload_n 1, 1), (101, .iload_n 2, 1), (102, .invokevirtual 110, 3), (105, .bipush 12, 2), (107, .if_icmp .lt 6, 3), (110, .ldc 99, 2), (112, .ireturn, 1), (113, .aload_n 0, 1), (114, .getfield 10, 3), (117, .iload_n 1, 1), (118, .iload_n 2, 1), (119, .aload_n 0, 1), (120, .getfield 85, 3), (123, .invokevirtual 114, 3), (126, .istore 8, 2), (128, .aload_n 0, 1), (129, .getfield 10, 3), (132, .iload 8, 2), (134, .iload_n 3, 1), (135, .iload 4, 2), (137, .iload 5, 2), (139, .invokevirtual 118, 3), (142, .aload_n 0, 1), (143, .getfield 10, 3)] : List (Nat × Instr × Nat)).all (fun q => decide (decode cX11_skein q.1 = .ok (q.2.1, q.2.2))) = true := by decide +kernel
theorem dX11_skein_100 : decode cX11_skein 100 = .ok (.iload_n 1, 1) := all_at dvX11_skein_100 0 rfl
theorem dX11_skein_101 : decode cX11_skein 101 = .ok (.iload_n 2, 1) := all_at dvX11_skein_100 1 rfl
theorem dX11_skein_102 : decode cX11_skein 102 = .ok (.invokevirtual 110, 3) := all_at dvX11_skein_100 2 rfl
theorem dX11_skein_105 : decode cX11_skein 105 = .ok (.bipush 12, 2) := all_at dvX11_skein_100 3 rfl
theorem dX11_skein_107 : decode cX11_skein 107 = .ok (.if_icmp .lt 6, 3) := all_at dvX11_skein_100 4 rfl
theorem dX11_skein_110 : decode cX11_skein 110 = .ok (.ldc 99, 2) := all_at dvX11_skein_100 5 rfl
theorem dX11_skein_112 : decode cX11_skein 112 = .ok (.ireturn, 1) := all_at dvX11_skein_100 6 rfl
theorem dX11_skein_113 : decode cX11_skein 113 = .ok (.aload_n 0, 1) := all_at dvX11_skein_100 7 rfl
theorem dX11_skein_114 : decode cX11_skein 114 = .ok (.getfield 10, 3) := all_at dvX11_skein_100 8 rfl
theorem dX11_skein_117 : decode cX11_skein 117 = .ok (.iload_n 1, 1) := all_at dvX11_skein_100 9 rfl
theorem dX11_skein_118 : decode cX11_skein 118 = .ok (.iload_n 2, 1) := all_at dvX11_skein_100 10 rfl
theorem dX11_skein_119 : decode cX11_skein 119 = .ok (.aload_n 0, 1) := all_at dvX11_skein_100 11 rfl
theorem dX11_skein_120 : decode cX11_skein 120 = .ok (.getfield 85, 3) := all_at dvX11_skein_100 12 rfl
theorem dX11_skein_123 : decode cX11_skein 123 = .ok (.invokevirtual 114, 3) := all_at dvX11_skein_100 13 rfl
theorem dX11_skein_126 : decode cX11_skein 126 = .ok (.istore 8, 2) := all_at dvX11_skein_100 14 rfl
theorem dX11_skein_128 : decode cX11_skein 128 = .ok (.aload_n 0, 1) := all_at dvX11_skein_100 15 rfl
theorem dX11_skein_129 : decode cX11_skein 129 = .ok (.getfield 10, 3) := all_at dvX11_skein_100 16 rfl
theorem dX11_skein_132 : decode cX11_skein 132 = .ok (.iload 8, 2) := all_at dvX11_skein_100 17 rfl
theorem dX11_skein_134 : decode cX11_skein 134 = .ok (.iload_n 3, 1) := all_at dvX11_skein_100 18 rfl
theorem dX11_skein_135 : decode cX11_skein 135 = .ok (.iload 4, 2) := all_at dvX11_skein_100 19 rfl
theorem dX11_skein_137 : decode cX11_skein 137 = .ok (.iload 5, 2) := all_at dvX11_skein_100 20 rfl
theorem dX11_skein_139 : decode cX11_skein 139 = .ok (.invokevirtual 118, 3) := all_at dvX11_skein_100 21 rfl
theorem dX11_skein_142 : decode cX11_skein 142 = .ok (.aload_n 0, 1) := all_at dvX11_skein_100 22 rfl
theorem dX11_skein_143 : decode cX11_skein 143 = .ok (.getfield 10, 3) := all_at dvX11_skein_100 23 rfl
set_option maxRecDepth 100000 in
theorem dvX11_skein_146 : ([(146, .iload 8, 2), (148, .iload 6, 2), (150, .iload 7, 2), (152, .invokevirtual 122, 3), (155, .iload 8, 2), (157, .ireturn, 1)] : List (Nat × Instr × Nat)).all (fun q => decide (decode cX11_skein q.1 = .ok (q.2.1, q.2.2))) = true := by decide +kernel
theorem dX11_skein_146 : decode cX11_skein 146 = .ok (.iload 8, 2) := all_at dvX11_skein_146 0 rfl
theorem dX11_skein_148 : decode cX11_skein 148 = .ok (.iload 6, 2) := all_at dvX11_skein_146 1 rfl
theorem dX11_skein_150 : decode cX11_skein 150 = .ok (.iload 7, 2) := all_at dvX11_skein_146 2 rfl
theorem dX11_skein_152 : decode cX11_skein 152 = .ok (.invokevirtual 122, 3) := all_at dvX11_skein_146 3 rfl
theorem dX11_skein_155 : decode cX11_skein 155 = .ok (.iload 8, 2) := all_at dvX11_skein_146 4 rfl
theorem dX11_skein_157 : decode cX11_skein 157 = .ok (.ireturn, 1) := all_at dvX11_skein_146 5 rfl
set_option maxRecDepth 100000 in
theorem dvX11_test_0 : ([(0, .iload_n 1, 1), (1, .iconst 0, 1), (2, .iconst 3, 1), (3, .invokestatic 89, 3), (6, .ifCond .eq 25, 3), (9, .iload_n 2, 1), (10, .iconst 1, 1), (11, .sipush 9999, 3), (14, .invokestatic 89, 3), (17, .ifCond .eq 14, 3), (20, .iload_n 3, 1), (21, .iconst 1, 1), (22, .sipush 9999, 3), (25, .invokestatic 89, 3), (28, .ifCond .ne 6, 3), (31, .ldc 93, 2), (33, .ireturn, 1), (34, .aload_n 0, 1), (35, .getfield 19, 3), (38, .getfield 134, 3), (41, .bipush 30, 2), (43, .if_icmp .lt 6, 3), (46, .ldc 99, 2), (48, .ireturn, 1)] : List (Nat × Instr × Nat)).all (fun q => decide (decode cX11_test q.1 = .ok (q.2.1, q.2.2))) = true := by decide +kernel
theorem dX11_test_0 : decode cX11_test 0 = .ok (.iload_n 1, 1) := all_at dvX11_test_0 0 rfl
theorem dX11_test_1 : decode cX11_test 1 = .ok (.iconst 0, 1) := all_at dvX11_test_0 1 rfl
theorem dX11_test_2 : decode cX11_test 2 = .ok (.iconst 3, 1) := all_at dvX11_test_0 2 rfl
theorem dX11_test_3 : decode cX11_test 3 = .ok (.invokestatic 89, 3) := all_at dvX11_test_0 3 rfl
theorem dX11_test_6 : decode cX11_test 6 = .ok (.ifCond .eq 25, 3) := all_at dvX11_test_0 4 rfl
theorem dX11_test_9 : decode cX11_test 9 = .ok (.iload_n 2, 1) := all_at dvX11_test_0 5 rfl
theorem dX11_test_10 : decode cX11_test 10 = .ok (.iconst 1, 1) := all_at dvX11_test_0 6 rfl
theorem dX11_test_11 : decode cX11_test 11 = .ok (.sipush 9999, 3) := all_at dvX11_test_0 7 rfl
theorem dX11_test_14 : decode cX11_test 14 = .ok (.invokestatic 89, 3) := all_at dvX11_test_0 8 rfl
theorem dX11_test_17 : decode cX11_test 17 = .ok (.ifCond .eq 14, 3) := all_at dvX11_test_0 9 rfl
theorem dX11_test_20 : decode cX11_test 20 = .ok (.iload_n 3, 1) := all_at dvX11_test_0 10 rfl
theorem dX11_test_21 : decode cX11_test 21 = .ok (.iconst 1, 1) := all_at dvX11_test_0 11 rfl
theorem dX11_test_22 : decode cX11_test 22 = .ok (.sipush 9999, 3) := all_at dvX11_test_0 12 rfl
theorem dX11_test_25 : decode cX11_test 25 = .ok (.invokestatic 89, 3) := all_at dvX11_test_0 13 rfl
theorem dX11_test_28 : decode cX11_test 28 = .ok (.ifCond .ne 6, 3) := all_at dvX11_test_0 14 rfl
theorem dX11_test_31 : decode cX11_test 31 = .ok (.ldc 93, 2) := all_at dvX11_test_0 15 rfl
theorem dX11_test_33 : decode cX11_test 33 = .ok (.ireturn, 1) := all_at dvX11_test_0 16 rfl
theorem dX11_test_34 : decode cX11_test 34 = .ok (.aload_n 0, 1) := all_at dvX11_test_0 17 rfl
theorem dX11_test_35 : decode cX11_test 35 = .ok (.getfield 19, 3) := all_at dvX11_test_0 18 rfl
theorem dX11_test_38 : decode cX11_test 38 = .ok (.getfield 134, 3) := all_at dvX11_test_0 19 rfl
theorem dX11_test_41 : decode cX11_test 41 = .ok (.bipush 30, 2) := all_at dvX11_test_0 20 rfl
theorem dX11_test_43 : decode cX11_test 43 = .ok (.if_icmp .lt 6, 3) := all_at dvX11_test_0 21 rfl
theorem dX11_test_46 : decode cX11_test 46 = .ok (.ldc 99, 2) := all_at dvX11_test_0 22 rfl
theorem dX11_test_48 : decode cX11_test 48 = .ok (.ireturn, 1) := all_at dvX11_test_0 23 rfl
set_option maxRecDepth 100000 in
theorem dvX11_test_49 : ([(49, .aload_n 0, 1), (50, .getfield 19, 3), (53, .iload_n 1, 1), (54, .aload_n 0, 1), (55, .getfield 85, 3), (58, .iload_n 2, 1), (59, .iload_n 3, 1), (60, .isub, 1), (61, .invokevirtual 135, 3), (64, .ireturn, 1)] : List (Nat × Instr × Nat)).all (fun q => decide (decode cX11_test q.1 = .ok (q.2.1, q.2.2))) = true := by decide +kernel
theorem dX11_test_49 : decode cX11_test 49 = .ok (.aload_n 0, 1) := all_at dvX11_test_49 0 rfl
theorem dX11_test_50 : decode cX11_test 50 = .ok (.getfield 19, 3) := all_at dvX11_test_49 1 rfl
theorem dX11_test_53 : decode cX11_test 53 = .ok (.iload_n 1, 1) := all_at dvX11_test_49 2 rfl
theorem dX11_test_54 : decode cX11_test 54 = .ok (.aload_n 0, 1) := all_at dvX11_test_49 3 rfl
theorem dX11_test_55 : decode cX11_test 55 = .ok (.getfield 85, 3) := all_at dvX11_test_49 4 rfl
theorem dX11_test_58 : decode cX11_test 58 = .ok (.iload_n 2, 1) := all_at dvX11_test_49 5 rfl
theorem dX11_test_59 : decode cX11_test 59 = .ok (.iload_n 3, 1) := all_at dvX11_test_49 6 rfl
theorem dX11_test_60 : decode cX11_test 60 = .ok (.isub, 1) := all_at dvX11_test_49 7 rfl
theorem dX11_test_61 : decode cX11_test 61 = .ok (.invokevirtual 135, 3) := all_at dvX11_test_49 8 rfl
theorem dX11_test_64 : decode cX11_test 64 = .ok (.ireturn, 1) := all_at dvX11_test_49 9 rfl
set_option maxRecDepth 100000 in
theorem dvX11_told_0 : ([(0, .aload_n 0, 1), (1, .getfield 10, 3), (4, .iload_n 1, 1), (5, .invokevirtual 126, 3), (8, .ifCond .ne 6, 3), (11, .ldc 108, 2), (13, .ireturn, 1), (14, .iload_n 2, 1), (15, .iconst 0, 1), (16, .bipush 8, 2), (18, .invokestatic 89, 3), (21, .ifCond .eq 15, 3), (24, .aload_n 0, 1), (25, .getfield 10, 3), (28, .iload_n 1, 1), (29, .iload_n 2, 1), (30, .invokevirtual 127, 3), (33, .goto 5, 3), (36, .ldc 93, 2), (38, .ireturn, 1)] : List (Nat × Instr × Nat)).all (fun q => decide (decode cX11_told q.1 = .ok (q.2.1, q.2.2))) = true := by decide +kernel
theorem dX11_told_0 : decode cX11_told 0 = .ok (.aload_n 0, 1) := all_at dvX11_told_0 0 rfl
theorem dX11_told_1 : decode cX11_told 1 = .ok (.getfield 10, 3) := all_at dvX11_told_0 1 rfl
theorem dX11_told_4 : decode cX11_told 4 = .ok (.iload_n 1, 1) := all_at dvX11_told_0 2 rfl
theorem dX11_told_5 : decode cX11_told 5 = .ok (.invokevirtual 126, 3) := all_at dvX11_told_0 3 rfl
theorem dX11_told_8 : decode cX11_told 8 = .ok (.ifCond .ne 6, 3) := all_at dvX11_told_0 4 rfl
theorem dX11_told_11 : decode cX11_told 11 = .ok (.ldc 108, 2) := all_at dvX11_told_0 5 rfl
theorem dX11_told_13 : decode cX11_told 13 = .ok (.ireturn, 1) := all_at dvX11_told_0 6 rfl
theorem dX11_told_14 : decode cX11_told 14 = .ok (.iload_n 2, 1) := all_at dvX11_told_0 7 rfl
theorem dX11_told_15 : decode cX11_told 15 = .ok (.iconst 0, 1) := all_at dvX11_told_0 8 rfl
theorem dX11_told_16 : decode cX11_told 16 = .ok (.bipush 8, 2) := all_at dvX11_told_0 9 rfl
theorem dX11_told_18 : decode cX11_told 18 = .ok (.invokestatic 89, 3) := all_at dvX11_told_0 10 rfl
theorem dX11_told_21 : decode cX11_told 21 = .ok (.ifCond .eq 15, 3) := all_at dvX11_told_0 11 rfl
theorem dX11_told_24 : decode cX11_told 24 = .ok (.aload_n 0, 1) := all_at dvX11_told_0 12 rfl
theorem dX11_told_25 : decode cX11_told 25 = .ok (.getfield 10, 3) := all_at dvX11_told_0 13 rfl
theorem dX11_told_28 : decode cX11_told 28 = .ok (.iload_n 1, 1) := all_at dvX11_told_0 14 rfl
theorem dX11_told_29 : decode cX11_told 29 = .ok (.iload_n 2, 1) := all_at dvX11_told_0 15 rfl
theorem dX11_told_30 : decode cX11_told 30 = .ok (.invokevirtual 127, 3) := all_at dvX11_told_0 16 rfl
theorem dX11_told_33 : decode cX11_told 33 = .ok (.goto 5, 3) := all_at dvX11_told_0 17 rfl
theorem dX11_told_36 : decode cX11_told 36 = .ok (.ldc 93, 2) := all_at dvX11_told_0 18 rfl
theorem dX11_told_38 : decode cX11_told 38 = .ok (.ireturn, 1) := all_at dvX11_told_0 19 rfl
set_option maxRecDepth 100000 in
theorem dvX11_within_0 : ([(0, .iload_n 0, 1), (1, .iload_n 1, 1), (2, .if_icmp .lt 12, 3), (5, .iload_n 0, 1), (6, .iload_n 2, 1), (7, .if_icmp .gt 7, 3), (10, .iconst 1, 1), (11, .goto 4, 3), (14, .iconst 0, 1), (15, .ireturn, 1)] : List (Nat × Instr × Nat)).all (fun q => decide (decode cX11_within q.1 = .ok (q.2.1, q.2.2))) = true := by decide +kernel
theorem dX11_within_0 : decode cX11_within 0 = .ok (.iload_n 0, 1) := all_at dvX11_within_0 0 rfl
theorem dX11_within_1 : decode cX11_within 1 = .ok (.iload_n 1, 1) := all_at dvX11_within_0 1 rfl
theorem dX11_within_2 : decode cX11_within 2 = .ok (.if_icmp .lt 12, 3) := all_at dvX11_within_0 2 rfl
theorem dX11_within_5 : decode cX11_within 5 = .ok (.iload_n 0, 1) := all_at dvX11_within_0 3 rfl
theorem dX11_within_6 : decode cX11_within 6 = .ok (.iload_n 2, 1) := all_at dvX11_within_0 4 rfl
theorem dX11_within_7 : decode cX11_within 7 = .ok (.if_icmp .gt 7, 3) := all_at dvX11_within_0 5 rfl
theorem dX11_within_10 : decode cX11_within 10 = .ok (.iconst 1, 1) := all_at dvX11_within_0 6 rfl
theorem dX11_within_11 : decode cX11_within 11 = .ok (.goto 4, 3) := all_at dvX11_within_0 7 rfl
theorem dX11_within_14 : decode cX11_within 14 = .ok (.iconst 0, 1) := all_at dvX11_within_0 8 rfl
theorem dX11_within_15 : decode cX11_within 15 = .ok (.ireturn, 1) := all_at dvX11_within_0 9 rfl
set_option maxHeartbeats 4000000 in
set_option maxRecDepth 100000 in
/-- X11_within -/
theorem c_X11_within (l : Launch) (dC : Nat → ClassId) (dI : Nat → Nat → Nat) (n : Int32) (lo : Int32) (hi : Int32) (N L M : Int) (hn : n.toInt = N) (hlo : lo.toInt = L) (hhi : hi.toInt = M) : Met l yX11_within (wc yX11_within cX11_within 3 (some .boolean)) ({ frames := 0, cells := 0, slots := 0, locals := 0 } : Room) (pR (dC, dI) classes [] [] [.int n, .int lo, .int hi]) (vp_Si (fun r => (r = 1 ∧ (L ≤ N ∧ N ≤ M)) ∨ (r = 0 ∧ ¬ (L ≤ N ∧ N ≤ M)))) 0 0 (fun _ => False) := by
  refine Met.ofW (cc := cX11_within) (maxL := 3) (ret := (some .boolean)) (by decide) rfl ?_
  intro p e s m args below meth c s₁ B hml hv
  obtain ⟨rfl, hP, hK⟩ := hv
  have hx := B.exec
  have hb := B.bytes
  have hr := B.returns
  have ht := tb_tl (atoms_spec (ws := wc yX11_within cX11_within 3 (some .boolean)) B.pre)
  have hown : s.vm.findClass RX11 = some m.cls := findClass_of_methodNamed B.named
  have hlocks := B.notSynchronized
  have hl := lv_entry [.int n, .int lo, .int hi] (n := 3) (Nat.le_of_ble_eq_true rfl)
  rw [lg_entry_eq]
  generalize (lg_sl [.int n, .int lo, .int hi] ++ List.replicate (3 - (lg_sl [.int n, .int lo, .int hi]).length) Slot.unset).toArray = ls at hl ⊢
  have hl : lv_has ls 3 [(0, .int n), (1, .int lo), (2, .int hi)] := hl
  refine lv_iload_n hx hb dX11_within_0 rfl (lv_at hl 0 rfl) ?_
  refine lv_iload_n hx hb dX11_within_1 rfl (lv_at hl 1 rfl) ?_
  refine lv_icmp_lt (tgt := 14) hx hb dX11_within_2 (by decide) (fun c1 => ?_) (fun c1 => ?_)
  · have fc1 := z_lt hn hlo c1
    refine lv_iconst (v := 0) hx hb dX11_within_14 (by decide) ?_
    exact W.zret (v := 0) hx hb hr rfl (fun t ht9 hW => ⟨0, rfl, Or.inr ⟨rfl, by omega⟩, ht9⟩) (fun q hq => by cases hq) dX11_within_15
  · have fc1 := z_nlt hn hlo c1
    refine lv_iload_n hx hb dX11_within_5 rfl (lv_at hl 0 rfl) ?_
    refine lv_iload_n hx hb dX11_within_6 rfl (lv_at hl 2 rfl) ?_
    refine lv_icmp_gt (tgt := 14) hx hb dX11_within_7 (by decide) (fun c2 => ?_) (fun c2 => ?_)
    · have fc2 := z_lt hhi hn c2
      refine lv_iconst (v := 0) hx hb dX11_within_14 (by decide) ?_
      exact W.zret (v := 0) hx hb hr rfl (fun t ht9 hW => ⟨0, rfl, Or.inr ⟨rfl, by omega⟩, ht9⟩) (fun q hq => by cases hq) dX11_within_15
    · have fc2 := z_nlt hhi hn c2
      refine lv_iconst (v := 1) hx hb dX11_within_10 (by decide) ?_
      refine lv_goto (tgt := 15) hx hb dX11_within_11 (by decide) ?_
      exact W.zret (v := 1) hx hb hr rfl (fun t ht9 hW => ⟨1, rfl, Or.inl ⟨rfl, by omega⟩, ht9⟩) (fun q hq => by cases hq) dX11_within_15
set_option maxHeartbeats 4000000 in
set_option maxRecDepth 100000 in
/-- X11_test -/
theorem c_X11_test (l : Launch) (dC : Nat → ClassId) (dI : Nat → Nat → Nat) (sz : Nat) (h : Nat) (g : Nat → Nat → Nat) (ca : Nat → Nat → ClassId) (iv : Nat → Nat → Int32) (lv : Nat → Nat → Int64) (fa : Nat → Nat → Nat → Int32) (la : Nat → Nat → Nat → Int64) (hI : IX iv fa) (a : Int32) (b : Int32) (d : Int32) : Met l yX11_test (wc yX11_test cX11_test 4 (some .int)) ({ frames := 1, cells := 0, slots := 0, locals := 23 } : Room) (pW (dC, dI) classes (WX h g ca iv lv fa la) (TX ca) sz [.ref h, .int a, .int b, .int d]) (va_Qi (fun r (u : SS) => ∃ (na_9_0 : Nat → Int32) (na_9_1 : Nat → Int32) (na_9_2 : Nat → Int32) (ni_9_3 : Int32), inb (bI 9 3) ni_9_3 ∧ ((-100004) ≤ r.toInt ∧ r.toInt ≤ 30) ∧ u = ((u2 iv 9 3 ni_9_3), lv, (u2 (u2 (u2 fa 9 0 na_9_0) 9 1 na_9_1) 9 2 na_9_2), la)) (bX (dC, dI) h g ca (va_A (WX h g ca iv lv fa la) sz)) (va_A (WX h g ca iv lv fa la) sz)) 0 0 (va_A (WX h g ca iv lv fa la) sz) := by
  refine Met.ofW (cc := cX11_test) (maxL := 4) (ret := (some .int)) (by decide) rfl ?_
  intro p e s m args below meth c s₁ B hml hv
  obtain ⟨rfl, hsz, hP, hK, hD0⟩ := hv
  have hx := B.exec
  have hb := B.bytes
  have hr := B.returns
  have ht := tb_tl (atoms_spec (ws := wc yX11_test cX11_test 4 (some .int)) B.pre)
  have hown : s.vm.findClass RX11 = some m.cls := findClass_of_methodNamed B.named
  have hlocks := B.notSynchronized
  subst hsz
  have hD := hD0.self (sz := s.heap.size)
  generalize hAe : va_A (WX h g ca iv lv fa la) s.heap.size = A at hD ⊢
  have hA : ∀ q : Nat, s.heap.size ≤ q → A q := fun q h => by rw [← hAe]; exact Or.inr h
  have hS : va_S A s.heap s.heap [] := va_S.rf
  have hl := lv_entry [.ref h, .int a, .int b, .int d] (n := 4) (Nat.le_of_ble_eq_true rfl)
  rw [lg_entry_eq]
  generalize (lg_sl [.ref h, .int a, .int b, .int d] ++ List.replicate (4 - (lg_sl [.ref h, .int a, .int b, .int d]).length) Slot.unset).toArray = ls at hl ⊢
  have hl : lv_has ls 4 [(0, .ref h), (1, .int a), (2, .int b), (3, .int d)] := hl
  refine lv_iload_n hx hb dX11_test_0 rfl (lv_at hl 1 rfl) ?_
  refine lv_iconst (v := 0) hx hb dX11_test_1 (by decide) ?_
  refine lv_iconst (v := 3) hx hb dX11_test_2 (by decide) ?_
  refine vp_callSi (W.runS (As := [.int a, .int 0, .int 3]) (rest := []) ⟨hx, hb, hml, hown, ht⟩ (c_X11_within l dC dI a 0 3 (a.toInt) (0) (3) (rfl : (a).toInt = _) (by decide : (0 : Int32).toInt = 0) (by decide : (3 : Int32).toInt = 3)) (kS 3 ht m_453 m_454 m_77 m_455 rfl rfl hd_X11_within_v ⟨Nat.le_of_ble_eq_true rfl, Nat.le_of_ble_eq_true rfl⟩) (sR noP (hK.sub (tys' := []) [] rfl)) rfl rfl hl.1 rfl (lv_room (Nat.le_of_ble_eq_true rfl)) dX11_test_3 ⟨Nat.le_of_ble_eq_true rfl, Nat.le_of_ble_eq_true rfl⟩) (fun r1 hr1 => ?_)
  rcases hr1 with ⟨rfl, fr1⟩ | ⟨rfl, fr1⟩
  · skip
    refine lv_if_eq (tgt := 31) hx hb dX11_test_6 (by decide) (fun c2 => ?_) (fun c2 => ?_)
    · exact absurd c2 (by decide)
    · skip
      refine lv_iload_n hx hb dX11_test_9 rfl (lv_at hl 2 rfl) ?_
      refine lv_iconst (v := 1) hx hb dX11_test_10 (by decide) ?_
      refine lv_sipush (v := 9999) hx hb dX11_test_11 (by decide) ?_
      refine vp_callSi (W.runS (As := [.int b, .int 1, .int 9999]) (rest := []) ⟨hx, hb, hml, hown, ht⟩ (c_X11_within l dC dI b 1 9999 (b.toInt) (1) (9999) (rfl : (b).toInt = _) (by decide : (1 : Int32).toInt = 1) (by decide : (9999 : Int32).toInt = 9999)) (kS 3 ht m_453 m_454 m_77 m_455 rfl rfl hd_X11_within_v ⟨Nat.le_of_ble_eq_true rfl, Nat.le_of_ble_eq_true rfl⟩) (sR noP (hK.sub (tys' := []) [] rfl)) rfl rfl hl.1 rfl (lv_room (Nat.le_of_ble_eq_true rfl)) dX11_test_14 ⟨Nat.le_of_ble_eq_true rfl, Nat.le_of_ble_eq_true rfl⟩) (fun r3 hr3 => ?_)
      rcases hr3 with ⟨rfl, fr3⟩ | ⟨rfl, fr3⟩
      · skip
        refine lv_if_eq (tgt := 31) hx hb dX11_test_17 (by decide) (fun c4 => ?_) (fun c4 => ?_)
        · exact absurd c4 (by decide)
        · skip
          refine lv_iload_n hx hb dX11_test_20 rfl (lv_at hl 3 rfl) ?_
          refine lv_iconst (v := 1) hx hb dX11_test_21 (by decide) ?_
          refine lv_sipush (v := 9999) hx hb dX11_test_22 (by decide) ?_
          refine vp_callSi (W.runS (As := [.int d, .int 1, .int 9999]) (rest := []) ⟨hx, hb, hml, hown, ht⟩ (c_X11_within l dC dI d 1 9999 (d.toInt) (1) (9999) (rfl : (d).toInt = _) (by decide : (1 : Int32).toInt = 1) (by decide : (9999 : Int32).toInt = 9999)) (kS 3 ht m_453 m_454 m_77 m_455 rfl rfl hd_X11_within_v ⟨Nat.le_of_ble_eq_true rfl, Nat.le_of_ble_eq_true rfl⟩) (sR noP (hK.sub (tys' := []) [] rfl)) rfl rfl hl.1 rfl (lv_room (Nat.le_of_ble_eq_true rfl)) dX11_test_25 ⟨Nat.le_of_ble_eq_true rfl, Nat.le_of_ble_eq_true rfl⟩) (fun r5 hr5 => ?_)
          rcases hr5 with ⟨rfl, fr5⟩ | ⟨rfl, fr5⟩
          · skip
            refine lv_if_ne (tgt := 34) hx hb dX11_test_28 (by decide) (fun c6 => ?_) (fun c6 => ?_)
            · skip
              refine lv_aload_n hx hb dX11_test_34 rfl (lv_at hl 0 rfl) ?_
              refine gX_11_1 hx hb ht hown hK hP m_416 dX11_test_35 ?_
              have i_9_3 : 0 ≤ (iv 9 3).toInt ∧ (iv 9 3).toInt ≤ 30 := hI.1 9 3
              refine gX_9_3 hx hb ht hown hK hP m_136 (v := (iv 9 3)) rfl dX11_test_38 ?_
              refine lv_bipush (v := 30) hx hb dX11_test_41 (by decide) ?_
              refine lv_icmp_lt (tgt := 49) hx hb dX11_test_43 (by decide) (fun c7 => ?_) (fun c7 => ?_)
              · have fc7 := z_lt (rfl : ((iv 9 3)).toInt = _) (by decide : (30 : Int32).toInt = 30) c7
                refine lv_aload_n hx hb dX11_test_49 rfl (lv_at hl 0 rfl) ?_
                refine gX_11_1 hx hb ht hown hK hP m_416 dX11_test_50 ?_
                refine lv_iload_n hx hb dX11_test_53 rfl (lv_at hl 1 rfl) ?_
                refine lv_aload_n hx hb dX11_test_54 rfl (lv_at hl 0 rfl) ?_
                have i_11_10 : 0 ≤ (iv 11 10).toInt ∧ (iv 11 10).toInt ≤ 3000 := hI.1 11 10
                refine gX_11_10 hx hb ht hown hK hP m_425 (v := (iv 11 10)) rfl dX11_test_55 ?_
                refine lv_iload_n hx hb dX11_test_58 rfl (lv_at hl 2 rfl) ?_
                refine lv_iload_n hx hb dX11_test_59 rfl (lv_at hl 3 rfl) ?_
                refine lv_isub hx hb dX11_test_60 ?_
                refine lv_topi (fun v8 ev8 => ?_)
                have tv8 := z_sub ev8 (rfl : (b).toInt = _) (rfl : (d).toInt = _) (by omega) (by omega)
                have hFc := free_all hD hS hA
                refine va_calli (va_runV (As := [.int a, .int (iv 11 10), .int v8]) (rest := []) ⟨hx, hb, hml, hown, ht⟩ (c_X9_note l dC dI s.heap.size h g ca iv lv fa la hI a (iv 11 10) v8 (show 0 ≤ ((iv 9 3) : Int32).toInt ∧ ((iv 9 3) : Int32).toInt ≤ 29 from ⟨by omega, by omega⟩)) (kV 3 ht m_526 m_527 m_528 m_79 m_529 rfl rfl hd_X9_note_v ⟨Nat.le_of_ble_eq_true rfl, Nat.le_of_ble_eq_true rfl⟩) (vW hP hK hD (rX_9 hK hP)) rfl rfl hl.1 rfl (lv_room (Nat.le_of_ble_eq_true rfl)) dX11_test_61 ⟨Nat.le_of_ble_eq_true rfl, Nat.le_of_ble_eq_true rfl⟩) hS (fun q _ h => hFc q h) hFc (fun r9 u t H1 locs ht9 hvm hr9 hB hz1 hk1 hS => ?_)
                obtain ⟨n10, n11, n12, n13, hn13, dn13, hr9, rfl⟩ := hr9
                have hn10 : ∀ j, inb (bA 9 0 j) (n10 j) := fun j => full_i _
                have hn11 : ∀ j, inb (bA 9 1 j) (n11 j) := fun j => full_i _
                have hn12 : ∀ j, inb (bA 9 2 j) (n12 j) := fun j => full_i _
                have dn13 : n13.toInt = ((iv 9 3) : Int32).toInt + 1 := dn13
                have hn13 : 0 ≤ n13.toInt ∧ n13.toInt ≤ 30 := hn13
                obtain ⟨hP, hD⟩ := hB
                rw [ht9] at hP
                generalize H1 = H at hP hS ⊢
                have hP : va_P (dC, dI) classes (WX h g ca (u2 iv 9 3 n13) lv (u2 (u2 (u2 fa 9 0 n10) 9 1 n11) 9 2 n12) la) H := hP
                have hD : va_D A (WX h g ca (u2 iv 9 3 n13) lv (u2 (u2 (u2 fa 9 0 n10) 9 1 n11) 9 2 n12) la) := (show va_D _ (WX h g ca (u2 iv 9 3 n13) lv (u2 (u2 (u2 fa 9 0 n10) 9 1 n11) 9 2 n12) la) from hD).weaken (fun _ _ _ h => hFc _ h)
                have hP9 : va_P (dC, dI) classes (WX h g ca (u2 iv 9 3 n13) lv (u2 (u2 (u2 fa 9 0 n10) 9 1 n11) 9 2 n12) la) H := hP
                have hD9 : va_D A (WX h g ca (u2 iv 9 3 n13) lv (u2 (u2 (u2 fa 9 0 n10) 9 1 n11) 9 2 n12) la) := hD
                exact W.iret (v := r9) hx hb hr (fun t ht9 hW => ⟨⟨r9, ((u2 iv 9 3 n13), lv, (u2 (u2 (u2 fa 9 0 n10) 9 1 n11) 9 2 n12), la), rfl, ⟨n10, n11, n12, n13, (show inb (0, 30) n13 from ⟨by omega, by omega⟩), ⟨by omega, by omega⟩, rfl⟩, by rw [ht9]; exact hP9, hD9⟩, hS.F ht9⟩) hS.2.2 dX11_test_64
              · have fc7 := z_nlt (rfl : ((iv 9 3)).toInt = _) (by decide : (30 : Int32).toInt = 30) c7
                refine lv_ldc hx hb hown (ht _ m_463) dX11_test_46 ?_
                have hP9 : va_P (dC, dI) classes (WX h g ca (u2 iv 9 3 (iv 9 3)) lv (u2 (u2 (u2 fa 9 0 (fa 9 0)) 9 1 (fa 9 1)) 9 2 (fa 9 2)) la) s.heap := hP
                have hD9 : va_D A (WX h g ca (u2 iv 9 3 (iv 9 3)) lv (u2 (u2 (u2 fa 9 0 (fa 9 0)) 9 1 (fa 9 1)) 9 2 (fa 9 2)) la) := hD
                exact W.iret (v := (-100004)) hx hb hr (fun t ht9 hW => ⟨⟨(-100004), ((u2 iv 9 3 (iv 9 3)), lv, (u2 (u2 (u2 fa 9 0 (fa 9 0)) 9 1 (fa 9 1)) 9 2 (fa 9 2)), la), rfl, ⟨(fa 9 0), (fa 9 1), (fa 9 2), (iv 9 3), (hI.1 9 3), ⟨by decide, by decide⟩, rfl⟩, by rw [ht9]; exact hP9, hD9⟩, hS.F ht9⟩) hS.2.2 dX11_test_48
            · exact absurd c6 (by decide)
          · skip
            refine lv_if_ne (tgt := 34) hx hb dX11_test_28 (by decide) (fun c14 => ?_) (fun c14 => ?_)
            · exact absurd rfl c14
            · skip
              refine lv_ldc hx hb hown (ht _ m_456) dX11_test_31 ?_
              have hP9 : va_P (dC, dI) classes (WX h g ca (u2 iv 9 3 (iv 9 3)) lv (u2 (u2 (u2 fa 9 0 (fa 9 0)) 9 1 (fa 9 1)) 9 2 (fa 9 2)) la) s.heap := hP
              have hD9 : va_D A (WX h g ca (u2 iv 9 3 (iv 9 3)) lv (u2 (u2 (u2 fa 9 0 (fa 9 0)) 9 1 (fa 9 1)) 9 2 (fa 9 2)) la) := hD
              exact W.iret (v := (-100002)) hx hb hr (fun t ht9 hW => ⟨⟨(-100002), ((u2 iv 9 3 (iv 9 3)), lv, (u2 (u2 (u2 fa 9 0 (fa 9 0)) 9 1 (fa 9 1)) 9 2 (fa 9 2)), la), rfl, ⟨(fa 9 0), (fa 9 1), (fa 9 2), (iv 9 3), (hI.1 9 3), ⟨by decide, by decide⟩, rfl⟩, by rw [ht9]; exact hP9, hD9⟩, hS.F ht9⟩) hS.2.2 dX11_test_33
      · skip
        refine lv_if_eq (tgt := 31) hx hb dX11_test_17 (by decide) (fun c15 => ?_) (fun c15 => ?_)
        · skip
          refine lv_ldc hx hb hown (ht _ m_456) dX11_test_31 ?_
          have hP9 : va_P (dC, dI) classes (WX h g ca (u2 iv 9 3 (iv 9 3)) lv (u2 (u2 (u2 fa 9 0 (fa 9 0)) 9 1 (fa 9 1)) 9 2 (fa 9 2)) la) s.heap := hP
          have hD9 : va_D A (WX h g ca (u2 iv 9 3 (iv 9 3)) lv (u2 (u2 (u2 fa 9 0 (fa 9 0)) 9 1 (fa 9 1)) 9 2 (fa 9 2)) la) := hD
          exact W.iret (v := (-100002)) hx hb hr (fun t ht9 hW => ⟨⟨(-100002), ((u2 iv 9 3 (iv 9 3)), lv, (u2 (u2 (u2 fa 9 0 (fa 9 0)) 9 1 (fa 9 1)) 9 2 (fa 9 2)), la), rfl, ⟨(fa 9 0), (fa 9 1), (fa 9 2), (iv 9 3), (hI.1 9 3), ⟨by decide, by decide⟩, rfl⟩, by rw [ht9]; exact hP9, hD9⟩, hS.F ht9⟩) hS.2.2 dX11_test_33
        · exact absurd rfl c15
  · skip
    refine lv_if_eq (tgt := 31) hx hb dX11_test_6 (by decide) (fun c16 => ?_) (fun c16 => ?_)
    · skip
      refine lv_ldc hx hb hown (ht _ m_456) dX11_test_31 ?_
      have hP9 : va_P (dC, dI) classes (WX h g ca (u2 iv 9 3 (iv 9 3)) lv (u2 (u2 (u2 fa 9 0 (fa 9 0)) 9 1 (fa 9 1)) 9 2 (fa 9 2)) la) s.heap := hP
      have hD9 : va_D A (WX h g ca (u2 iv 9 3 (iv 9 3)) lv (u2 (u2 (u2 fa 9 0 (fa 9 0)) 9 1 (fa 9 1)) 9 2 (fa 9 2)) la) := hD
      exact W.iret (v := (-100002)) hx hb hr (fun t ht9 hW => ⟨⟨(-100002), ((u2 iv 9 3 (iv 9 3)), lv, (u2 (u2 (u2 fa 9 0 (fa 9 0)) 9 1 (fa 9 1)) 9 2 (fa 9 2)), la), rfl, ⟨(fa 9 0), (fa 9 1), (fa 9 2), (iv 9 3), (hI.1 9 3), ⟨by decide, by decide⟩, rfl⟩, by rw [ht9]; exact hP9, hD9⟩, hS.F ht9⟩) hS.2.2 dX11_test_33
    · exact absurd rfl c16
set_option maxHeartbeats 4000000 in
set_option maxRecDepth 100000 in
/-- X11_error -/
theorem c_X11_error (l : Launch) (dC : Nat → ClassId) (dI : Nat → Nat → Nat) (h : Nat) (g : Nat → Nat → Nat) (ca : Nat → Nat → ClassId) (iv : Nat → Nat → Int32) (lv : Nat → Nat → Int64) (fa : Nat → Nat → Nat → Int32) (la : Nat → Nat → Nat → Int64) (hI : IX iv fa) (a : Int32) (b : Int32) (d : Int32) : Met l yX11_error (wc yX11_error cX11_error 4 (some .int)) ({ frames := 2, cells := 0, slots := 0, locals := 64 } : Room) (pR (dC, dI) classes (WX h g ca iv lv fa la) (TX ca) [.ref h, .int a, .int b, .int d]) (vp_Si (fun r => True)) 0 0 (fun _ => False) := by
  refine Met.ofW (cc := cX11_error) (maxL := 4) (ret := (some .int)) (by decide) rfl ?_
  intro p e s m args below meth c s₁ B hml hv
  obtain ⟨rfl, hP, hK⟩ := hv
  have hx := B.exec
  have hb := B.bytes
  have hr := B.returns
  have ht := tb_tl (atoms_spec (ws := wc yX11_error cX11_error 4 (some .int)) B.pre)
  have hown : s.vm.findClass RX11 = some m.cls := findClass_of_methodNamed B.named
  have hlocks := B.notSynchronized
  have hl := lv_entry [.ref h, .int a, .int b, .int d] (n := 4) (Nat.le_of_ble_eq_true rfl)
  rw [lg_entry_eq]
  generalize (lg_sl [.ref h, .int a, .int b, .int d] ++ List.replicate (4 - (lg_sl [.ref h, .int a, .int b, .int d]).length) Slot.unset).toArray = ls at hl ⊢
  have hl : lv_has ls 4 [(0, .ref h), (1, .int a), (2, .int b), (3, .int d)] := hl
  refine lv_iload_n hx hb dX11_error_0 rfl (lv_at hl 1 rfl) ?_
  refine lv_iconst (v := 0) hx hb dX11_error_1 (by decide) ?_
  refine lv_iconst (v := 3) hx hb dX11_error_2 (by decide) ?_
  refine vp_callSi (W.runS (As := [.int a, .int 0, .int 3]) (rest := []) ⟨hx, hb, hml, hown, ht⟩ (c_X11_within l dC dI a 0 3 (a.toInt) (0) (3) (rfl : (a).toInt = _) (by decide : (0 : Int32).toInt = 0) (by decide : (3 : Int32).toInt = 3)) (kS 3 ht m_453 m_454 m_77 m_455 rfl rfl hd_X11_within_v ⟨Nat.le_of_ble_eq_true rfl, Nat.le_of_ble_eq_true rfl⟩) (sR noP (hK.sub (tys' := []) [] rfl)) rfl rfl hl.1 rfl (lv_room (Nat.le_of_ble_eq_true rfl)) dX11_error_3 ⟨Nat.le_of_ble_eq_true rfl, Nat.le_of_ble_eq_true rfl⟩) (fun r1 hr1 => ?_)
  rcases hr1 with ⟨rfl, fr1⟩ | ⟨rfl, fr1⟩
  · skip
    refine lv_if_eq (tgt := 29) hx hb dX11_error_6 (by decide) (fun c2 => ?_) (fun c2 => ?_)
    · exact absurd c2 (by decide)
    · skip
      refine lv_iload_n hx hb dX11_error_9 rfl (lv_at hl 2 rfl) ?_
      refine lv_iconst (v := 0) hx hb dX11_error_10 (by decide) ?_
      refine lv_sipush (v := 3000) hx hb dX11_error_11 (by decide) ?_
      refine vp_callSi (W.runS (As := [.int b, .int 0, .int 3000]) (rest := []) ⟨hx, hb, hml, hown, ht⟩ (c_X11_within l dC dI b 0 3000 (b.toInt) (0) (3000) (rfl : (b).toInt = _) (by decide : (0 : Int32).toInt = 0) (by decide : (3000 : Int32).toInt = 3000)) (kS 3 ht m_453 m_454 m_77 m_455 rfl rfl hd_X11_within_v ⟨Nat.le_of_ble_eq_true rfl, Nat.le_of_ble_eq_true rfl⟩) (sR noP (hK.sub (tys' := []) [] rfl)) rfl rfl hl.1 rfl (lv_room (Nat.le_of_ble_eq_true rfl)) dX11_error_14 ⟨Nat.le_of_ble_eq_true rfl, Nat.le_of_ble_eq_true rfl⟩) (fun r3 hr3 => ?_)
      rcases hr3 with ⟨rfl, fr3⟩ | ⟨rfl, fr3⟩
      · skip
        refine lv_if_eq (tgt := 29) hx hb dX11_error_17 (by decide) (fun c4 => ?_) (fun c4 => ?_)
        · exact absurd c4 (by decide)
        · skip
          refine lv_iload_n hx hb dX11_error_20 rfl (lv_at hl 3 rfl) ?_
          refine lv_iconst (v := 0) hx hb dX11_error_21 (by decide) ?_
          refine lv_iconst (v := 1) hx hb dX11_error_22 (by decide) ?_
          refine vp_callSi (W.runS (As := [.int d, .int 0, .int 1]) (rest := []) ⟨hx, hb, hml, hown, ht⟩ (c_X11_within l dC dI d 0 1 (d.toInt) (0) (1) (rfl : (d).toInt = _) (by decide : (0 : Int32).toInt = 0) (by decide : (1 : Int32).toInt = 1)) (kS 3 ht m_453 m_454 m_77 m_455 rfl rfl hd_X11_within_v ⟨Nat.le_of_ble_eq_true rfl, Nat.le_of_ble_eq_true rfl⟩) (sR noP (hK.sub (tys' := []) [] rfl)) rfl rfl hl.1 rfl (lv_room (Nat.le_of_ble_eq_true rfl)) dX11_error_23 ⟨Nat.le_of_ble_eq_true rfl, Nat.le_of_ble_eq_true rfl⟩) (fun r5 hr5 => ?_)
          rcases hr5 with ⟨rfl, fr5⟩ | ⟨rfl, fr5⟩
          · skip
            refine lv_if_ne (tgt := 32) hx hb dX11_error_26 (by decide) (fun c6 => ?_) (fun c6 => ?_)
            · skip
              refine lv_iload_n hx hb dX11_error_32 rfl (lv_at hl 3 rfl) ?_
              refine lv_if_ne (tgt := 48) hx hb dX11_error_33 (by decide) (fun c7 => ?_) (fun c7 => ?_)
              · have fc7 := z_ne (rfl : (d).toInt = _) (by decide : (0 : Int32).toInt = 0) c7
                refine lv_aload_n hx hb dX11_error_48 rfl (lv_at hl 0 rfl) ?_
                refine gX_11_1 hx hb ht hown hK hP m_416 dX11_error_49 ?_
                refine lv_iload_n hx hb dX11_error_52 rfl (lv_at hl 1 rfl) ?_
                refine lv_iload_n hx hb dX11_error_53 rfl (lv_at hl 2 rfl) ?_
                refine vp_callSi (W.runV (As := [.int a, .int b]) (rest := []) ⟨hx, hb, hml, hown, ht⟩ (c_X9_greatest l dC dI h g ca iv lv fa la hI a b) (kV 2 ht m_553 m_554 m_555 m_79 m_556 rfl rfl hd_X9_greatest_v ⟨Nat.le_of_ble_eq_true rfl, Nat.le_of_ble_eq_true rfl⟩) (vR hP hK (rX_9 hK hP)) rfl rfl hl.1 rfl (lv_room (Nat.le_of_ble_eq_true rfl)) dX11_error_54 ⟨Nat.le_of_ble_eq_true rfl, Nat.le_of_ble_eq_true rfl⟩) (fun r8 hr8 => ?_)
                exact W.iret (v := r8) hx hb hr (fun t ht9 hW => ⟨r8, rfl, trivial, ht9⟩) (fun q hq => by cases hq) dX11_error_57
              · have fc7 := z_eq (rfl : (d).toInt = _) (by decide : (0 : Int32).toInt = 0) c7
                refine lv_aload_n hx hb dX11_error_36 rfl (lv_at hl 0 rfl) ?_
                refine gX_11_1 hx hb ht hown hK hP m_416 dX11_error_37 ?_
                refine lv_iload_n hx hb dX11_error_40 rfl (lv_at hl 1 rfl) ?_
                refine lv_iload_n hx hb dX11_error_41 rfl (lv_at hl 2 rfl) ?_
                refine vp_callSi (W.runV (As := [.int a, .int b]) (rest := []) ⟨hx, hb, hml, hown, ht⟩ (c_X9_least l dC dI h g ca iv lv fa la hI a b) (kV 2 ht m_534 m_535 m_536 m_79 m_537 rfl rfl hd_X9_least_v ⟨Nat.le_of_ble_eq_true rfl, Nat.le_of_ble_eq_true rfl⟩) (vR hP hK (rX_9 hK hP)) rfl rfl hl.1 rfl (lv_room (Nat.le_of_ble_eq_true rfl)) dX11_error_42 ⟨Nat.le_of_ble_eq_true rfl, Nat.le_of_ble_eq_true rfl⟩) (fun r9 hr9 => ?_)
                refine lv_goto (tgt := 57) hx hb dX11_error_45 (by decide) ?_
                exact W.iret (v := r9) hx hb hr (fun t ht9 hW => ⟨r9, rfl, trivial, ht9⟩) (fun q hq => by cases hq) dX11_error_57
            · exact absurd c6 (by decide)
          · skip
            refine lv_if_ne (tgt := 32) hx hb dX11_error_26 (by decide) (fun c10 => ?_) (fun c10 => ?_)
            · exact absurd rfl c10
            · skip
              refine lv_ldc hx hb hown (ht _ m_456) dX11_error_29 ?_
              exact W.iret (v := (-100002)) hx hb hr (fun t ht9 hW => ⟨(-100002), rfl, trivial, ht9⟩) (fun q hq => by cases hq) dX11_error_31
      · skip
        refine lv_if_eq (tgt := 29) hx hb dX11_error_17 (by decide) (fun c11 => ?_) (fun c11 => ?_)
        · skip
          refine lv_ldc hx hb hown (ht _ m_456) dX11_error_29 ?_
          exact W.iret (v := (-100002)) hx hb hr (fun t ht9 hW => ⟨(-100002), rfl, trivial, ht9⟩) (fun q hq => by cases hq) dX11_error_31
        · exact absurd rfl c11
  · skip
    refine lv_if_eq (tgt := 29) hx hb dX11_error_6 (by decide) (fun c12 => ?_) (fun c12 => ?_)
    · skip
      refine lv_ldc hx hb hown (ht _ m_456) dX11_error_29 ?_
      exact W.iret (v := (-100002)) hx hb hr (fun t ht9 hW => ⟨(-100002), rfl, trivial, ht9⟩) (fun q hq => by cases hq) dX11_error_31
    · exact absurd rfl c12
