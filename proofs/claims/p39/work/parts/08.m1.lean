/-! ===== m1 ===== -/
set_option maxRecDepth 100000 in
theorem m_42 : Cond.selects RX12 yX12_noBale yX12_noBale ∈ tb := tb_in 42 (by decide +kernel) rfl
set_option maxRecDepth 100000 in
theorem m_43 : Cond.selects RX12 yX12_noSkein yX12_noSkein ∈ tb := tb_in 43 (by decide +kernel) rfl
theorem m_1141 : Cond.fieldLink RX12 7 "SilkHouseModel" "gross" "[I" ∈ tb := mb_5_4 _ (List.mem_of_getElem? (i := 6) rfl)
theorem m_1143 : Cond.fieldLink RX12 13 "SilkHouseModel" "ofBale" "[I" ∈ tb := mb_5_4 _ (List.mem_of_getElem? (i := 8) rfl)
theorem m_1144 : Cond.fieldLink RX12 16 "SilkHouseModel" "ofLook" "[I" ∈ tb := mb_5_4 _ (List.mem_of_getElem? (i := 9) rfl)
theorem m_1145 : Cond.fieldLink RX12 19 "SilkHouseModel" "scaleOf" "[I" ∈ tb := mb_5_4 _ (List.mem_of_getElem? (i := 10) rfl)
theorem m_1146 : Cond.fieldLink RX12 22 "SilkHouseModel" "raw" "[I" ∈ tb := mb_5_4 _ (List.mem_of_getElem? (i := 11) rfl)
theorem m_1147 : Cond.fieldLink RX12 25 "SilkHouseModel" "dry" "[I" ∈ tb := mb_5_4 _ (List.mem_of_getElem? (i := 12) rfl)
theorem m_1148 : Cond.fieldLink RX12 28 "SilkHouseModel" "oven" "[I" ∈ tb := mb_5_4 _ (List.mem_of_getElem? (i := 13) rfl)
theorem m_1149 : Cond.fieldLink RX12 31 "SilkHouseModel" "hand" "[I" ∈ tb := mb_5_4 _ (List.mem_of_getElem? (i := 14) rfl)
theorem m_1150 : Cond.fieldLink RX12 34 "SilkHouseModel" "dayOf" "[I" ∈ tb := mb_5_4 _ (List.mem_of_getElem? (i := 15) rfl)
theorem m_1151 : Cond.fieldLink RX12 37 "SilkHouseModel" "lostOn" "[I" ∈ tb := mb_5_4 _ (List.mem_of_getElem? (i := 16) rfl)
theorem m_1152 : Cond.fieldLink RX12 213 "SilkHouseModel" "tests" "I" ∈ tb := mb_5_4 _ (List.mem_of_getElem? (i := 17) rfl)
theorem m_1153 : Cond.fieldLink RX12 40 "SilkHouseModel" "testScale" "[I" ∈ tb := mb_5_4 _ (List.mem_of_getElem? (i := 18) rfl)
theorem m_1154 : Cond.fieldLink RX12 43 "SilkHouseModel" "testError" "[I" ∈ tb := mb_5_4 _ (List.mem_of_getElem? (i := 19) rfl)
theorem m_1155 : Cond.fieldLink RX12 46 "SilkHouseModel" "testDay" "[I" ∈ tb := mb_5_4 _ (List.mem_of_getElem? (i := 20) rfl)
theorem m_1190 : Cond.fieldLink RX12 109 "SilkHouseModel" "threads" "[I" ∈ tb := mb_5_6 _ (List.mem_of_getElem? (i := 7) rfl)
theorem m_1192 : Cond.fieldLink RX12 115 "SilkHouseModel" "countMany" "[I" ∈ tb := mb_5_6 _ (List.mem_of_getElem? (i := 9) rfl)
theorem m_1369 : Cond.constantLong RX12 176 (999) ∈ tb := mb_6_0 _ (List.mem_of_getElem? (i := 4) rfl)
theorem m_1373 : Cond.constant RX12 178 (-100002) ∈ tb := mb_6_0 _ (List.mem_of_getElem? (i := 8) rfl)
theorem m_1374 : Cond.constant RX12 179 (-100003) ∈ tb := mb_6_0 _ (List.mem_of_getElem? (i := 9) rfl)
theorem m_1379 : Cond.constantLong RX12 180 (99999) ∈ tb := mb_6_0 _ (List.mem_of_getElem? (i := 14) rfl)
theorem m_1380 : Cond.constant RX12 182 (-100004) ∈ tb := mb_6_0 _ (List.mem_of_getElem? (i := 15) rfl)
theorem m_1385 : Cond.methodLink RX12 183 yX12_noBale ∈ tb := mb_6_0 _ (List.mem_of_getElem? (i := 20) rfl)
theorem m_1387 : Cond.instanceMethod yX12_noBale ∈ tb := mb_6_0 _ (List.mem_of_getElem? (i := 21) rfl)
theorem m_1388 : Cond.code yX12_noBale cX12_noBale 2 (some .boolean) ∈ tb := mb_6_0 _ (List.mem_of_getElem? (i := 22) rfl)
theorem m_1389 : Cond.constant RX12 187 (-100001) ∈ tb := mb_6_0 _ (List.mem_of_getElem? (i := 23) rfl)
theorem m_1390 : Cond.constantLong RX12 188 (2) ∈ tb := mb_6_1 _ (List.mem_of_getElem? (i := 0) rfl)
theorem m_1391 : Cond.constantLong RX12 190 (3) ∈ tb := mb_6_1 _ (List.mem_of_getElem? (i := 1) rfl)
theorem m_1392 : Cond.constantLong RX12 192 (100) ∈ tb := mb_6_1 _ (List.mem_of_getElem? (i := 2) rfl)
theorem m_1394 : Cond.constantLong RX12 196 (50) ∈ tb := mb_6_1 _ (List.mem_of_getElem? (i := 4) rfl)
theorem m_1395 : Cond.constantLong RX12 198 (7) ∈ tb := mb_6_1 _ (List.mem_of_getElem? (i := 5) rfl)
theorem m_1396 : Cond.methodLink RX12 203 yX12_bit ∈ tb := mb_6_1 _ (List.mem_of_getElem? (i := 6) rfl)
theorem m_1397 : Cond.static yX12_bit ∈ tb := mb_6_1 _ (List.mem_of_getElem? (i := 7) rfl)
theorem m_1398 : Cond.code yX12_bit cX12_bit 1 (some .int) ∈ tb := mb_6_1 _ (List.mem_of_getElem? (i := 8) rfl)
theorem m_1403 : Cond.methodLink RX12 207 yX12_noSkein ∈ tb := mb_6_1 _ (List.mem_of_getElem? (i := 13) rfl)
theorem m_1405 : Cond.instanceMethod yX12_noSkein ∈ tb := mb_6_1 _ (List.mem_of_getElem? (i := 14) rfl)
theorem m_1406 : Cond.code yX12_noSkein cX12_noSkein 2 (some .boolean) ∈ tb := mb_6_1 _ (List.mem_of_getElem? (i := 15) rfl)
theorem m_1415 : Cond.methodLink RX12 210 yX12_isWeight ∈ tb := mb_6_2 _ (List.mem_of_getElem? (i := 0) rfl)
theorem m_1416 : Cond.static yX12_isWeight ∈ tb := mb_6_2 _ (List.mem_of_getElem? (i := 1) rfl)
theorem m_1417 : Cond.code yX12_isWeight cX12_isWeight 1 (some .boolean) ∈ tb := mb_6_2 _ (List.mem_of_getElem? (i := 2) rfl)
theorem hd_X12_bit_v : yX12_bit.cls = RX12 ∧ yX12_bit.cls ≠ "java/lang/invoke/MethodHandle" ∧ yX12_bit.cls ≠ "java/lang/invoke/VarHandle" ∧ (parseMethodDescriptor yX12_bit.desc).map (fun d => d.parameters.length) = some 1 := by decide +kernel
theorem hd_X12_isWeight_v : yX12_isWeight.cls = RX12 ∧ yX12_isWeight.cls ≠ "java/lang/invoke/MethodHandle" ∧ yX12_isWeight.cls ≠ "java/lang/invoke/VarHandle" ∧ (parseMethodDescriptor yX12_isWeight.desc).map (fun d => d.parameters.length) = some 1 := by decide +kernel
theorem hd_X12_noBale_v : yX12_noBale.cls = RX12 ∧ yX12_noBale.cls ≠ "java/lang/invoke/MethodHandle" ∧ yX12_noBale.cls ≠ "java/lang/invoke/VarHandle" ∧ (parseMethodDescriptor yX12_noBale.desc).map (fun d => d.parameters.length) = some 1 := by decide +kernel
theorem hd_X12_noSkein_v : yX12_noSkein.cls = RX12 ∧ yX12_noSkein.cls ≠ "java/lang/invoke/MethodHandle" ∧ yX12_noSkein.cls ≠ "java/lang/invoke/VarHandle" ∧ (parseMethodDescriptor yX12_noSkein.desc).map (fun d => d.parameters.length) = some 1 := by decide +kernel
set_option maxRecDepth 100000 in
theorem dvX12_bale_0 : ([(0, .iload_n 1, 1), (1, .i2l, 1), (2, .lconst 1, 1), (3, .ldc2_w 180, 3), (6, .invokestatic 167, 3), (9, .ifCond .ne 6, 3), (12, .ldc 178, 2), (14, .ireturn, 1), (15, .aload_n 0, 1), (16, .getfield 164, 3), (19, .bipush 10, 2), (21, .if_icmp .ne 6, 3), (24, .ldc 182, 2), (26, .ireturn, 1), (27, .aload_n 0, 1), (28, .getfield 7, 3), (31, .aload_n 0, 1), (32, .getfield 164, 3), (35, .iload_n 1, 1), (36, .iastore, 1), (37, .aload_n 0, 1), (38, .getfield 109, 3), (41, .aload_n 0, 1), (42, .getfield 164, 3)] : List (Nat × Instr × Nat)).all (fun q => decide (decode cX12_bale q.1 = .ok (q.2.1, q.2.2))) = true := by decide +kernel
theorem dX12_bale_0 : decode cX12_bale 0 = .ok (.iload_n 1, 1) := all_at dvX12_bale_0 0 rfl
theorem dX12_bale_1 : decode cX12_bale 1 = .ok (.i2l, 1) := all_at dvX12_bale_0 1 rfl
theorem dX12_bale_2 : decode cX12_bale 2 = .ok (.lconst 1, 1) := all_at dvX12_bale_0 2 rfl
theorem dX12_bale_3 : decode cX12_bale 3 = .ok (.ldc2_w 180, 3) := all_at dvX12_bale_0 3 rfl
theorem dX12_bale_6 : decode cX12_bale 6 = .ok (.invokestatic 167, 3) := all_at dvX12_bale_0 4 rfl
theorem dX12_bale_9 : decode cX12_bale 9 = .ok (.ifCond .ne 6, 3) := all_at dvX12_bale_0 5 rfl
theorem dX12_bale_12 : decode cX12_bale 12 = .ok (.ldc 178, 2) := all_at dvX12_bale_0 6 rfl
theorem dX12_bale_14 : decode cX12_bale 14 = .ok (.ireturn, 1) := all_at dvX12_bale_0 7 rfl
theorem dX12_bale_15 : decode cX12_bale 15 = .ok (.aload_n 0, 1) := all_at dvX12_bale_0 8 rfl
theorem dX12_bale_16 : decode cX12_bale 16 = .ok (.getfield 164, 3) := all_at dvX12_bale_0 9 rfl
theorem dX12_bale_19 : decode cX12_bale 19 = .ok (.bipush 10, 2) := all_at dvX12_bale_0 10 rfl
theorem dX12_bale_21 : decode cX12_bale 21 = .ok (.if_icmp .ne 6, 3) := all_at dvX12_bale_0 11 rfl
theorem dX12_bale_24 : decode cX12_bale 24 = .ok (.ldc 182, 2) := all_at dvX12_bale_0 12 rfl
theorem dX12_bale_26 : decode cX12_bale 26 = .ok (.ireturn, 1) := all_at dvX12_bale_0 13 rfl
theorem dX12_bale_27 : decode cX12_bale 27 = .ok (.aload_n 0, 1) := all_at dvX12_bale_0 14 rfl
theorem dX12_bale_28 : decode cX12_bale 28 = .ok (.getfield 7, 3) := all_at dvX12_bale_0 15 rfl
theorem dX12_bale_31 : decode cX12_bale 31 = .ok (.aload_n 0, 1) := all_at dvX12_bale_0 16 rfl
theorem dX12_bale_32 : decode cX12_bale 32 = .ok (.getfield 164, 3) := all_at dvX12_bale_0 17 rfl
theorem dX12_bale_35 : decode cX12_bale 35 = .ok (.iload_n 1, 1) := all_at dvX12_bale_0 18 rfl
theorem dX12_bale_36 : decode cX12_bale 36 = .ok (.iastore, 1) := all_at dvX12_bale_0 19 rfl
theorem dX12_bale_37 : decode cX12_bale 37 = .ok (.aload_n 0, 1) := all_at dvX12_bale_0 20 rfl
theorem dX12_bale_38 : decode cX12_bale 38 = .ok (.getfield 109, 3) := all_at dvX12_bale_0 21 rfl
theorem dX12_bale_41 : decode cX12_bale 41 = .ok (.aload_n 0, 1) := all_at dvX12_bale_0 22 rfl
theorem dX12_bale_42 : decode cX12_bale 42 = .ok (.getfield 164, 3) := all_at dvX12_bale_0 23 rfl
set_option maxRecDepth 100000 in
theorem dvX12_bale_45 : ([(45, .iconst 0, 1), (46, .iastore, 1), (47, .aload_n 0, 1), (48, .getfield 115, 3), (51, .aload_n 0, 1), (52, .getfield 164, 3), (55, .iconst 0, 1), (56, .iastore, 1), (57, .aload_n 0, 1), (58, .dup, 1), (59, .getfield 164, 3), (62, .iconst 1, 1), (63, .iadd, 1), (64, .putfield 164, 3), (67, .aload_n 0, 1), (68, .getfield 164, 3), (71, .iconst 1, 1), (72, .isub, 1), (73, .ireturn, 1)] : List (Nat × Instr × Nat)).all (fun q => decide (decode cX12_bale q.1 = .ok (q.2.1, q.2.2))) = true := by decide +kernel
theorem dX12_bale_45 : decode cX12_bale 45 = .ok (.iconst 0, 1) := all_at dvX12_bale_45 0 rfl
theorem dX12_bale_46 : decode cX12_bale 46 = .ok (.iastore, 1) := all_at dvX12_bale_45 1 rfl
theorem dX12_bale_47 : decode cX12_bale 47 = .ok (.aload_n 0, 1) := all_at dvX12_bale_45 2 rfl
theorem dX12_bale_48 : decode cX12_bale 48 = .ok (.getfield 115, 3) := all_at dvX12_bale_45 3 rfl
theorem dX12_bale_51 : decode cX12_bale 51 = .ok (.aload_n 0, 1) := all_at dvX12_bale_45 4 rfl
theorem dX12_bale_52 : decode cX12_bale 52 = .ok (.getfield 164, 3) := all_at dvX12_bale_45 5 rfl
theorem dX12_bale_55 : decode cX12_bale 55 = .ok (.iconst 0, 1) := all_at dvX12_bale_45 6 rfl
theorem dX12_bale_56 : decode cX12_bale 56 = .ok (.iastore, 1) := all_at dvX12_bale_45 7 rfl
theorem dX12_bale_57 : decode cX12_bale 57 = .ok (.aload_n 0, 1) := all_at dvX12_bale_45 8 rfl
theorem dX12_bale_58 : decode cX12_bale 58 = .ok (.dup, 1) := all_at dvX12_bale_45 9 rfl
theorem dX12_bale_59 : decode cX12_bale 59 = .ok (.getfield 164, 3) := all_at dvX12_bale_45 10 rfl
theorem dX12_bale_62 : decode cX12_bale 62 = .ok (.iconst 1, 1) := all_at dvX12_bale_45 11 rfl
theorem dX12_bale_63 : decode cX12_bale 63 = .ok (.iadd, 1) := all_at dvX12_bale_45 12 rfl
theorem dX12_bale_64 : decode cX12_bale 64 = .ok (.putfield 164, 3) := all_at dvX12_bale_45 13 rfl
theorem dX12_bale_67 : decode cX12_bale 67 = .ok (.aload_n 0, 1) := all_at dvX12_bale_45 14 rfl
theorem dX12_bale_68 : decode cX12_bale 68 = .ok (.getfield 164, 3) := all_at dvX12_bale_45 15 rfl
theorem dX12_bale_71 : decode cX12_bale 71 = .ok (.iconst 1, 1) := all_at dvX12_bale_45 16 rfl
theorem dX12_bale_72 : decode cX12_bale 72 = .ok (.isub, 1) := all_at dvX12_bale_45 17 rfl
theorem dX12_bale_73 : decode cX12_bale 73 = .ok (.ireturn, 1) := all_at dvX12_bale_45 18 rfl
set_option maxRecDepth 100000 in
theorem dvX12_go_0 : ([(0, .iload_n 1, 1), (1, .i2l, 1), (2, .lconst 0, 1), (3, .ldc2_w 176, 3), (6, .invokestatic 167, 3), (9, .ifCond .ne 6, 3), (12, .ldc 178, 2), (14, .ireturn, 1), (15, .aload_n 0, 1), (16, .getfield 171, 3), (19, .iload_n 1, 1), (20, .iadd, 1), (21, .sipush 3000, 3), (24, .if_icmp .le 6, 3), (27, .ldc 179, 2), (29, .ireturn, 1), (30, .aload_n 0, 1), (31, .dup, 1), (32, .getfield 171, 3), (35, .iload_n 1, 1), (36, .iadd, 1), (37, .putfield 171, 3), (40, .aload_n 0, 1), (41, .getfield 171, 3)] : List (Nat × Instr × Nat)).all (fun q => decide (decode cX12_go q.1 = .ok (q.2.1, q.2.2))) = true := by decide +kernel
theorem dX12_go_0 : decode cX12_go 0 = .ok (.iload_n 1, 1) := all_at dvX12_go_0 0 rfl
theorem dX12_go_1 : decode cX12_go 1 = .ok (.i2l, 1) := all_at dvX12_go_0 1 rfl
theorem dX12_go_2 : decode cX12_go 2 = .ok (.lconst 0, 1) := all_at dvX12_go_0 2 rfl
theorem dX12_go_3 : decode cX12_go 3 = .ok (.ldc2_w 176, 3) := all_at dvX12_go_0 3 rfl
theorem dX12_go_6 : decode cX12_go 6 = .ok (.invokestatic 167, 3) := all_at dvX12_go_0 4 rfl
theorem dX12_go_9 : decode cX12_go 9 = .ok (.ifCond .ne 6, 3) := all_at dvX12_go_0 5 rfl
theorem dX12_go_12 : decode cX12_go 12 = .ok (.ldc 178, 2) := all_at dvX12_go_0 6 rfl
theorem dX12_go_14 : decode cX12_go 14 = .ok (.ireturn, 1) := all_at dvX12_go_0 7 rfl
theorem dX12_go_15 : decode cX12_go 15 = .ok (.aload_n 0, 1) := all_at dvX12_go_0 8 rfl
theorem dX12_go_16 : decode cX12_go 16 = .ok (.getfield 171, 3) := all_at dvX12_go_0 9 rfl
theorem dX12_go_19 : decode cX12_go 19 = .ok (.iload_n 1, 1) := all_at dvX12_go_0 10 rfl
theorem dX12_go_20 : decode cX12_go 20 = .ok (.iadd, 1) := all_at dvX12_go_0 11 rfl
theorem dX12_go_21 : decode cX12_go 21 = .ok (.sipush 3000, 3) := all_at dvX12_go_0 12 rfl
theorem dX12_go_24 : decode cX12_go 24 = .ok (.if_icmp .le 6, 3) := all_at dvX12_go_0 13 rfl
theorem dX12_go_27 : decode cX12_go 27 = .ok (.ldc 179, 2) := all_at dvX12_go_0 14 rfl
theorem dX12_go_29 : decode cX12_go 29 = .ok (.ireturn, 1) := all_at dvX12_go_0 15 rfl
theorem dX12_go_30 : decode cX12_go 30 = .ok (.aload_n 0, 1) := all_at dvX12_go_0 16 rfl
theorem dX12_go_31 : decode cX12_go 31 = .ok (.dup, 1) := all_at dvX12_go_0 17 rfl
theorem dX12_go_32 : decode cX12_go 32 = .ok (.getfield 171, 3) := all_at dvX12_go_0 18 rfl
theorem dX12_go_35 : decode cX12_go 35 = .ok (.iload_n 1, 1) := all_at dvX12_go_0 19 rfl
theorem dX12_go_36 : decode cX12_go 36 = .ok (.iadd, 1) := all_at dvX12_go_0 20 rfl
theorem dX12_go_37 : decode cX12_go 37 = .ok (.putfield 171, 3) := all_at dvX12_go_0 21 rfl
theorem dX12_go_40 : decode cX12_go 40 = .ok (.aload_n 0, 1) := all_at dvX12_go_0 22 rfl
theorem dX12_go_41 : decode cX12_go 41 = .ok (.getfield 171, 3) := all_at dvX12_go_0 23 rfl
theorem dX12_go_44 : decode cX12_go 44 = .ok (.ireturn, 1) := by decide +kernel
set_option maxRecDepth 100000 in
theorem dvX12_lose_0 : ([(0, .aload_n 0, 1), (1, .iload_n 1, 1), (2, .invokevirtual 207, 3), (5, .ifCond .eq 6, 3), (8, .ldc 187, 2), (10, .ireturn, 1), (11, .aload_n 0, 1), (12, .getfield 37, 3), (15, .iload_n 1, 1), (16, .iaload, 1), (17, .ifCond .lt 6, 3), (20, .ldc 179, 2), (22, .ireturn, 1), (23, .aload_n 0, 1), (24, .getfield 37, 3), (27, .iload_n 1, 1), (28, .aload_n 0, 1), (29, .getfield 171, 3), (32, .iastore, 1), (33, .iconst 1, 1), (34, .ireturn, 1)] : List (Nat × Instr × Nat)).all (fun q => decide (decode cX12_lose q.1 = .ok (q.2.1, q.2.2))) = true := by decide +kernel
theorem dX12_lose_0 : decode cX12_lose 0 = .ok (.aload_n 0, 1) := all_at dvX12_lose_0 0 rfl
theorem dX12_lose_1 : decode cX12_lose 1 = .ok (.iload_n 1, 1) := all_at dvX12_lose_0 1 rfl
theorem dX12_lose_2 : decode cX12_lose 2 = .ok (.invokevirtual 207, 3) := all_at dvX12_lose_0 2 rfl
theorem dX12_lose_5 : decode cX12_lose 5 = .ok (.ifCond .eq 6, 3) := all_at dvX12_lose_0 3 rfl
theorem dX12_lose_8 : decode cX12_lose 8 = .ok (.ldc 187, 2) := all_at dvX12_lose_0 4 rfl
theorem dX12_lose_10 : decode cX12_lose 10 = .ok (.ireturn, 1) := all_at dvX12_lose_0 5 rfl
theorem dX12_lose_11 : decode cX12_lose 11 = .ok (.aload_n 0, 1) := all_at dvX12_lose_0 6 rfl
theorem dX12_lose_12 : decode cX12_lose 12 = .ok (.getfield 37, 3) := all_at dvX12_lose_0 7 rfl
theorem dX12_lose_15 : decode cX12_lose 15 = .ok (.iload_n 1, 1) := all_at dvX12_lose_0 8 rfl
theorem dX12_lose_16 : decode cX12_lose 16 = .ok (.iaload, 1) := all_at dvX12_lose_0 9 rfl
theorem dX12_lose_17 : decode cX12_lose 17 = .ok (.ifCond .lt 6, 3) := all_at dvX12_lose_0 10 rfl
theorem dX12_lose_20 : decode cX12_lose 20 = .ok (.ldc 179, 2) := all_at dvX12_lose_0 11 rfl
theorem dX12_lose_22 : decode cX12_lose 22 = .ok (.ireturn, 1) := all_at dvX12_lose_0 12 rfl
theorem dX12_lose_23 : decode cX12_lose 23 = .ok (.aload_n 0, 1) := all_at dvX12_lose_0 13 rfl
theorem dX12_lose_24 : decode cX12_lose 24 = .ok (.getfield 37, 3) := all_at dvX12_lose_0 14 rfl
theorem dX12_lose_27 : decode cX12_lose 27 = .ok (.iload_n 1, 1) := all_at dvX12_lose_0 15 rfl
theorem dX12_lose_28 : decode cX12_lose 28 = .ok (.aload_n 0, 1) := all_at dvX12_lose_0 16 rfl
theorem dX12_lose_29 : decode cX12_lose 29 = .ok (.getfield 171, 3) := all_at dvX12_lose_0 17 rfl
theorem dX12_lose_32 : decode cX12_lose 32 = .ok (.iastore, 1) := all_at dvX12_lose_0 18 rfl
theorem dX12_lose_33 : decode cX12_lose 33 = .ok (.iconst 1, 1) := all_at dvX12_lose_0 19 rfl
theorem dX12_lose_34 : decode cX12_lose 34 = .ok (.ireturn, 1) := all_at dvX12_lose_0 20 rfl
set_option maxRecDepth 100000 in
theorem dvX12_skein_0 : ([(0, .aload_n 0, 1), (1, .iload_n 1, 1), (2, .invokevirtual 183, 3), (5, .ifCond .eq 6, 3), (8, .ldc 187, 2), (10, .ireturn, 1), (11, .iload_n 2, 1), (12, .i2l, 1), (13, .lconst 0, 1), (14, .ldc2_w 188, 3), (17, .invokestatic 167, 3), (20, .ifCond .eq 71, 3), (23, .iload_n 3, 1), (24, .i2l, 1), (25, .lconst 0, 1), (26, .ldc2_w 190, 3), (29, .invokestatic 167, 3), (32, .ifCond .eq 59, 3), (35, .iload 4, 2), (37, .i2l, 1), (38, .ldc2_w 192, 3), (41, .ldc2_w 194, 3), (44, .invokestatic 167, 3), (47, .ifCond .eq 44, 3)] : List (Nat × Instr × Nat)).all (fun q => decide (decode cX12_skein q.1 = .ok (q.2.1, q.2.2))) = true := by decide +kernel
theorem dX12_skein_0 : decode cX12_skein 0 = .ok (.aload_n 0, 1) := all_at dvX12_skein_0 0 rfl
theorem dX12_skein_1 : decode cX12_skein 1 = .ok (.iload_n 1, 1) := all_at dvX12_skein_0 1 rfl
theorem dX12_skein_2 : decode cX12_skein 2 = .ok (.invokevirtual 183, 3) := all_at dvX12_skein_0 2 rfl
theorem dX12_skein_5 : decode cX12_skein 5 = .ok (.ifCond .eq 6, 3) := all_at dvX12_skein_0 3 rfl
theorem dX12_skein_8 : decode cX12_skein 8 = .ok (.ldc 187, 2) := all_at dvX12_skein_0 4 rfl
theorem dX12_skein_10 : decode cX12_skein 10 = .ok (.ireturn, 1) := all_at dvX12_skein_0 5 rfl
theorem dX12_skein_11 : decode cX12_skein 11 = .ok (.iload_n 2, 1) := all_at dvX12_skein_0 6 rfl
theorem dX12_skein_12 : decode cX12_skein 12 = .ok (.i2l, 1) := all_at dvX12_skein_0 7 rfl
theorem dX12_skein_13 : decode cX12_skein 13 = .ok (.lconst 0, 1) := all_at dvX12_skein_0 8 rfl
theorem dX12_skein_14 : decode cX12_skein 14 = .ok (.ldc2_w 188, 3) := all_at dvX12_skein_0 9 rfl
theorem dX12_skein_17 : decode cX12_skein 17 = .ok (.invokestatic 167, 3) := all_at dvX12_skein_0 10 rfl
theorem dX12_skein_20 : decode cX12_skein 20 = .ok (.ifCond .eq 71, 3) := all_at dvX12_skein_0 11 rfl
theorem dX12_skein_23 : decode cX12_skein 23 = .ok (.iload_n 3, 1) := all_at dvX12_skein_0 12 rfl
theorem dX12_skein_24 : decode cX12_skein 24 = .ok (.i2l, 1) := all_at dvX12_skein_0 13 rfl
theorem dX12_skein_25 : decode cX12_skein 25 = .ok (.lconst 0, 1) := all_at dvX12_skein_0 14 rfl
theorem dX12_skein_26 : decode cX12_skein 26 = .ok (.ldc2_w 190, 3) := all_at dvX12_skein_0 15 rfl
theorem dX12_skein_29 : decode cX12_skein 29 = .ok (.invokestatic 167, 3) := all_at dvX12_skein_0 16 rfl
theorem dX12_skein_32 : decode cX12_skein 32 = .ok (.ifCond .eq 59, 3) := all_at dvX12_skein_0 17 rfl
theorem dX12_skein_35 : decode cX12_skein 35 = .ok (.iload 4, 2) := all_at dvX12_skein_0 18 rfl
theorem dX12_skein_37 : decode cX12_skein 37 = .ok (.i2l, 1) := all_at dvX12_skein_0 19 rfl
theorem dX12_skein_38 : decode cX12_skein 38 = .ok (.ldc2_w 192, 3) := all_at dvX12_skein_0 20 rfl
theorem dX12_skein_41 : decode cX12_skein 41 = .ok (.ldc2_w 194, 3) := all_at dvX12_skein_0 21 rfl
theorem dX12_skein_44 : decode cX12_skein 44 = .ok (.invokestatic 167, 3) := all_at dvX12_skein_0 22 rfl
theorem dX12_skein_47 : decode cX12_skein 47 = .ok (.ifCond .eq 44, 3) := all_at dvX12_skein_0 23 rfl
set_option maxRecDepth 100000 in
theorem dvX12_skein_50 : ([(50, .iload 5, 2), (52, .i2l, 1), (53, .ldc2_w 196, 3), (56, .iload 4, 2), (58, .i2l, 1), (59, .invokestatic 167, 3), (62, .ifCond .eq 29, 3), (65, .iload 6, 2), (67, .i2l, 1), (68, .lconst 0, 1), (69, .ldc2_w 190, 3), (72, .invokestatic 167, 3), (75, .ifCond .eq 16, 3), (78, .iload 7, 2), (80, .i2l, 1), (81, .lconst 0, 1), (82, .ldc2_w 198, 3), (85, .invokestatic 167, 3), (88, .ifCond .ne 6, 3), (91, .ldc 178, 2), (93, .ireturn, 1), (94, .iconst 0, 1), (95, .istore 8, 2), (97, .iconst 0, 1)] : List (Nat × Instr × Nat)).all (fun q => decide (decode cX12_skein q.1 = .ok (q.2.1, q.2.2))) = true := by decide +kernel
theorem dX12_skein_50 : decode cX12_skein 50 = .ok (.iload 5, 2) := all_at dvX12_skein_50 0 rfl
theorem dX12_skein_52 : decode cX12_skein 52 = .ok (.i2l, 1) := all_at dvX12_skein_50 1 rfl
theorem dX12_skein_53 : decode cX12_skein 53 = .ok (.ldc2_w 196, 3) := all_at dvX12_skein_50 2 rfl
theorem dX12_skein_56 : decode cX12_skein 56 = .ok (.iload 4, 2) := all_at dvX12_skein_50 3 rfl
theorem dX12_skein_58 : decode cX12_skein 58 = .ok (.i2l, 1) := all_at dvX12_skein_50 4 rfl
theorem dX12_skein_59 : decode cX12_skein 59 = .ok (.invokestatic 167, 3) := all_at dvX12_skein_50 5 rfl
theorem dX12_skein_62 : decode cX12_skein 62 = .ok (.ifCond .eq 29, 3) := all_at dvX12_skein_50 6 rfl
theorem dX12_skein_65 : decode cX12_skein 65 = .ok (.iload 6, 2) := all_at dvX12_skein_50 7 rfl
theorem dX12_skein_67 : decode cX12_skein 67 = .ok (.i2l, 1) := all_at dvX12_skein_50 8 rfl
theorem dX12_skein_68 : decode cX12_skein 68 = .ok (.lconst 0, 1) := all_at dvX12_skein_50 9 rfl
theorem dX12_skein_69 : decode cX12_skein 69 = .ok (.ldc2_w 190, 3) := all_at dvX12_skein_50 10 rfl
theorem dX12_skein_72 : decode cX12_skein 72 = .ok (.invokestatic 167, 3) := all_at dvX12_skein_50 11 rfl
theorem dX12_skein_75 : decode cX12_skein 75 = .ok (.ifCond .eq 16, 3) := all_at dvX12_skein_50 12 rfl
theorem dX12_skein_78 : decode cX12_skein 78 = .ok (.iload 7, 2) := all_at dvX12_skein_50 13 rfl
theorem dX12_skein_80 : decode cX12_skein 80 = .ok (.i2l, 1) := all_at dvX12_skein_50 14 rfl
theorem dX12_skein_81 : decode cX12_skein 81 = .ok (.lconst 0, 1) := all_at dvX12_skein_50 15 rfl
theorem dX12_skein_82 : decode cX12_skein 82 = .ok (.ldc2_w 198, 3) := all_at dvX12_skein_50 16 rfl
theorem dX12_skein_85 : decode cX12_skein 85 = .ok (.invokestatic 167, 3) := all_at dvX12_skein_50 17 rfl
theorem dX12_skein_88 : decode cX12_skein 88 = .ok (.ifCond .ne 6, 3) := all_at dvX12_skein_50 18 rfl
theorem dX12_skein_91 : decode cX12_skein 91 = .ok (.ldc 178, 2) := all_at dvX12_skein_50 19 rfl
theorem dX12_skein_93 : decode cX12_skein 93 = .ok (.ireturn, 1) := all_at dvX12_skein_50 20 rfl
theorem dX12_skein_94 : decode cX12_skein 94 = .ok (.iconst 0, 1) := all_at dvX12_skein_50 21 rfl
theorem dX12_skein_95 : decode cX12_skein 95 = .ok (.istore 8, 2) := all_at dvX12_skein_50 22 rfl
theorem dX12_skein_97 : decode cX12_skein 97 = .ok (.iconst 0, 1) := all_at dvX12_skein_50 23 rfl
set_option maxRecDepth 100000 in
theorem dvX12_skein_98 : ([(98, .istore 9, 2), (100, .iload 9, 2), (102, .aload_n 0, 1), (103, .getfield 200, 3), (106, .if_icmp .ge 44, 3), (109, .iload 8, 2), (111, .aload_n 0, 1), (112, .getfield 13, 3), (115, .iload 9, 2), (117, .iaload, 1), (118, .iload_n 1, 1), (119, .if_icmp .ne 18, 3), (122, .aload_n 0, 1), (123, .getfield 16, 3), (126, .iload 9, 2), (128, .iaload, 1), (129, .iload_n 2, 1), (130, .if_icmp .ne 7, 3), (133, .iconst 1, 1), (134, .goto 4, 3), (137, .iconst 0, 1), (138, .invokestatic 203, 3), (141, .iadd, 1), (142, .istore 8, 2)] : List (Nat × Instr × Nat)).all (fun q => decide (decode cX12_skein q.1 = .ok (q.2.1, q.2.2))) = true := by decide +kernel
theorem dX12_skein_98 : decode cX12_skein 98 = .ok (.istore 9, 2) := all_at dvX12_skein_98 0 rfl
theorem dX12_skein_100 : decode cX12_skein 100 = .ok (.iload 9, 2) := all_at dvX12_skein_98 1 rfl
theorem dX12_skein_102 : decode cX12_skein 102 = .ok (.aload_n 0, 1) := all_at dvX12_skein_98 2 rfl
theorem dX12_skein_103 : decode cX12_skein 103 = .ok (.getfield 200, 3) := all_at dvX12_skein_98 3 rfl
theorem dX12_skein_106 : decode cX12_skein 106 = .ok (.if_icmp .ge 44, 3) := all_at dvX12_skein_98 4 rfl
theorem dX12_skein_109 : decode cX12_skein 109 = .ok (.iload 8, 2) := all_at dvX12_skein_98 5 rfl
theorem dX12_skein_111 : decode cX12_skein 111 = .ok (.aload_n 0, 1) := all_at dvX12_skein_98 6 rfl
theorem dX12_skein_112 : decode cX12_skein 112 = .ok (.getfield 13, 3) := all_at dvX12_skein_98 7 rfl
theorem dX12_skein_115 : decode cX12_skein 115 = .ok (.iload 9, 2) := all_at dvX12_skein_98 8 rfl
theorem dX12_skein_117 : decode cX12_skein 117 = .ok (.iaload, 1) := all_at dvX12_skein_98 9 rfl
theorem dX12_skein_118 : decode cX12_skein 118 = .ok (.iload_n 1, 1) := all_at dvX12_skein_98 10 rfl
theorem dX12_skein_119 : decode cX12_skein 119 = .ok (.if_icmp .ne 18, 3) := all_at dvX12_skein_98 11 rfl
theorem dX12_skein_122 : decode cX12_skein 122 = .ok (.aload_n 0, 1) := all_at dvX12_skein_98 12 rfl
theorem dX12_skein_123 : decode cX12_skein 123 = .ok (.getfield 16, 3) := all_at dvX12_skein_98 13 rfl
theorem dX12_skein_126 : decode cX12_skein 126 = .ok (.iload 9, 2) := all_at dvX12_skein_98 14 rfl
theorem dX12_skein_128 : decode cX12_skein 128 = .ok (.iaload, 1) := all_at dvX12_skein_98 15 rfl
theorem dX12_skein_129 : decode cX12_skein 129 = .ok (.iload_n 2, 1) := all_at dvX12_skein_98 16 rfl
theorem dX12_skein_130 : decode cX12_skein 130 = .ok (.if_icmp .ne 7, 3) := all_at dvX12_skein_98 17 rfl
theorem dX12_skein_133 : decode cX12_skein 133 = .ok (.iconst 1, 1) := all_at dvX12_skein_98 18 rfl
theorem dX12_skein_134 : decode cX12_skein 134 = .ok (.goto 4, 3) := all_at dvX12_skein_98 19 rfl
theorem dX12_skein_137 : decode cX12_skein 137 = .ok (.iconst 0, 1) := all_at dvX12_skein_98 20 rfl
theorem dX12_skein_138 : decode cX12_skein 138 = .ok (.invokestatic 203, 3) := all_at dvX12_skein_98 21 rfl
theorem dX12_skein_141 : decode cX12_skein 141 = .ok (.iadd, 1) := all_at dvX12_skein_98 22 rfl
theorem dX12_skein_142 : decode cX12_skein 142 = .ok (.istore 8, 2) := all_at dvX12_skein_98 23 rfl
set_option maxRecDepth 100000 in
theorem dvX12_skein_144 : ([(144, .iinc 9 1, 3), (147, .goto (-47), 3), (150, .aload_n 0, 1), (151, .getfield 200, 3), (154, .bipush 60, 2), (156, .if_icmp .eq 10, 3), (159, .iload 8, 2), (161, .bipush 12, 2), (163, .if_icmp .ne 6, 3), (166, .ldc 182, 2), (168, .ireturn, 1), (169, .aload_n 0, 1), (170, .getfield 13, 3), (173, .aload_n 0, 1), (174, .getfield 200, 3), (177, .iload_n 1, 1), (178, .iastore, 1), (179, .aload_n 0, 1), (180, .getfield 16, 3), (183, .aload_n 0, 1), (184, .getfield 200, 3), (187, .iload_n 2, 1), (188, .iastore, 1), (189, .aload_n 0, 1)] : List (Nat × Instr × Nat)).all (fun q => decide (decode cX12_skein q.1 = .ok (q.2.1, q.2.2))) = true := by decide +kernel
theorem dX12_skein_144 : decode cX12_skein 144 = .ok (.iinc 9 1, 3) := all_at dvX12_skein_144 0 rfl
theorem dX12_skein_147 : decode cX12_skein 147 = .ok (.goto (-47), 3) := all_at dvX12_skein_144 1 rfl
theorem dX12_skein_150 : decode cX12_skein 150 = .ok (.aload_n 0, 1) := all_at dvX12_skein_144 2 rfl
theorem dX12_skein_151 : decode cX12_skein 151 = .ok (.getfield 200, 3) := all_at dvX12_skein_144 3 rfl
theorem dX12_skein_154 : decode cX12_skein 154 = .ok (.bipush 60, 2) := all_at dvX12_skein_144 4 rfl
theorem dX12_skein_156 : decode cX12_skein 156 = .ok (.if_icmp .eq 10, 3) := all_at dvX12_skein_144 5 rfl
theorem dX12_skein_159 : decode cX12_skein 159 = .ok (.iload 8, 2) := all_at dvX12_skein_144 6 rfl
theorem dX12_skein_161 : decode cX12_skein 161 = .ok (.bipush 12, 2) := all_at dvX12_skein_144 7 rfl
theorem dX12_skein_163 : decode cX12_skein 163 = .ok (.if_icmp .ne 6, 3) := all_at dvX12_skein_144 8 rfl
theorem dX12_skein_166 : decode cX12_skein 166 = .ok (.ldc 182, 2) := all_at dvX12_skein_144 9 rfl
theorem dX12_skein_168 : decode cX12_skein 168 = .ok (.ireturn, 1) := all_at dvX12_skein_144 10 rfl
theorem dX12_skein_169 : decode cX12_skein 169 = .ok (.aload_n 0, 1) := all_at dvX12_skein_144 11 rfl
theorem dX12_skein_170 : decode cX12_skein 170 = .ok (.getfield 13, 3) := all_at dvX12_skein_144 12 rfl
theorem dX12_skein_173 : decode cX12_skein 173 = .ok (.aload_n 0, 1) := all_at dvX12_skein_144 13 rfl
theorem dX12_skein_174 : decode cX12_skein 174 = .ok (.getfield 200, 3) := all_at dvX12_skein_144 14 rfl
theorem dX12_skein_177 : decode cX12_skein 177 = .ok (.iload_n 1, 1) := all_at dvX12_skein_144 15 rfl
theorem dX12_skein_178 : decode cX12_skein 178 = .ok (.iastore, 1) := all_at dvX12_skein_144 16 rfl
theorem dX12_skein_179 : decode cX12_skein 179 = .ok (.aload_n 0, 1) := all_at dvX12_skein_144 17 rfl
theorem dX12_skein_180 : decode cX12_skein 180 = .ok (.getfield 16, 3) := all_at dvX12_skein_144 18 rfl
theorem dX12_skein_183 : decode cX12_skein 183 = .ok (.aload_n 0, 1) := all_at dvX12_skein_144 19 rfl
theorem dX12_skein_184 : decode cX12_skein 184 = .ok (.getfield 200, 3) := all_at dvX12_skein_144 20 rfl
theorem dX12_skein_187 : decode cX12_skein 187 = .ok (.iload_n 2, 1) := all_at dvX12_skein_144 21 rfl
theorem dX12_skein_188 : decode cX12_skein 188 = .ok (.iastore, 1) := all_at dvX12_skein_144 22 rfl
theorem dX12_skein_189 : decode cX12_skein 189 = .ok (.aload_n 0, 1) := all_at dvX12_skein_144 23 rfl
set_option maxRecDepth 100000 in
theorem dvX12_skein_190 : ([(190, .getfield 19, 3), (193, .aload_n 0, 1), (194, .getfield 200, 3), (197, .iload_n 3, 1), (198, .iastore, 1), (199, .aload_n 0, 1), (200, .getfield 22, 3), (203, .aload_n 0, 1), (204, .getfield 200, 3), (207, .iload 4, 2), (209, .iastore, 1), (210, .aload_n 0, 1), (211, .getfield 25, 3), (214, .aload_n 0, 1), (215, .getfield 200, 3), (218, .iload 5, 2), (220, .iastore, 1), (221, .aload_n 0, 1), (222, .getfield 28, 3), (225, .aload_n 0, 1), (226, .getfield 200, 3), (229, .iload 6, 2), (231, .iastore, 1), (232, .aload_n 0, 1)] : List (Nat × Instr × Nat)).all (fun q => decide (decode cX12_skein q.1 = .ok (q.2.1, q.2.2))) = true := by decide +kernel
theorem dX12_skein_190 : decode cX12_skein 190 = .ok (.getfield 19, 3) := all_at dvX12_skein_190 0 rfl
theorem dX12_skein_193 : decode cX12_skein 193 = .ok (.aload_n 0, 1) := all_at dvX12_skein_190 1 rfl
theorem dX12_skein_194 : decode cX12_skein 194 = .ok (.getfield 200, 3) := all_at dvX12_skein_190 2 rfl
theorem dX12_skein_197 : decode cX12_skein 197 = .ok (.iload_n 3, 1) := all_at dvX12_skein_190 3 rfl
theorem dX12_skein_198 : decode cX12_skein 198 = .ok (.iastore, 1) := all_at dvX12_skein_190 4 rfl
theorem dX12_skein_199 : decode cX12_skein 199 = .ok (.aload_n 0, 1) := all_at dvX12_skein_190 5 rfl
theorem dX12_skein_200 : decode cX12_skein 200 = .ok (.getfield 22, 3) := all_at dvX12_skein_190 6 rfl
theorem dX12_skein_203 : decode cX12_skein 203 = .ok (.aload_n 0, 1) := all_at dvX12_skein_190 7 rfl
theorem dX12_skein_204 : decode cX12_skein 204 = .ok (.getfield 200, 3) := all_at dvX12_skein_190 8 rfl
theorem dX12_skein_207 : decode cX12_skein 207 = .ok (.iload 4, 2) := all_at dvX12_skein_190 9 rfl
theorem dX12_skein_209 : decode cX12_skein 209 = .ok (.iastore, 1) := all_at dvX12_skein_190 10 rfl
theorem dX12_skein_210 : decode cX12_skein 210 = .ok (.aload_n 0, 1) := all_at dvX12_skein_190 11 rfl
theorem dX12_skein_211 : decode cX12_skein 211 = .ok (.getfield 25, 3) := all_at dvX12_skein_190 12 rfl
theorem dX12_skein_214 : decode cX12_skein 214 = .ok (.aload_n 0, 1) := all_at dvX12_skein_190 13 rfl
theorem dX12_skein_215 : decode cX12_skein 215 = .ok (.getfield 200, 3) := all_at dvX12_skein_190 14 rfl
theorem dX12_skein_218 : decode cX12_skein 218 = .ok (.iload 5, 2) := all_at dvX12_skein_190 15 rfl
theorem dX12_skein_220 : decode cX12_skein 220 = .ok (.iastore, 1) := all_at dvX12_skein_190 16 rfl
theorem dX12_skein_221 : decode cX12_skein 221 = .ok (.aload_n 0, 1) := all_at dvX12_skein_190 17 rfl
theorem dX12_skein_222 : decode cX12_skein 222 = .ok (.getfield 28, 3) := all_at dvX12_skein_190 18 rfl
theorem dX12_skein_225 : decode cX12_skein 225 = .ok (.aload_n 0, 1) := all_at dvX12_skein_190 19 rfl
theorem dX12_skein_226 : decode cX12_skein 226 = .ok (.getfield 200, 3) := all_at dvX12_skein_190 20 rfl
theorem dX12_skein_229 : decode cX12_skein 229 = .ok (.iload 6, 2) := all_at dvX12_skein_190 21 rfl
theorem dX12_skein_231 : decode cX12_skein 231 = .ok (.iastore, 1) := all_at dvX12_skein_190 22 rfl
theorem dX12_skein_232 : decode cX12_skein 232 = .ok (.aload_n 0, 1) := all_at dvX12_skein_190 23 rfl
set_option maxRecDepth 100000 in
theorem dvX12_skein_233 : ([(233, .getfield 31, 3), (236, .aload_n 0, 1), (237, .getfield 200, 3), (240, .iload 7, 2), (242, .iastore, 1), (243, .aload_n 0, 1), (244, .getfield 34, 3), (247, .aload_n 0, 1), (248, .getfield 200, 3), (251, .aload_n 0, 1), (252, .getfield 171, 3), (255, .iastore, 1), (256, .aload_n 0, 1), (257, .getfield 37, 3), (260, .aload_n 0, 1), (261, .getfield 200, 3), (264, .iconst (-1), 1), (265, .iastore, 1), (266, .aload_n 0, 1), (267, .dup, 1), (268, .getfield 200, 3), (271, .iconst 1, 1), (272, .iadd, 1), (273, .putfield 200, 3)] : List (Nat × Instr × Nat)).all (fun q => decide (decode cX12_skein q.1 = .ok (q.2.1, q.2.2))) = true := by decide +kernel
theorem dX12_skein_233 : decode cX12_skein 233 = .ok (.getfield 31, 3) := all_at dvX12_skein_233 0 rfl
theorem dX12_skein_236 : decode cX12_skein 236 = .ok (.aload_n 0, 1) := all_at dvX12_skein_233 1 rfl
theorem dX12_skein_237 : decode cX12_skein 237 = .ok (.getfield 200, 3) := all_at dvX12_skein_233 2 rfl
theorem dX12_skein_240 : decode cX12_skein 240 = .ok (.iload 7, 2) := all_at dvX12_skein_233 3 rfl
theorem dX12_skein_242 : decode cX12_skein 242 = .ok (.iastore, 1) := all_at dvX12_skein_233 4 rfl
theorem dX12_skein_243 : decode cX12_skein 243 = .ok (.aload_n 0, 1) := all_at dvX12_skein_233 5 rfl
theorem dX12_skein_244 : decode cX12_skein 244 = .ok (.getfield 34, 3) := all_at dvX12_skein_233 6 rfl
theorem dX12_skein_247 : decode cX12_skein 247 = .ok (.aload_n 0, 1) := all_at dvX12_skein_233 7 rfl
theorem dX12_skein_248 : decode cX12_skein 248 = .ok (.getfield 200, 3) := all_at dvX12_skein_233 8 rfl
theorem dX12_skein_251 : decode cX12_skein 251 = .ok (.aload_n 0, 1) := all_at dvX12_skein_233 9 rfl
theorem dX12_skein_252 : decode cX12_skein 252 = .ok (.getfield 171, 3) := all_at dvX12_skein_233 10 rfl
theorem dX12_skein_255 : decode cX12_skein 255 = .ok (.iastore, 1) := all_at dvX12_skein_233 11 rfl
theorem dX12_skein_256 : decode cX12_skein 256 = .ok (.aload_n 0, 1) := all_at dvX12_skein_233 12 rfl
theorem dX12_skein_257 : decode cX12_skein 257 = .ok (.getfield 37, 3) := all_at dvX12_skein_233 13 rfl
theorem dX12_skein_260 : decode cX12_skein 260 = .ok (.aload_n 0, 1) := all_at dvX12_skein_233 14 rfl
theorem dX12_skein_261 : decode cX12_skein 261 = .ok (.getfield 200, 3) := all_at dvX12_skein_233 15 rfl
theorem dX12_skein_264 : decode cX12_skein 264 = .ok (.iconst (-1), 1) := all_at dvX12_skein_233 16 rfl
theorem dX12_skein_265 : decode cX12_skein 265 = .ok (.iastore, 1) := all_at dvX12_skein_233 17 rfl
theorem dX12_skein_266 : decode cX12_skein 266 = .ok (.aload_n 0, 1) := all_at dvX12_skein_233 18 rfl
theorem dX12_skein_267 : decode cX12_skein 267 = .ok (.dup, 1) := all_at dvX12_skein_233 19 rfl
theorem dX12_skein_268 : decode cX12_skein 268 = .ok (.getfield 200, 3) := all_at dvX12_skein_233 20 rfl
theorem dX12_skein_271 : decode cX12_skein 271 = .ok (.iconst 1, 1) := all_at dvX12_skein_233 21 rfl
theorem dX12_skein_272 : decode cX12_skein 272 = .ok (.iadd, 1) := all_at dvX12_skein_233 22 rfl
theorem dX12_skein_273 : decode cX12_skein 273 = .ok (.putfield 200, 3) := all_at dvX12_skein_233 23 rfl
set_option maxRecDepth 100000 in
theorem dvX12_skein_276 : ([(276, .aload_n 0, 1), (277, .getfield 200, 3), (280, .iconst 1, 1), (281, .isub, 1), (282, .ireturn, 1)] : List (Nat × Instr × Nat)).all (fun q => decide (decode cX12_skein q.1 = .ok (q.2.1, q.2.2))) = true := by decide +kernel
theorem dX12_skein_276 : decode cX12_skein 276 = .ok (.aload_n 0, 1) := all_at dvX12_skein_276 0 rfl
theorem dX12_skein_277 : decode cX12_skein 277 = .ok (.getfield 200, 3) := all_at dvX12_skein_276 1 rfl
theorem dX12_skein_280 : decode cX12_skein 280 = .ok (.iconst 1, 1) := all_at dvX12_skein_276 2 rfl
theorem dX12_skein_281 : decode cX12_skein 281 = .ok (.isub, 1) := all_at dvX12_skein_276 3 rfl
theorem dX12_skein_282 : decode cX12_skein 282 = .ok (.ireturn, 1) := all_at dvX12_skein_276 4 rfl
set_option maxRecDepth 100000 in
theorem dvX12_test_0 : ([(0, .iload_n 1, 1), (1, .i2l, 1), (2, .lconst 0, 1), (3, .ldc2_w 190, 3), (6, .invokestatic 167, 3), (9, .ifCond .eq 17, 3), (12, .iload_n 2, 1), (13, .invokestatic 210, 3), (16, .ifCond .eq 10, 3), (19, .iload_n 3, 1), (20, .invokestatic 210, 3), (23, .ifCond .ne 6, 3), (26, .ldc 178, 2), (28, .ireturn, 1), (29, .aload_n 0, 1), (30, .getfield 213, 3), (33, .bipush 30, 2), (35, .if_icmp .ne 6, 3), (38, .ldc 182, 2), (40, .ireturn, 1), (41, .aload_n 0, 1), (42, .getfield 40, 3), (45, .aload_n 0, 1), (46, .getfield 213, 3)] : List (Nat × Instr × Nat)).all (fun q => decide (decode cX12_test q.1 = .ok (q.2.1, q.2.2))) = true := by decide +kernel
theorem dX12_test_0 : decode cX12_test 0 = .ok (.iload_n 1, 1) := all_at dvX12_test_0 0 rfl
theorem dX12_test_1 : decode cX12_test 1 = .ok (.i2l, 1) := all_at dvX12_test_0 1 rfl
theorem dX12_test_2 : decode cX12_test 2 = .ok (.lconst 0, 1) := all_at dvX12_test_0 2 rfl
theorem dX12_test_3 : decode cX12_test 3 = .ok (.ldc2_w 190, 3) := all_at dvX12_test_0 3 rfl
theorem dX12_test_6 : decode cX12_test 6 = .ok (.invokestatic 167, 3) := all_at dvX12_test_0 4 rfl
theorem dX12_test_9 : decode cX12_test 9 = .ok (.ifCond .eq 17, 3) := all_at dvX12_test_0 5 rfl
theorem dX12_test_12 : decode cX12_test 12 = .ok (.iload_n 2, 1) := all_at dvX12_test_0 6 rfl
theorem dX12_test_13 : decode cX12_test 13 = .ok (.invokestatic 210, 3) := all_at dvX12_test_0 7 rfl
theorem dX12_test_16 : decode cX12_test 16 = .ok (.ifCond .eq 10, 3) := all_at dvX12_test_0 8 rfl
theorem dX12_test_19 : decode cX12_test 19 = .ok (.iload_n 3, 1) := all_at dvX12_test_0 9 rfl
theorem dX12_test_20 : decode cX12_test 20 = .ok (.invokestatic 210, 3) := all_at dvX12_test_0 10 rfl
theorem dX12_test_23 : decode cX12_test 23 = .ok (.ifCond .ne 6, 3) := all_at dvX12_test_0 11 rfl
theorem dX12_test_26 : decode cX12_test 26 = .ok (.ldc 178, 2) := all_at dvX12_test_0 12 rfl
theorem dX12_test_28 : decode cX12_test 28 = .ok (.ireturn, 1) := all_at dvX12_test_0 13 rfl
theorem dX12_test_29 : decode cX12_test 29 = .ok (.aload_n 0, 1) := all_at dvX12_test_0 14 rfl
theorem dX12_test_30 : decode cX12_test 30 = .ok (.getfield 213, 3) := all_at dvX12_test_0 15 rfl
theorem dX12_test_33 : decode cX12_test 33 = .ok (.bipush 30, 2) := all_at dvX12_test_0 16 rfl
theorem dX12_test_35 : decode cX12_test 35 = .ok (.if_icmp .ne 6, 3) := all_at dvX12_test_0 17 rfl
theorem dX12_test_38 : decode cX12_test 38 = .ok (.ldc 182, 2) := all_at dvX12_test_0 18 rfl
theorem dX12_test_40 : decode cX12_test 40 = .ok (.ireturn, 1) := all_at dvX12_test_0 19 rfl
theorem dX12_test_41 : decode cX12_test 41 = .ok (.aload_n 0, 1) := all_at dvX12_test_0 20 rfl
theorem dX12_test_42 : decode cX12_test 42 = .ok (.getfield 40, 3) := all_at dvX12_test_0 21 rfl
theorem dX12_test_45 : decode cX12_test 45 = .ok (.aload_n 0, 1) := all_at dvX12_test_0 22 rfl
theorem dX12_test_46 : decode cX12_test 46 = .ok (.getfield 213, 3) := all_at dvX12_test_0 23 rfl
set_option maxRecDepth 100000 in
theorem dvX12_test_49 : ([(49, .iload_n 1, 1), (50, .iastore, 1), (51, .aload_n 0, 1), (52, .getfield 43, 3), (55, .aload_n 0, 1), (56, .getfield 213, 3), (59, .iload_n 2, 1), (60, .iload_n 3, 1), (61, .isub, 1), (62, .iastore, 1), (63, .aload_n 0, 1), (64, .getfield 46, 3), (67, .aload_n 0, 1), (68, .getfield 213, 3), (71, .aload_n 0, 1), (72, .getfield 171, 3), (75, .iastore, 1), (76, .aload_n 0, 1), (77, .dup, 1), (78, .getfield 213, 3), (81, .iconst 1, 1), (82, .iadd, 1), (83, .putfield 213, 3), (86, .aload_n 0, 1)] : List (Nat × Instr × Nat)).all (fun q => decide (decode cX12_test q.1 = .ok (q.2.1, q.2.2))) = true := by decide +kernel
theorem dX12_test_49 : decode cX12_test 49 = .ok (.iload_n 1, 1) := all_at dvX12_test_49 0 rfl
theorem dX12_test_50 : decode cX12_test 50 = .ok (.iastore, 1) := all_at dvX12_test_49 1 rfl
theorem dX12_test_51 : decode cX12_test 51 = .ok (.aload_n 0, 1) := all_at dvX12_test_49 2 rfl
theorem dX12_test_52 : decode cX12_test 52 = .ok (.getfield 43, 3) := all_at dvX12_test_49 3 rfl
theorem dX12_test_55 : decode cX12_test 55 = .ok (.aload_n 0, 1) := all_at dvX12_test_49 4 rfl
theorem dX12_test_56 : decode cX12_test 56 = .ok (.getfield 213, 3) := all_at dvX12_test_49 5 rfl
theorem dX12_test_59 : decode cX12_test 59 = .ok (.iload_n 2, 1) := all_at dvX12_test_49 6 rfl
theorem dX12_test_60 : decode cX12_test 60 = .ok (.iload_n 3, 1) := all_at dvX12_test_49 7 rfl
theorem dX12_test_61 : decode cX12_test 61 = .ok (.isub, 1) := all_at dvX12_test_49 8 rfl
theorem dX12_test_62 : decode cX12_test 62 = .ok (.iastore, 1) := all_at dvX12_test_49 9 rfl
theorem dX12_test_63 : decode cX12_test 63 = .ok (.aload_n 0, 1) := all_at dvX12_test_49 10 rfl
theorem dX12_test_64 : decode cX12_test 64 = .ok (.getfield 46, 3) := all_at dvX12_test_49 11 rfl
theorem dX12_test_67 : decode cX12_test 67 = .ok (.aload_n 0, 1) := all_at dvX12_test_49 12 rfl
theorem dX12_test_68 : decode cX12_test 68 = .ok (.getfield 213, 3) := all_at dvX12_test_49 13 rfl
theorem dX12_test_71 : decode cX12_test 71 = .ok (.aload_n 0, 1) := all_at dvX12_test_49 14 rfl
theorem dX12_test_72 : decode cX12_test 72 = .ok (.getfield 171, 3) := all_at dvX12_test_49 15 rfl
theorem dX12_test_75 : decode cX12_test 75 = .ok (.iastore, 1) := all_at dvX12_test_49 16 rfl
theorem dX12_test_76 : decode cX12_test 76 = .ok (.aload_n 0, 1) := all_at dvX12_test_49 17 rfl
theorem dX12_test_77 : decode cX12_test 77 = .ok (.dup, 1) := all_at dvX12_test_49 18 rfl
theorem dX12_test_78 : decode cX12_test 78 = .ok (.getfield 213, 3) := all_at dvX12_test_49 19 rfl
theorem dX12_test_81 : decode cX12_test 81 = .ok (.iconst 1, 1) := all_at dvX12_test_49 20 rfl
theorem dX12_test_82 : decode cX12_test 82 = .ok (.iadd, 1) := all_at dvX12_test_49 21 rfl
theorem dX12_test_83 : decode cX12_test 83 = .ok (.putfield 213, 3) := all_at dvX12_test_49 22 rfl
theorem dX12_test_86 : decode cX12_test 86 = .ok (.aload_n 0, 1) := all_at dvX12_test_49 23 rfl
theorem dX12_test_87 : decode cX12_test 87 = .ok (.getfield 213, 3) := by decide +kernel
theorem dX12_test_90 : decode cX12_test 90 = .ok (.ireturn, 1) := by decide +kernel
set_option maxRecDepth 100000 in
theorem dvX12_told_0 : ([(0, .aload_n 0, 1), (1, .iload_n 1, 1), (2, .invokevirtual 207, 3), (5, .ifCond .eq 6, 3), (8, .ldc 187, 2), (10, .ireturn, 1), (11, .iload_n 2, 1), (12, .tableswitch 115 0 8 #[52, 59, 66, 73, 80, 87, 94, 101, 108], 52), (64, .aload_n 0, 1), (65, .getfield 13, 3), (68, .iload_n 1, 1), (69, .iaload, 1), (70, .ireturn, 1), (71, .aload_n 0, 1), (72, .getfield 16, 3), (75, .iload_n 1, 1), (76, .iaload, 1), (77, .ireturn, 1), (78, .aload_n 0, 1), (79, .getfield 19, 3), (82, .iload_n 1, 1), (83, .iaload, 1), (84, .ireturn, 1), (85, .aload_n 0, 1)] : List (Nat × Instr × Nat)).all (fun q => decide (decode cX12_told q.1 = .ok (q.2.1, q.2.2))) = true := by decide +kernel
theorem dX12_told_0 : decode cX12_told 0 = .ok (.aload_n 0, 1) := all_at dvX12_told_0 0 rfl
theorem dX12_told_1 : decode cX12_told 1 = .ok (.iload_n 1, 1) := all_at dvX12_told_0 1 rfl
theorem dX12_told_2 : decode cX12_told 2 = .ok (.invokevirtual 207, 3) := all_at dvX12_told_0 2 rfl
theorem dX12_told_5 : decode cX12_told 5 = .ok (.ifCond .eq 6, 3) := all_at dvX12_told_0 3 rfl
theorem dX12_told_8 : decode cX12_told 8 = .ok (.ldc 187, 2) := all_at dvX12_told_0 4 rfl
theorem dX12_told_10 : decode cX12_told 10 = .ok (.ireturn, 1) := all_at dvX12_told_0 5 rfl
theorem dX12_told_11 : decode cX12_told 11 = .ok (.iload_n 2, 1) := all_at dvX12_told_0 6 rfl
theorem dX12_told_12 : decode cX12_told 12 = .ok (.tableswitch 115 0 8 #[52, 59, 66, 73, 80, 87, 94, 101, 108], 52) := all_at dvX12_told_0 7 rfl
theorem dX12_told_64 : decode cX12_told 64 = .ok (.aload_n 0, 1) := all_at dvX12_told_0 8 rfl
theorem dX12_told_65 : decode cX12_told 65 = .ok (.getfield 13, 3) := all_at dvX12_told_0 9 rfl
theorem dX12_told_68 : decode cX12_told 68 = .ok (.iload_n 1, 1) := all_at dvX12_told_0 10 rfl
theorem dX12_told_69 : decode cX12_told 69 = .ok (.iaload, 1) := all_at dvX12_told_0 11 rfl
theorem dX12_told_70 : decode cX12_told 70 = .ok (.ireturn, 1) := all_at dvX12_told_0 12 rfl
theorem dX12_told_71 : decode cX12_told 71 = .ok (.aload_n 0, 1) := all_at dvX12_told_0 13 rfl
theorem dX12_told_72 : decode cX12_told 72 = .ok (.getfield 16, 3) := all_at dvX12_told_0 14 rfl
theorem dX12_told_75 : decode cX12_told 75 = .ok (.iload_n 1, 1) := all_at dvX12_told_0 15 rfl
theorem dX12_told_76 : decode cX12_told 76 = .ok (.iaload, 1) := all_at dvX12_told_0 16 rfl
theorem dX12_told_77 : decode cX12_told 77 = .ok (.ireturn, 1) := all_at dvX12_told_0 17 rfl
theorem dX12_told_78 : decode cX12_told 78 = .ok (.aload_n 0, 1) := all_at dvX12_told_0 18 rfl
theorem dX12_told_79 : decode cX12_told 79 = .ok (.getfield 19, 3) := all_at dvX12_told_0 19 rfl
theorem dX12_told_82 : decode cX12_told 82 = .ok (.iload_n 1, 1) := all_at dvX12_told_0 20 rfl
theorem dX12_told_83 : decode cX12_told 83 = .ok (.iaload, 1) := all_at dvX12_told_0 21 rfl
theorem dX12_told_84 : decode cX12_told 84 = .ok (.ireturn, 1) := all_at dvX12_told_0 22 rfl
theorem dX12_told_85 : decode cX12_told 85 = .ok (.aload_n 0, 1) := all_at dvX12_told_0 23 rfl
set_option maxRecDepth 100000 in
theorem dvX12_told_86 : ([(86, .getfield 22, 3), (89, .iload_n 1, 1), (90, .iaload, 1), (91, .ireturn, 1), (92, .aload_n 0, 1), (93, .getfield 25, 3), (96, .iload_n 1, 1), (97, .iaload, 1), (98, .ireturn, 1), (99, .aload_n 0, 1), (100, .getfield 28, 3), (103, .iload_n 1, 1), (104, .iaload, 1), (105, .ireturn, 1), (106, .aload_n 0, 1), (107, .getfield 31, 3), (110, .iload_n 1, 1), (111, .iaload, 1), (112, .ireturn, 1), (113, .aload_n 0, 1), (114, .getfield 34, 3), (117, .iload_n 1, 1), (118, .iaload, 1), (119, .ireturn, 1)] : List (Nat × Instr × Nat)).all (fun q => decide (decode cX12_told q.1 = .ok (q.2.1, q.2.2))) = true := by decide +kernel
theorem dX12_told_86 : decode cX12_told 86 = .ok (.getfield 22, 3) := all_at dvX12_told_86 0 rfl
theorem dX12_told_89 : decode cX12_told 89 = .ok (.iload_n 1, 1) := all_at dvX12_told_86 1 rfl
theorem dX12_told_90 : decode cX12_told 90 = .ok (.iaload, 1) := all_at dvX12_told_86 2 rfl
theorem dX12_told_91 : decode cX12_told 91 = .ok (.ireturn, 1) := all_at dvX12_told_86 3 rfl
theorem dX12_told_92 : decode cX12_told 92 = .ok (.aload_n 0, 1) := all_at dvX12_told_86 4 rfl
theorem dX12_told_93 : decode cX12_told 93 = .ok (.getfield 25, 3) := all_at dvX12_told_86 5 rfl
theorem dX12_told_96 : decode cX12_told 96 = .ok (.iload_n 1, 1) := all_at dvX12_told_86 6 rfl
theorem dX12_told_97 : decode cX12_told 97 = .ok (.iaload, 1) := all_at dvX12_told_86 7 rfl
theorem dX12_told_98 : decode cX12_told 98 = .ok (.ireturn, 1) := all_at dvX12_told_86 8 rfl
theorem dX12_told_99 : decode cX12_told 99 = .ok (.aload_n 0, 1) := all_at dvX12_told_86 9 rfl
theorem dX12_told_100 : decode cX12_told 100 = .ok (.getfield 28, 3) := all_at dvX12_told_86 10 rfl
theorem dX12_told_103 : decode cX12_told 103 = .ok (.iload_n 1, 1) := all_at dvX12_told_86 11 rfl
theorem dX12_told_104 : decode cX12_told 104 = .ok (.iaload, 1) := all_at dvX12_told_86 12 rfl
theorem dX12_told_105 : decode cX12_told 105 = .ok (.ireturn, 1) := all_at dvX12_told_86 13 rfl
theorem dX12_told_106 : decode cX12_told 106 = .ok (.aload_n 0, 1) := all_at dvX12_told_86 14 rfl
theorem dX12_told_107 : decode cX12_told 107 = .ok (.getfield 31, 3) := all_at dvX12_told_86 15 rfl
theorem dX12_told_110 : decode cX12_told 110 = .ok (.iload_n 1, 1) := all_at dvX12_told_86 16 rfl
theorem dX12_told_111 : decode cX12_told 111 = .ok (.iaload, 1) := all_at dvX12_told_86 17 rfl
theorem dX12_told_112 : decode cX12_told 112 = .ok (.ireturn, 1) := all_at dvX12_told_86 18 rfl
theorem dX12_told_113 : decode cX12_told 113 = .ok (.aload_n 0, 1) := all_at dvX12_told_86 19 rfl
theorem dX12_told_114 : decode cX12_told 114 = .ok (.getfield 34, 3) := all_at dvX12_told_86 20 rfl
theorem dX12_told_117 : decode cX12_told 117 = .ok (.iload_n 1, 1) := all_at dvX12_told_86 21 rfl
theorem dX12_told_118 : decode cX12_told 118 = .ok (.iaload, 1) := all_at dvX12_told_86 22 rfl
theorem dX12_told_119 : decode cX12_told 119 = .ok (.ireturn, 1) := all_at dvX12_told_86 23 rfl
set_option maxRecDepth 100000 in
theorem dvX12_told_120 : ([(120, .aload_n 0, 1), (121, .getfield 37, 3), (124, .iload_n 1, 1), (125, .iaload, 1), (126, .ireturn, 1), (127, .ldc 178, 2), (129, .ireturn, 1)] : List (Nat × Instr × Nat)).all (fun q => decide (decode cX12_told q.1 = .ok (q.2.1, q.2.2))) = true := by decide +kernel
theorem dX12_told_120 : decode cX12_told 120 = .ok (.aload_n 0, 1) := all_at dvX12_told_120 0 rfl
theorem dX12_told_121 : decode cX12_told 121 = .ok (.getfield 37, 3) := all_at dvX12_told_120 1 rfl
theorem dX12_told_124 : decode cX12_told 124 = .ok (.iload_n 1, 1) := all_at dvX12_told_120 2 rfl
theorem dX12_told_125 : decode cX12_told 125 = .ok (.iaload, 1) := all_at dvX12_told_120 3 rfl
theorem dX12_told_126 : decode cX12_told 126 = .ok (.ireturn, 1) := all_at dvX12_told_120 4 rfl
theorem dX12_told_127 : decode cX12_told 127 = .ok (.ldc 178, 2) := all_at dvX12_told_120 5 rfl
theorem dX12_told_129 : decode cX12_told 129 = .ok (.ireturn, 1) := all_at dvX12_told_120 6 rfl
theorem sw_0_8 (x : Int32) : (x.toInt < 0 ∨ 8 < x.toInt) ∨ x = 0 ∨ x = 1 ∨ x = 2 ∨ x = 3 ∨ x = 4 ∨ x = 5 ∨ x = 6 ∨ x = 7 ∨ x = 8 := by
  by_cases h : x.toInt < 0 ∨ 8 < x.toInt
  · exact Or.inl h
  · right
    have h2 : x.toInt = 0 ∨ x.toInt = 1 ∨ x.toInt = 2 ∨ x.toInt = 3 ∨ x.toInt = 4 ∨ x.toInt = 5 ∨ x.toInt = 6 ∨ x.toInt = 7 ∨ x.toInt = 8 := by omega
    rcases h2 with h2 | h2 | h2 | h2 | h2 | h2 | h2 | h2 | h2
    · exact Or.inl (z_of (by decide) h2)
    · exact Or.inr (Or.inl (z_of (by decide) h2))
    · exact Or.inr (Or.inr (Or.inl (z_of (by decide) h2)))
    · exact Or.inr (Or.inr (Or.inr (Or.inl (z_of (by decide) h2))))
    · exact Or.inr (Or.inr (Or.inr (Or.inr (Or.inl (z_of (by decide) h2)))))
    · exact Or.inr (Or.inr (Or.inr (Or.inr (Or.inr (Or.inl (z_of (by decide) h2))))))
    · exact Or.inr (Or.inr (Or.inr (Or.inr (Or.inr (Or.inr (Or.inl (z_of (by decide) h2)))))))
    · exact Or.inr (Or.inr (Or.inr (Or.inr (Or.inr (Or.inr (Or.inr (Or.inl (z_of (by decide) h2))))))))
    · exact Or.inr (Or.inr (Or.inr (Or.inr (Or.inr (Or.inr (Or.inr (Or.inr (z_of (by decide) h2))))))))
set_option maxHeartbeats 4000000 in
set_option maxRecDepth 100000 in
/-- X12_test -/
theorem c_X12_test (l : Launch) (dC : Nat → ClassId) (dI : Nat → Nat → Nat) (sz : Nat) (h : Nat) (g : Nat → Nat → Nat) (ca : Nat → Nat → ClassId) (iv : Nat → Nat → Int32) (lv : Nat → Nat → Int64) (fa : Nat → Nat → Nat → Int32) (la : Nat → Nat → Nat → Int64) (hI : IX iv fa) (a : Int32) (b : Int32) (d : Int32) : Met l yX12_test (wc yX12_test cX12_test 4 (some .int)) ({ frames := 2, cells := 0, slots := 0, locals := 45 } : Room) (pW (dC, dI) classes (WM h g ca iv lv fa la) (TM ca) sz [.ref h, .int a, .int b, .int d]) (va_Qi (fun r (u : SS) => ∃ (na_12_14 : Nat → Int32) (na_12_15 : Nat → Int32) (na_12_16 : Nat → Int32) (ni_12_13 : Int32), inb (bI 12 13) ni_12_13 ∧ ((-100004) ≤ r.toInt ∧ r.toInt ≤ 30) ∧ u = ((u2 iv 12 13 ni_12_13), lv, (u2 (u2 (u2 fa 12 14 na_12_14) 12 15 na_12_15) 12 16 na_12_16), la)) (bM (dC, dI) h g ca (va_A (WM h g ca iv lv fa la) sz)) (va_A (WM h g ca iv lv fa la) sz)) 0 0 (va_A (WM h g ca iv lv fa la) sz) := by
  refine Met.ofW (cc := cX12_test) (maxL := 4) (ret := (some .int)) (by decide) rfl ?_
  intro p e s m args below meth c s₁ B hml hv
  obtain ⟨rfl, hsz, hP, hK, hD0⟩ := hv
  have hx := B.exec
  have hb := B.bytes
  have hr := B.returns
  have ht := tb_tl (atoms_spec (ws := wc yX12_test cX12_test 4 (some .int)) B.pre)
  have hown : s.vm.findClass RX12 = some m.cls := findClass_of_methodNamed B.named
  have hlocks := B.notSynchronized
  subst hsz
  have hD := hD0.self (sz := s.heap.size)
  generalize hAe : va_A (WM h g ca iv lv fa la) s.heap.size = A at hD ⊢
  have hA : ∀ q : Nat, s.heap.size ≤ q → A q := fun q h => by rw [← hAe]; exact Or.inr h
  have hS : va_S A s.heap s.heap [] := va_S.rf
  have hl := lv_entry [.ref h, .int a, .int b, .int d] (n := 4) (Nat.le_of_ble_eq_true rfl)
  rw [lg_entry_eq]
  generalize (lg_sl [.ref h, .int a, .int b, .int d] ++ List.replicate (4 - (lg_sl [.ref h, .int a, .int b, .int d]).length) Slot.unset).toArray = ls at hl ⊢
  have hl : lv_has ls 4 [(0, .ref h), (1, .int a), (2, .int b), (3, .int d)] := hl
  refine lv_iload_n hx hb dX12_test_0 rfl (lv_at hl 1 rfl) ?_
  refine lv_i2l (v := (a.toInt64)) hx hb dX12_test_1 rfl ?_
  refine lv_lconst (v := 0) hx hb dX12_test_2 (by decide) ?_
  refine lv_ldc2 hx hb hown (ht _ m_1391) dX12_test_3 ?_
  refine vp_callSi (W.runS (As := [.long (a.toInt64), .long 0, .long 3]) (rest := []) ⟨hx, hb, hml, hown, ht⟩ (c_X12_in l dC dI (a.toInt64) 0 3 (a.toInt) (0) (3) ((Int32.toInt_toInt64 a).trans rfl) (by decide : (0 : Int64).toInt = 0) (by decide : (3 : Int64).toInt = 3)) (kS 3 ht m_1370 m_1371 m_89 m_1372 rfl rfl hd_X12_in_v ⟨Nat.le_of_ble_eq_true rfl, Nat.le_of_ble_eq_true rfl⟩) (sR noP (hK.sub (tys' := []) [] rfl)) rfl rfl hl.1 rfl (lv_room (Nat.le_of_ble_eq_true rfl)) dX12_test_6 ⟨Nat.le_of_ble_eq_true rfl, Nat.le_of_ble_eq_true rfl⟩) (fun r1 hr1 => ?_)
  rcases hr1 with ⟨rfl, fr1⟩ | ⟨rfl, fr1⟩
  · skip
    refine lv_if_eq (tgt := 26) hx hb dX12_test_9 (by decide) (fun c2 => ?_) (fun c2 => ?_)
    · exact absurd c2 (by decide)
    · skip
      refine lv_iload_n hx hb dX12_test_12 rfl (lv_at hl 2 rfl) ?_
      refine vp_callSi (W.runS (As := [.int b]) (rest := []) ⟨hx, hb, hml, hown, ht⟩ (c_X12_isWeight l dC dI b) (kS 1 ht m_1415 m_1416 m_89 m_1417 rfl rfl hd_X12_isWeight_v ⟨Nat.le_of_ble_eq_true rfl, Nat.le_of_ble_eq_true rfl⟩) (sR noP (hK.sub (tys' := []) [] rfl)) rfl rfl hl.1 rfl (lv_room (Nat.le_of_ble_eq_true rfl)) dX12_test_13 ⟨Nat.le_of_ble_eq_true rfl, Nat.le_of_ble_eq_true rfl⟩) (fun r3 hr3 => ?_)
      rcases hr3 with ⟨rfl, fr3⟩ | ⟨rfl, fr3⟩
      · skip
        refine lv_if_eq (tgt := 26) hx hb dX12_test_16 (by decide) (fun c4 => ?_) (fun c4 => ?_)
        · exact absurd c4 (by decide)
        · skip
          refine lv_iload_n hx hb dX12_test_19 rfl (lv_at hl 3 rfl) ?_
          refine vp_callSi (W.runS (As := [.int d]) (rest := []) ⟨hx, hb, hml, hown, ht⟩ (c_X12_isWeight l dC dI d) (kS 1 ht m_1415 m_1416 m_89 m_1417 rfl rfl hd_X12_isWeight_v ⟨Nat.le_of_ble_eq_true rfl, Nat.le_of_ble_eq_true rfl⟩) (sR noP (hK.sub (tys' := []) [] rfl)) rfl rfl hl.1 rfl (lv_room (Nat.le_of_ble_eq_true rfl)) dX12_test_20 ⟨Nat.le_of_ble_eq_true rfl, Nat.le_of_ble_eq_true rfl⟩) (fun r5 hr5 => ?_)
          rcases hr5 with ⟨rfl, fr5⟩ | ⟨rfl, fr5⟩
          · skip
            refine lv_if_ne (tgt := 29) hx hb dX12_test_23 (by decide) (fun c6 => ?_) (fun c6 => ?_)
            · skip
              refine lv_aload_n hx hb dX12_test_29 rfl (lv_at hl 0 rfl) ?_
              have i_12_13 : 0 ≤ (iv 12 13).toInt ∧ (iv 12 13).toInt ≤ 30 := hI.1 12 13
              refine gM_12_13 hx hb ht hown hK hP m_1152 (v := (iv 12 13)) rfl dX12_test_30 ?_
              refine lv_bipush (v := 30) hx hb dX12_test_33 (by decide) ?_
              refine lv_icmp_ne (tgt := 41) hx hb dX12_test_35 (by decide) (fun c7 => ?_) (fun c7 => ?_)
              · have fc7 := z_ne (rfl : ((iv 12 13)).toInt = _) (by decide : (30 : Int32).toInt = 30) c7
                refine lv_aload_n hx hb dX12_test_41 rfl (lv_at hl 0 rfl) ?_
                refine gM_12_14 hx hb ht hown hK hP m_1153 dX12_test_42 ?_
                refine lv_aload_n hx hb dX12_test_45 rfl (lv_at hl 0 rfl) ?_
                refine gM_12_13 hx hb ht hown hK hP m_1152 (v := (iv 12 13)) rfl dX12_test_46 ?_
                refine lv_iload_n hx hb dX12_test_49 rfl (lv_at hl 1 rfl) ?_
                refine tM_12_14 hx hb hK hP hD hS (f0 := (fa 12 14)) rfl (i := (iv 12 13)) (x := a) (vp_in_iff.mpr ⟨by omega, by omega⟩) dX12_test_50 (fun f8 ef8 H locs hP hD hS => ?_)
                have hf8 : ∀ j, inb (bA 12 14 j) (f8 j) := fun j => full_i _
                refine lv_aload_n hx hb dX12_test_51 rfl (lv_at hl 0 rfl) ?_
                refine gM_12_15 hx hb ht hown hK hP m_1154 dX12_test_52 ?_
                refine lv_aload_n hx hb dX12_test_55 rfl (lv_at hl 0 rfl) ?_
                refine gM_12_13 hx hb ht hown hK hP m_1152 (v := (iv 12 13)) rfl dX12_test_56 ?_
                refine lv_iload_n hx hb dX12_test_59 rfl (lv_at hl 2 rfl) ?_
                refine lv_iload_n hx hb dX12_test_60 rfl (lv_at hl 3 rfl) ?_
                refine lv_isub hx hb dX12_test_61 ?_
                refine lv_topi (fun v9 ev9 => ?_)
                have tv9 := z_sub ev9 (rfl : (b).toInt = _) (rfl : (d).toInt = _) (by omega) (by omega)
                refine tM_12_15 hx hb hK hP hD hS (f0 := (fa 12 15)) rfl (i := (iv 12 13)) (x := v9) (vp_in_iff.mpr ⟨by omega, by omega⟩) dX12_test_62 (fun f10 ef10 H locs hP hD hS => ?_)
                have hf10 : ∀ j, inb (bA 12 15 j) (f10 j) := fun j => full_i _
                refine lv_aload_n hx hb dX12_test_63 rfl (lv_at hl 0 rfl) ?_
                refine gM_12_16 hx hb ht hown hK hP m_1155 dX12_test_64 ?_
                refine lv_aload_n hx hb dX12_test_67 rfl (lv_at hl 0 rfl) ?_
                refine gM_12_13 hx hb ht hown hK hP m_1152 (v := (iv 12 13)) rfl dX12_test_68 ?_
                refine lv_aload_n hx hb dX12_test_71 rfl (lv_at hl 0 rfl) ?_
                have i_12_0 : 0 ≤ (iv 12 0).toInt ∧ (iv 12 0).toInt ≤ 3000 := hI.1 12 0
                refine gM_12_0 hx hb ht hown hK hP m_1139 (v := (iv 12 0)) rfl dX12_test_72 ?_
                refine tM_12_16 hx hb hK hP hD hS (f0 := (fa 12 16)) rfl (i := (iv 12 13)) (x := (iv 12 0)) (vp_in_iff.mpr ⟨by omega, by omega⟩) dX12_test_75 (fun f11 ef11 H locs hP hD hS => ?_)
                have hf11 : ∀ j, inb (bA 12 16 j) (f11 j) := fun j => full_i _
                refine lv_aload_n hx hb dX12_test_76 rfl (lv_at hl 0 rfl) ?_
                refine lv_dup hx hb dX12_test_77 rfl ?_
                refine gM_12_13 hx hb ht hown hK hP m_1152 (v := (iv 12 13)) rfl dX12_test_78 ?_
                refine lv_iconst (v := 1) hx hb dX12_test_81 (by decide) ?_
                refine lv_iadd hx hb dX12_test_82 ?_
                refine lv_topi (fun v12 ev12 => ?_)
                have tv12 := z_add ev12 (rfl : ((iv 12 13)).toInt = _) (by decide : (1 : Int32).toInt = 1) (by omega) (by omega)
                refine pM_12_13 (v := v12) hx hb ht hown hK hP hD hS m_1152 dX12_test_83 (fun H locs hP hD hS => ?_)
                refine lv_aload_n hx hb dX12_test_86 rfl (lv_at hl 0 rfl) ?_
                refine gM_12_13 hx hb ht hown hK hP m_1152 (v := v12) rfl dX12_test_87 ?_
                have hP9 : va_P (dC, dI) classes (WM h g ca (u2 iv 12 13 v12) lv (u2 (u2 (u2 fa 12 14 f8) 12 15 f10) 12 16 f11) la) H := hP
                have hD9 : va_D A (WM h g ca (u2 iv 12 13 v12) lv (u2 (u2 (u2 fa 12 14 f8) 12 15 f10) 12 16 f11) la) := hD
                exact W.iret (v := v12) hx hb hr (fun t ht9 hW => ⟨⟨v12, ((u2 iv 12 13 v12), lv, (u2 (u2 (u2 fa 12 14 f8) 12 15 f10) 12 16 f11), la), rfl, ⟨f8, f10, f11, v12, (show inb (0, 30) v12 from ⟨by omega, by omega⟩), ⟨by omega, by omega⟩, rfl⟩, by rw [ht9]; exact hP9, hD9⟩, hS.F ht9⟩) hS.2.2 dX12_test_90
              · have fc7 := z_eq (rfl : ((iv 12 13)).toInt = _) (by decide : (30 : Int32).toInt = 30) c7
                refine lv_ldc hx hb hown (ht _ m_1380) dX12_test_38 ?_
                have hP9 : va_P (dC, dI) classes (WM h g ca (u2 iv 12 13 (iv 12 13)) lv (u2 (u2 (u2 fa 12 14 (fa 12 14)) 12 15 (fa 12 15)) 12 16 (fa 12 16)) la) s.heap := hP
                have hD9 : va_D A (WM h g ca (u2 iv 12 13 (iv 12 13)) lv (u2 (u2 (u2 fa 12 14 (fa 12 14)) 12 15 (fa 12 15)) 12 16 (fa 12 16)) la) := hD
                exact W.iret (v := (-100004)) hx hb hr (fun t ht9 hW => ⟨⟨(-100004), ((u2 iv 12 13 (iv 12 13)), lv, (u2 (u2 (u2 fa 12 14 (fa 12 14)) 12 15 (fa 12 15)) 12 16 (fa 12 16)), la), rfl, ⟨(fa 12 14), (fa 12 15), (fa 12 16), (iv 12 13), (hI.1 12 13), ⟨by decide, by decide⟩, rfl⟩, by rw [ht9]; exact hP9, hD9⟩, hS.F ht9⟩) hS.2.2 dX12_test_40
            · exact absurd c6 (by decide)
          · skip
            refine lv_if_ne (tgt := 29) hx hb dX12_test_23 (by decide) (fun c13 => ?_) (fun c13 => ?_)
            · exact absurd rfl c13
            · skip
              refine lv_ldc hx hb hown (ht _ m_1373) dX12_test_26 ?_
              have hP9 : va_P (dC, dI) classes (WM h g ca (u2 iv 12 13 (iv 12 13)) lv (u2 (u2 (u2 fa 12 14 (fa 12 14)) 12 15 (fa 12 15)) 12 16 (fa 12 16)) la) s.heap := hP
              have hD9 : va_D A (WM h g ca (u2 iv 12 13 (iv 12 13)) lv (u2 (u2 (u2 fa 12 14 (fa 12 14)) 12 15 (fa 12 15)) 12 16 (fa 12 16)) la) := hD
              exact W.iret (v := (-100002)) hx hb hr (fun t ht9 hW => ⟨⟨(-100002), ((u2 iv 12 13 (iv 12 13)), lv, (u2 (u2 (u2 fa 12 14 (fa 12 14)) 12 15 (fa 12 15)) 12 16 (fa 12 16)), la), rfl, ⟨(fa 12 14), (fa 12 15), (fa 12 16), (iv 12 13), (hI.1 12 13), ⟨by decide, by decide⟩, rfl⟩, by rw [ht9]; exact hP9, hD9⟩, hS.F ht9⟩) hS.2.2 dX12_test_28
      · skip
        refine lv_if_eq (tgt := 26) hx hb dX12_test_16 (by decide) (fun c14 => ?_) (fun c14 => ?_)
        · skip
          refine lv_ldc hx hb hown (ht _ m_1373) dX12_test_26 ?_
          have hP9 : va_P (dC, dI) classes (WM h g ca (u2 iv 12 13 (iv 12 13)) lv (u2 (u2 (u2 fa 12 14 (fa 12 14)) 12 15 (fa 12 15)) 12 16 (fa 12 16)) la) s.heap := hP
          have hD9 : va_D A (WM h g ca (u2 iv 12 13 (iv 12 13)) lv (u2 (u2 (u2 fa 12 14 (fa 12 14)) 12 15 (fa 12 15)) 12 16 (fa 12 16)) la) := hD
          exact W.iret (v := (-100002)) hx hb hr (fun t ht9 hW => ⟨⟨(-100002), ((u2 iv 12 13 (iv 12 13)), lv, (u2 (u2 (u2 fa 12 14 (fa 12 14)) 12 15 (fa 12 15)) 12 16 (fa 12 16)), la), rfl, ⟨(fa 12 14), (fa 12 15), (fa 12 16), (iv 12 13), (hI.1 12 13), ⟨by decide, by decide⟩, rfl⟩, by rw [ht9]; exact hP9, hD9⟩, hS.F ht9⟩) hS.2.2 dX12_test_28
        · exact absurd rfl c14
  · skip
    refine lv_if_eq (tgt := 26) hx hb dX12_test_9 (by decide) (fun c15 => ?_) (fun c15 => ?_)
    · skip
      refine lv_ldc hx hb hown (ht _ m_1373) dX12_test_26 ?_
      have hP9 : va_P (dC, dI) classes (WM h g ca (u2 iv 12 13 (iv 12 13)) lv (u2 (u2 (u2 fa 12 14 (fa 12 14)) 12 15 (fa 12 15)) 12 16 (fa 12 16)) la) s.heap := hP
      have hD9 : va_D A (WM h g ca (u2 iv 12 13 (iv 12 13)) lv (u2 (u2 (u2 fa 12 14 (fa 12 14)) 12 15 (fa 12 15)) 12 16 (fa 12 16)) la) := hD
      exact W.iret (v := (-100002)) hx hb hr (fun t ht9 hW => ⟨⟨(-100002), ((u2 iv 12 13 (iv 12 13)), lv, (u2 (u2 (u2 fa 12 14 (fa 12 14)) 12 15 (fa 12 15)) 12 16 (fa 12 16)), la), rfl, ⟨(fa 12 14), (fa 12 15), (fa 12 16), (iv 12 13), (hI.1 12 13), ⟨by decide, by decide⟩, rfl⟩, by rw [ht9]; exact hP9, hD9⟩, hS.F ht9⟩) hS.2.2 dX12_test_28
    · exact absurd rfl c15
/-! ===== m2 ===== -/
set_option maxRecDepth 100000 in
theorem m_44 : Cond.selects RX12 yX12_errorOf yX12_errorOf ∈ tb := tb_in 44 (by decide +kernel) rfl
set_option maxRecDepth 100000 in
theorem m_46 : Cond.selects RX12 yX12_isThere yX12_isThere ∈ tb := tb_in 46 (by decide +kernel) rfl
theorem m_1156 : Cond.fieldLink RX12 223 "SilkHouseModel" "sumDry" "J" ∈ tb := mb_5_4 _ (List.mem_of_getElem? (i := 21) rfl)
theorem m_1157 : Cond.fieldLink RX12 227 "SilkHouseModel" "sumRaw" "J" ∈ tb := mb_5_4 _ (List.mem_of_getElem? (i := 22) rfl)
theorem m_1158 : Cond.fieldLink RX12 230 "SilkHouseModel" "counted" "I" ∈ tb := mb_5_4 _ (List.mem_of_getElem? (i := 23) rfl)
theorem m_1159 : Cond.fieldLink RX12 49 "SilkHouseModel" "outOven" "I" ∈ tb := mb_5_5 _ (List.mem_of_getElem? (i := 0) rfl)
theorem m_1160 : Cond.fieldLink RX12 53 "SilkHouseModel" "outHand" "I" ∈ tb := mb_5_5 _ (List.mem_of_getElem? (i := 1) rfl)
theorem m_1161 : Cond.fieldLink RX12 56 "SilkHouseModel" "outSkein" "I" ∈ tb := mb_5_5 _ (List.mem_of_getElem? (i := 2) rfl)
theorem m_1422 : Cond.methodLink RX12 216 yX12_isDay ∈ tb := mb_6_2 _ (List.mem_of_getElem? (i := 7) rfl)
theorem m_1423 : Cond.static yX12_isDay ∈ tb := mb_6_2 _ (List.mem_of_getElem? (i := 8) rfl)
theorem m_1424 : Cond.code yX12_isDay cX12_isDay 1 (some .boolean) ∈ tb := mb_6_2 _ (List.mem_of_getElem? (i := 9) rfl)
theorem m_1426 : Cond.methodLink RX12 219 yX12_errorOf ∈ tb := mb_6_2 _ (List.mem_of_getElem? (i := 11) rfl)
theorem m_1428 : Cond.instanceMethod yX12_errorOf ∈ tb := mb_6_2 _ (List.mem_of_getElem? (i := 12) rfl)
theorem m_1429 : Cond.code yX12_errorOf cX12_errorOf 8 (some .int) ∈ tb := mb_6_2 _ (List.mem_of_getElem? (i := 13) rfl)
theorem m_1438 : Cond.methodLink RX12 233 yX12_isThere ∈ tb := mb_6_2 _ (List.mem_of_getElem? (i := 21) rfl)
theorem m_1440 : Cond.instanceMethod yX12_isThere ∈ tb := mb_6_2 _ (List.mem_of_getElem? (i := 22) rfl)
theorem m_1441 : Cond.code yX12_isThere cX12_isThere 3 (some .boolean) ∈ tb := mb_6_2 _ (List.mem_of_getElem? (i := 23) rfl)
theorem m_1445 : Cond.methodLink RX12 160 yX12_plain ∈ tb := mb_6_3 _ (List.mem_of_getElem? (i := 3) rfl)
theorem m_1446 : Cond.static yX12_plain ∈ tb := mb_6_3 _ (List.mem_of_getElem? (i := 4) rfl)
theorem m_1447 : Cond.code yX12_plain cX12_plain 2 (some .long) ∈ tb := mb_6_3 _ (List.mem_of_getElem? (i := 5) rfl)
theorem m_1543 : Cond.constantLong RX12 245 (1000) ∈ tb := mb_7_1 _ (List.mem_of_getElem? (i := 0) rfl)
theorem hd_X12_errorOf_v : yX12_errorOf.cls = RX12 ∧ yX12_errorOf.cls ≠ "java/lang/invoke/MethodHandle" ∧ yX12_errorOf.cls ≠ "java/lang/invoke/VarHandle" ∧ (parseMethodDescriptor yX12_errorOf.desc).map (fun d => d.parameters.length) = some 3 := by decide +kernel
theorem hd_X12_isDay_v : yX12_isDay.cls = RX12 ∧ yX12_isDay.cls ≠ "java/lang/invoke/MethodHandle" ∧ yX12_isDay.cls ≠ "java/lang/invoke/VarHandle" ∧ (parseMethodDescriptor yX12_isDay.desc).map (fun d => d.parameters.length) = some 1 := by decide +kernel
theorem hd_X12_isThere_v : yX12_isThere.cls = RX12 ∧ yX12_isThere.cls ≠ "java/lang/invoke/MethodHandle" ∧ yX12_isThere.cls ≠ "java/lang/invoke/VarHandle" ∧ (parseMethodDescriptor yX12_isThere.desc).map (fun d => d.parameters.length) = some 2 := by decide +kernel
theorem hd_X12_plain_v : yX12_plain.cls = RX12 ∧ yX12_plain.cls ≠ "java/lang/invoke/MethodHandle" ∧ yX12_plain.cls ≠ "java/lang/invoke/VarHandle" ∧ (parseMethodDescriptor yX12_plain.desc).map (fun d => d.parameters.length) = some 1 := by decide +kernel
set_option maxRecDepth 100000 in
theorem dvX12_doPart_0 : ([(0, .ldc2_w 245, 3), (3, .lload_n 0, 1), (4, .lload 6, 2), (6, .lmul, 1), (7, .lload 4, 2), (9, .lload_n 2, 1), (10, .lmul, 1), (11, .lsub, 1), (12, .invokestatic 160, 3), (15, .lmul, 1), (16, .iload 8, 2), (18, .i2l, 1), (19, .lload_n 2, 1), (20, .lmul, 1), (21, .lload 6, 2), (23, .lmul, 1), (24, .lcmp, 1), (25, .ifCond .le 7, 3), (28, .iconst 1, 1), (29, .goto 4, 3), (32, .iconst 0, 1), (33, .ireturn, 1)] : List (Nat × Instr × Nat)).all (fun q => decide (decode cX12_doPart q.1 = .ok (q.2.1, q.2.2))) = true := by decide +kernel
theorem dX12_doPart_0 : decode cX12_doPart 0 = .ok (.ldc2_w 245, 3) := all_at dvX12_doPart_0 0 rfl
theorem dX12_doPart_3 : decode cX12_doPart 3 = .ok (.lload_n 0, 1) := all_at dvX12_doPart_0 1 rfl
theorem dX12_doPart_4 : decode cX12_doPart 4 = .ok (.lload 6, 2) := all_at dvX12_doPart_0 2 rfl
theorem dX12_doPart_6 : decode cX12_doPart 6 = .ok (.lmul, 1) := all_at dvX12_doPart_0 3 rfl
theorem dX12_doPart_7 : decode cX12_doPart 7 = .ok (.lload 4, 2) := all_at dvX12_doPart_0 4 rfl
theorem dX12_doPart_9 : decode cX12_doPart 9 = .ok (.lload_n 2, 1) := all_at dvX12_doPart_0 5 rfl
theorem dX12_doPart_10 : decode cX12_doPart 10 = .ok (.lmul, 1) := all_at dvX12_doPart_0 6 rfl
theorem dX12_doPart_11 : decode cX12_doPart 11 = .ok (.lsub, 1) := all_at dvX12_doPart_0 7 rfl
theorem dX12_doPart_12 : decode cX12_doPart 12 = .ok (.invokestatic 160, 3) := all_at dvX12_doPart_0 8 rfl
theorem dX12_doPart_15 : decode cX12_doPart 15 = .ok (.lmul, 1) := all_at dvX12_doPart_0 9 rfl
theorem dX12_doPart_16 : decode cX12_doPart 16 = .ok (.iload 8, 2) := all_at dvX12_doPart_0 10 rfl
theorem dX12_doPart_18 : decode cX12_doPart 18 = .ok (.i2l, 1) := all_at dvX12_doPart_0 11 rfl
theorem dX12_doPart_19 : decode cX12_doPart 19 = .ok (.lload_n 2, 1) := all_at dvX12_doPart_0 12 rfl
theorem dX12_doPart_20 : decode cX12_doPart 20 = .ok (.lmul, 1) := all_at dvX12_doPart_0 13 rfl
theorem dX12_doPart_21 : decode cX12_doPart 21 = .ok (.lload 6, 2) := all_at dvX12_doPart_0 14 rfl
theorem dX12_doPart_23 : decode cX12_doPart 23 = .ok (.lmul, 1) := all_at dvX12_doPart_0 15 rfl
theorem dX12_doPart_24 : decode cX12_doPart 24 = .ok (.lcmp, 1) := all_at dvX12_doPart_0 16 rfl
theorem dX12_doPart_25 : decode cX12_doPart 25 = .ok (.ifCond .le 7, 3) := all_at dvX12_doPart_0 17 rfl
theorem dX12_doPart_28 : decode cX12_doPart 28 = .ok (.iconst 1, 1) := all_at dvX12_doPart_0 18 rfl
theorem dX12_doPart_29 : decode cX12_doPart 29 = .ok (.goto 4, 3) := all_at dvX12_doPart_0 19 rfl
theorem dX12_doPart_32 : decode cX12_doPart 32 = .ok (.iconst 0, 1) := all_at dvX12_doPart_0 20 rfl
theorem dX12_doPart_33 : decode cX12_doPart 33 = .ok (.ireturn, 1) := all_at dvX12_doPart_0 21 rfl
set_option maxRecDepth 100000 in
theorem dvX12_error_0 : ([(0, .iload_n 1, 1), (1, .i2l, 1), (2, .lconst 0, 1), (3, .ldc2_w 190, 3), (6, .invokestatic 167, 3), (9, .ifCond .eq 20, 3), (12, .iload_n 2, 1), (13, .invokestatic 216, 3), (16, .ifCond .eq 13, 3), (19, .iload_n 3, 1), (20, .i2l, 1), (21, .lconst 0, 1), (22, .lconst 1, 1), (23, .invokestatic 167, 3), (26, .ifCond .ne 6, 3), (29, .ldc 178, 2), (31, .ireturn, 1), (32, .aload_n 0, 1), (33, .iload_n 1, 1), (34, .iload_n 2, 1), (35, .iload_n 3, 1), (36, .iconst 1, 1), (37, .if_icmp .ne 7, 3), (40, .iconst 1, 1)] : List (Nat × Instr × Nat)).all (fun q => decide (decode cX12_error q.1 = .ok (q.2.1, q.2.2))) = true := by decide +kernel
theorem dX12_error_0 : decode cX12_error 0 = .ok (.iload_n 1, 1) := all_at dvX12_error_0 0 rfl
theorem dX12_error_1 : decode cX12_error 1 = .ok (.i2l, 1) := all_at dvX12_error_0 1 rfl
theorem dX12_error_2 : decode cX12_error 2 = .ok (.lconst 0, 1) := all_at dvX12_error_0 2 rfl
theorem dX12_error_3 : decode cX12_error 3 = .ok (.ldc2_w 190, 3) := all_at dvX12_error_0 3 rfl
theorem dX12_error_6 : decode cX12_error 6 = .ok (.invokestatic 167, 3) := all_at dvX12_error_0 4 rfl
theorem dX12_error_9 : decode cX12_error 9 = .ok (.ifCond .eq 20, 3) := all_at dvX12_error_0 5 rfl
theorem dX12_error_12 : decode cX12_error 12 = .ok (.iload_n 2, 1) := all_at dvX12_error_0 6 rfl
theorem dX12_error_13 : decode cX12_error 13 = .ok (.invokestatic 216, 3) := all_at dvX12_error_0 7 rfl
theorem dX12_error_16 : decode cX12_error 16 = .ok (.ifCond .eq 13, 3) := all_at dvX12_error_0 8 rfl
theorem dX12_error_19 : decode cX12_error 19 = .ok (.iload_n 3, 1) := all_at dvX12_error_0 9 rfl
theorem dX12_error_20 : decode cX12_error 20 = .ok (.i2l, 1) := all_at dvX12_error_0 10 rfl
theorem dX12_error_21 : decode cX12_error 21 = .ok (.lconst 0, 1) := all_at dvX12_error_0 11 rfl
theorem dX12_error_22 : decode cX12_error 22 = .ok (.lconst 1, 1) := all_at dvX12_error_0 12 rfl
theorem dX12_error_23 : decode cX12_error 23 = .ok (.invokestatic 167, 3) := all_at dvX12_error_0 13 rfl
theorem dX12_error_26 : decode cX12_error 26 = .ok (.ifCond .ne 6, 3) := all_at dvX12_error_0 14 rfl
theorem dX12_error_29 : decode cX12_error 29 = .ok (.ldc 178, 2) := all_at dvX12_error_0 15 rfl
theorem dX12_error_31 : decode cX12_error 31 = .ok (.ireturn, 1) := all_at dvX12_error_0 16 rfl
theorem dX12_error_32 : decode cX12_error 32 = .ok (.aload_n 0, 1) := all_at dvX12_error_0 17 rfl
theorem dX12_error_33 : decode cX12_error 33 = .ok (.iload_n 1, 1) := all_at dvX12_error_0 18 rfl
theorem dX12_error_34 : decode cX12_error 34 = .ok (.iload_n 2, 1) := all_at dvX12_error_0 19 rfl
theorem dX12_error_35 : decode cX12_error 35 = .ok (.iload_n 3, 1) := all_at dvX12_error_0 20 rfl
theorem dX12_error_36 : decode cX12_error 36 = .ok (.iconst 1, 1) := all_at dvX12_error_0 21 rfl
theorem dX12_error_37 : decode cX12_error 37 = .ok (.if_icmp .ne 7, 3) := all_at dvX12_error_0 22 rfl
theorem dX12_error_40 : decode cX12_error 40 = .ok (.iconst 1, 1) := all_at dvX12_error_0 23 rfl
set_option maxRecDepth 100000 in
theorem dvX12_error_41 : ([(41, .goto 4, 3), (44, .iconst 0, 1), (45, .invokevirtual 219, 3), (48, .ireturn, 1)] : List (Nat × Instr × Nat)).all (fun q => decide (decode cX12_error q.1 = .ok (q.2.1, q.2.2))) = true := by decide +kernel
theorem dX12_error_41 : decode cX12_error 41 = .ok (.goto 4, 3) := all_at dvX12_error_41 0 rfl
theorem dX12_error_44 : decode cX12_error 44 = .ok (.iconst 0, 1) := all_at dvX12_error_41 1 rfl
theorem dX12_error_45 : decode cX12_error 45 = .ok (.invokevirtual 219, 3) := all_at dvX12_error_41 2 rfl
theorem dX12_error_48 : decode cX12_error 48 = .ok (.ireturn, 1) := all_at dvX12_error_41 3 rfl
set_option maxRecDepth 100000 in
theorem dvX12_errorOf_0 : ([(0, .iconst (-1), 1), (1, .istore 4, 2), (3, .iconst (-1), 1), (4, .istore 5, 2), (6, .iconst 0, 1), (7, .istore 6, 2), (9, .iload 6, 2), (11, .aload_n 0, 1), (12, .getfield 213, 3), (15, .if_icmp .ge 65, 3), (18, .aload_n 0, 1), (19, .getfield 40, 3), (22, .iload 6, 2), (24, .iaload, 1), (25, .iload_n 1, 1), (26, .if_icmp .ne 48, 3), (29, .aload_n 0, 1), (30, .getfield 46, 3), (33, .iload 6, 2), (35, .iaload, 1), (36, .iload_n 2, 1), (37, .if_icmp .gt 8, 3), (40, .iload 6, 2), (42, .goto 5, 3)] : List (Nat × Instr × Nat)).all (fun q => decide (decode cX12_errorOf q.1 = .ok (q.2.1, q.2.2))) = true := by decide +kernel
theorem dX12_errorOf_0 : decode cX12_errorOf 0 = .ok (.iconst (-1), 1) := all_at dvX12_errorOf_0 0 rfl
theorem dX12_errorOf_1 : decode cX12_errorOf 1 = .ok (.istore 4, 2) := all_at dvX12_errorOf_0 1 rfl
theorem dX12_errorOf_3 : decode cX12_errorOf 3 = .ok (.iconst (-1), 1) := all_at dvX12_errorOf_0 2 rfl
theorem dX12_errorOf_4 : decode cX12_errorOf 4 = .ok (.istore 5, 2) := all_at dvX12_errorOf_0 3 rfl
theorem dX12_errorOf_6 : decode cX12_errorOf 6 = .ok (.iconst 0, 1) := all_at dvX12_errorOf_0 4 rfl
theorem dX12_errorOf_7 : decode cX12_errorOf 7 = .ok (.istore 6, 2) := all_at dvX12_errorOf_0 5 rfl
theorem dX12_errorOf_9 : decode cX12_errorOf 9 = .ok (.iload 6, 2) := all_at dvX12_errorOf_0 6 rfl
theorem dX12_errorOf_11 : decode cX12_errorOf 11 = .ok (.aload_n 0, 1) := all_at dvX12_errorOf_0 7 rfl
theorem dX12_errorOf_12 : decode cX12_errorOf 12 = .ok (.getfield 213, 3) := all_at dvX12_errorOf_0 8 rfl
theorem dX12_errorOf_15 : decode cX12_errorOf 15 = .ok (.if_icmp .ge 65, 3) := all_at dvX12_errorOf_0 9 rfl
theorem dX12_errorOf_18 : decode cX12_errorOf 18 = .ok (.aload_n 0, 1) := all_at dvX12_errorOf_0 10 rfl
theorem dX12_errorOf_19 : decode cX12_errorOf 19 = .ok (.getfield 40, 3) := all_at dvX12_errorOf_0 11 rfl
theorem dX12_errorOf_22 : decode cX12_errorOf 22 = .ok (.iload 6, 2) := all_at dvX12_errorOf_0 12 rfl
theorem dX12_errorOf_24 : decode cX12_errorOf 24 = .ok (.iaload, 1) := all_at dvX12_errorOf_0 13 rfl
theorem dX12_errorOf_25 : decode cX12_errorOf 25 = .ok (.iload_n 1, 1) := all_at dvX12_errorOf_0 14 rfl
theorem dX12_errorOf_26 : decode cX12_errorOf 26 = .ok (.if_icmp .ne 48, 3) := all_at dvX12_errorOf_0 15 rfl
theorem dX12_errorOf_29 : decode cX12_errorOf 29 = .ok (.aload_n 0, 1) := all_at dvX12_errorOf_0 16 rfl
theorem dX12_errorOf_30 : decode cX12_errorOf 30 = .ok (.getfield 46, 3) := all_at dvX12_errorOf_0 17 rfl
theorem dX12_errorOf_33 : decode cX12_errorOf 33 = .ok (.iload 6, 2) := all_at dvX12_errorOf_0 18 rfl
theorem dX12_errorOf_35 : decode cX12_errorOf 35 = .ok (.iaload, 1) := all_at dvX12_errorOf_0 19 rfl
theorem dX12_errorOf_36 : decode cX12_errorOf 36 = .ok (.iload_n 2, 1) := all_at dvX12_errorOf_0 20 rfl
theorem dX12_errorOf_37 : decode cX12_errorOf 37 = .ok (.if_icmp .gt 8, 3) := all_at dvX12_errorOf_0 21 rfl
theorem dX12_errorOf_40 : decode cX12_errorOf 40 = .ok (.iload 6, 2) := all_at dvX12_errorOf_0 22 rfl
theorem dX12_errorOf_42 : decode cX12_errorOf 42 = .ok (.goto 5, 3) := all_at dvX12_errorOf_0 23 rfl
set_option maxRecDepth 100000 in
theorem dvX12_errorOf_45 : ([(45, .iload 4, 2), (47, .istore 4, 2), (49, .aload_n 0, 1), (50, .getfield 46, 3), (53, .iload 6, 2), (55, .iaload, 1), (56, .iload_n 2, 1), (57, .if_icmp .le 13, 3), (60, .iload 5, 2), (62, .ifCond .ge 8, 3), (65, .iload 6, 2), (67, .goto 5, 3), (70, .iload 5, 2), (72, .istore 5, 2), (74, .iinc 6 1, 3), (77, .goto (-68), 3), (80, .iload 4, 2), (82, .ifCond .ge 10, 3), (85, .iload 5, 2), (87, .ifCond .ge 5, 3), (90, .iconst 0, 1), (91, .ireturn, 1), (92, .aload_n 0, 1), (93, .getfield 43, 3)] : List (Nat × Instr × Nat)).all (fun q => decide (decode cX12_errorOf q.1 = .ok (q.2.1, q.2.2))) = true := by decide +kernel
theorem dX12_errorOf_45 : decode cX12_errorOf 45 = .ok (.iload 4, 2) := all_at dvX12_errorOf_45 0 rfl
theorem dX12_errorOf_47 : decode cX12_errorOf 47 = .ok (.istore 4, 2) := all_at dvX12_errorOf_45 1 rfl
theorem dX12_errorOf_49 : decode cX12_errorOf 49 = .ok (.aload_n 0, 1) := all_at dvX12_errorOf_45 2 rfl
theorem dX12_errorOf_50 : decode cX12_errorOf 50 = .ok (.getfield 46, 3) := all_at dvX12_errorOf_45 3 rfl
theorem dX12_errorOf_53 : decode cX12_errorOf 53 = .ok (.iload 6, 2) := all_at dvX12_errorOf_45 4 rfl
theorem dX12_errorOf_55 : decode cX12_errorOf 55 = .ok (.iaload, 1) := all_at dvX12_errorOf_45 5 rfl
theorem dX12_errorOf_56 : decode cX12_errorOf 56 = .ok (.iload_n 2, 1) := all_at dvX12_errorOf_45 6 rfl
theorem dX12_errorOf_57 : decode cX12_errorOf 57 = .ok (.if_icmp .le 13, 3) := all_at dvX12_errorOf_45 7 rfl
theorem dX12_errorOf_60 : decode cX12_errorOf 60 = .ok (.iload 5, 2) := all_at dvX12_errorOf_45 8 rfl
theorem dX12_errorOf_62 : decode cX12_errorOf 62 = .ok (.ifCond .ge 8, 3) := all_at dvX12_errorOf_45 9 rfl
theorem dX12_errorOf_65 : decode cX12_errorOf 65 = .ok (.iload 6, 2) := all_at dvX12_errorOf_45 10 rfl
theorem dX12_errorOf_67 : decode cX12_errorOf 67 = .ok (.goto 5, 3) := all_at dvX12_errorOf_45 11 rfl
theorem dX12_errorOf_70 : decode cX12_errorOf 70 = .ok (.iload 5, 2) := all_at dvX12_errorOf_45 12 rfl
theorem dX12_errorOf_72 : decode cX12_errorOf 72 = .ok (.istore 5, 2) := all_at dvX12_errorOf_45 13 rfl
theorem dX12_errorOf_74 : decode cX12_errorOf 74 = .ok (.iinc 6 1, 3) := all_at dvX12_errorOf_45 14 rfl
theorem dX12_errorOf_77 : decode cX12_errorOf 77 = .ok (.goto (-68), 3) := all_at dvX12_errorOf_45 15 rfl
theorem dX12_errorOf_80 : decode cX12_errorOf 80 = .ok (.iload 4, 2) := all_at dvX12_errorOf_45 16 rfl
theorem dX12_errorOf_82 : decode cX12_errorOf 82 = .ok (.ifCond .ge 10, 3) := all_at dvX12_errorOf_45 17 rfl
theorem dX12_errorOf_85 : decode cX12_errorOf 85 = .ok (.iload 5, 2) := all_at dvX12_errorOf_45 18 rfl
theorem dX12_errorOf_87 : decode cX12_errorOf 87 = .ok (.ifCond .ge 5, 3) := all_at dvX12_errorOf_45 19 rfl
theorem dX12_errorOf_90 : decode cX12_errorOf 90 = .ok (.iconst 0, 1) := all_at dvX12_errorOf_45 20 rfl
theorem dX12_errorOf_91 : decode cX12_errorOf 91 = .ok (.ireturn, 1) := all_at dvX12_errorOf_45 21 rfl
theorem dX12_errorOf_92 : decode cX12_errorOf 92 = .ok (.aload_n 0, 1) := all_at dvX12_errorOf_45 22 rfl
theorem dX12_errorOf_93 : decode cX12_errorOf 93 = .ok (.getfield 43, 3) := all_at dvX12_errorOf_45 23 rfl
set_option maxRecDepth 100000 in
theorem dvX12_errorOf_96 : ([(96, .iload 4, 2), (98, .ifCond .ge 8, 3), (101, .iload 5, 2), (103, .goto 5, 3), (106, .iload 4, 2), (108, .iaload, 1), (109, .istore 6, 2), (111, .aload_n 0, 1), (112, .getfield 43, 3), (115, .iload 5, 2), (117, .ifCond .ge 8, 3), (120, .iload 4, 2), (122, .goto 5, 3), (125, .iload 5, 2), (127, .iaload, 1), (128, .istore 7, 2), (130, .iload_n 3, 1), (131, .iload 6, 2), (133, .iload 7, 2), (135, .if_icmp .le 7, 3), (138, .iconst 1, 1), (139, .goto 4, 3), (142, .iconst 0, 1), (143, .if_icmp .ne 8, 3)] : List (Nat × Instr × Nat)).all (fun q => decide (decode cX12_errorOf q.1 = .ok (q.2.1, q.2.2))) = true := by decide +kernel
theorem dX12_errorOf_96 : decode cX12_errorOf 96 = .ok (.iload 4, 2) := all_at dvX12_errorOf_96 0 rfl
theorem dX12_errorOf_98 : decode cX12_errorOf 98 = .ok (.ifCond .ge 8, 3) := all_at dvX12_errorOf_96 1 rfl
theorem dX12_errorOf_101 : decode cX12_errorOf 101 = .ok (.iload 5, 2) := all_at dvX12_errorOf_96 2 rfl
theorem dX12_errorOf_103 : decode cX12_errorOf 103 = .ok (.goto 5, 3) := all_at dvX12_errorOf_96 3 rfl
theorem dX12_errorOf_106 : decode cX12_errorOf 106 = .ok (.iload 4, 2) := all_at dvX12_errorOf_96 4 rfl
theorem dX12_errorOf_108 : decode cX12_errorOf 108 = .ok (.iaload, 1) := all_at dvX12_errorOf_96 5 rfl
theorem dX12_errorOf_109 : decode cX12_errorOf 109 = .ok (.istore 6, 2) := all_at dvX12_errorOf_96 6 rfl
theorem dX12_errorOf_111 : decode cX12_errorOf 111 = .ok (.aload_n 0, 1) := all_at dvX12_errorOf_96 7 rfl
theorem dX12_errorOf_112 : decode cX12_errorOf 112 = .ok (.getfield 43, 3) := all_at dvX12_errorOf_96 8 rfl
theorem dX12_errorOf_115 : decode cX12_errorOf 115 = .ok (.iload 5, 2) := all_at dvX12_errorOf_96 9 rfl
theorem dX12_errorOf_117 : decode cX12_errorOf 117 = .ok (.ifCond .ge 8, 3) := all_at dvX12_errorOf_96 10 rfl
theorem dX12_errorOf_120 : decode cX12_errorOf 120 = .ok (.iload 4, 2) := all_at dvX12_errorOf_96 11 rfl
theorem dX12_errorOf_122 : decode cX12_errorOf 122 = .ok (.goto 5, 3) := all_at dvX12_errorOf_96 12 rfl
theorem dX12_errorOf_125 : decode cX12_errorOf 125 = .ok (.iload 5, 2) := all_at dvX12_errorOf_96 13 rfl
theorem dX12_errorOf_127 : decode cX12_errorOf 127 = .ok (.iaload, 1) := all_at dvX12_errorOf_96 14 rfl
theorem dX12_errorOf_128 : decode cX12_errorOf 128 = .ok (.istore 7, 2) := all_at dvX12_errorOf_96 15 rfl
theorem dX12_errorOf_130 : decode cX12_errorOf 130 = .ok (.iload_n 3, 1) := all_at dvX12_errorOf_96 16 rfl
theorem dX12_errorOf_131 : decode cX12_errorOf 131 = .ok (.iload 6, 2) := all_at dvX12_errorOf_96 17 rfl
theorem dX12_errorOf_133 : decode cX12_errorOf 133 = .ok (.iload 7, 2) := all_at dvX12_errorOf_96 18 rfl
theorem dX12_errorOf_135 : decode cX12_errorOf 135 = .ok (.if_icmp .le 7, 3) := all_at dvX12_errorOf_96 19 rfl
theorem dX12_errorOf_138 : decode cX12_errorOf 138 = .ok (.iconst 1, 1) := all_at dvX12_errorOf_96 20 rfl
theorem dX12_errorOf_139 : decode cX12_errorOf 139 = .ok (.goto 4, 3) := all_at dvX12_errorOf_96 21 rfl
theorem dX12_errorOf_142 : decode cX12_errorOf 142 = .ok (.iconst 0, 1) := all_at dvX12_errorOf_96 22 rfl
theorem dX12_errorOf_143 : decode cX12_errorOf 143 = .ok (.if_icmp .ne 8, 3) := all_at dvX12_errorOf_96 23 rfl
set_option maxRecDepth 100000 in
theorem dvX12_errorOf_146 : ([(146, .iload 6, 2), (148, .goto 5, 3), (151, .iload 7, 2), (153, .ireturn, 1)] : List (Nat × Instr × Nat)).all (fun q => decide (decode cX12_errorOf q.1 = .ok (q.2.1, q.2.2))) = true := by decide +kernel
theorem dX12_errorOf_146 : decode cX12_errorOf 146 = .ok (.iload 6, 2) := all_at dvX12_errorOf_146 0 rfl
theorem dX12_errorOf_148 : decode cX12_errorOf 148 = .ok (.goto 5, 3) := all_at dvX12_errorOf_146 1 rfl
theorem dX12_errorOf_151 : decode cX12_errorOf 151 = .ok (.iload 7, 2) := all_at dvX12_errorOf_146 2 rfl
theorem dX12_errorOf_153 : decode cX12_errorOf 153 = .ok (.ireturn, 1) := all_at dvX12_errorOf_146 3 rfl
set_option maxRecDepth 100000 in
theorem dvX12_isThere_0 : ([(0, .aload_n 0, 1), (1, .getfield 34, 3), (4, .iload_n 1, 1), (5, .iaload, 1), (6, .iload_n 2, 1), (7, .if_icmp .gt 26, 3), (10, .aload_n 0, 1), (11, .getfield 37, 3), (14, .iload_n 1, 1), (15, .iaload, 1), (16, .ifCond .lt 13, 3), (19, .aload_n 0, 1), (20, .getfield 37, 3), (23, .iload_n 1, 1), (24, .iaload, 1), (25, .iload_n 2, 1), (26, .if_icmp .le 7, 3), (29, .iconst 1, 1), (30, .goto 4, 3), (33, .iconst 0, 1), (34, .ireturn, 1)] : List (Nat × Instr × Nat)).all (fun q => decide (decode cX12_isThere q.1 = .ok (q.2.1, q.2.2))) = true := by decide +kernel
theorem dX12_isThere_0 : decode cX12_isThere 0 = .ok (.aload_n 0, 1) := all_at dvX12_isThere_0 0 rfl
theorem dX12_isThere_1 : decode cX12_isThere 1 = .ok (.getfield 34, 3) := all_at dvX12_isThere_0 1 rfl
theorem dX12_isThere_4 : decode cX12_isThere 4 = .ok (.iload_n 1, 1) := all_at dvX12_isThere_0 2 rfl
theorem dX12_isThere_5 : decode cX12_isThere 5 = .ok (.iaload, 1) := all_at dvX12_isThere_0 3 rfl
theorem dX12_isThere_6 : decode cX12_isThere 6 = .ok (.iload_n 2, 1) := all_at dvX12_isThere_0 4 rfl
theorem dX12_isThere_7 : decode cX12_isThere 7 = .ok (.if_icmp .gt 26, 3) := all_at dvX12_isThere_0 5 rfl
theorem dX12_isThere_10 : decode cX12_isThere 10 = .ok (.aload_n 0, 1) := all_at dvX12_isThere_0 6 rfl
theorem dX12_isThere_11 : decode cX12_isThere 11 = .ok (.getfield 37, 3) := all_at dvX12_isThere_0 7 rfl
theorem dX12_isThere_14 : decode cX12_isThere 14 = .ok (.iload_n 1, 1) := all_at dvX12_isThere_0 8 rfl
theorem dX12_isThere_15 : decode cX12_isThere 15 = .ok (.iaload, 1) := all_at dvX12_isThere_0 9 rfl
theorem dX12_isThere_16 : decode cX12_isThere 16 = .ok (.ifCond .lt 13, 3) := all_at dvX12_isThere_0 10 rfl
theorem dX12_isThere_19 : decode cX12_isThere 19 = .ok (.aload_n 0, 1) := all_at dvX12_isThere_0 11 rfl
theorem dX12_isThere_20 : decode cX12_isThere 20 = .ok (.getfield 37, 3) := all_at dvX12_isThere_0 12 rfl
theorem dX12_isThere_23 : decode cX12_isThere 23 = .ok (.iload_n 1, 1) := all_at dvX12_isThere_0 13 rfl
theorem dX12_isThere_24 : decode cX12_isThere 24 = .ok (.iaload, 1) := all_at dvX12_isThere_0 14 rfl
theorem dX12_isThere_25 : decode cX12_isThere 25 = .ok (.iload_n 2, 1) := all_at dvX12_isThere_0 15 rfl
theorem dX12_isThere_26 : decode cX12_isThere 26 = .ok (.if_icmp .le 7, 3) := all_at dvX12_isThere_0 16 rfl
theorem dX12_isThere_29 : decode cX12_isThere 29 = .ok (.iconst 1, 1) := all_at dvX12_isThere_0 17 rfl
theorem dX12_isThere_30 : decode cX12_isThere 30 = .ok (.goto 4, 3) := all_at dvX12_isThere_0 18 rfl
theorem dX12_isThere_33 : decode cX12_isThere 33 = .ok (.iconst 0, 1) := all_at dvX12_isThere_0 19 rfl
theorem dX12_isThere_34 : decode cX12_isThere 34 = .ok (.ireturn, 1) := all_at dvX12_isThere_0 20 rfl
set_option maxRecDepth 100000 in
theorem dvX12_leaveOut_0 : ([(0, .aload_n 0, 1), (1, .iload_n 1, 1), (2, .putfield 49, 3), (5, .aload_n 0, 1), (6, .iload_n 2, 1), (7, .putfield 53, 3), (10, .aload_n 0, 1), (11, .iload_n 3, 1), (12, .putfield 56, 3), (15, .return_, 1)] : List (Nat × Instr × Nat)).all (fun q => decide (decode cX12_leaveOut q.1 = .ok (q.2.1, q.2.2))) = true := by decide +kernel
theorem dX12_leaveOut_0 : decode cX12_leaveOut 0 = .ok (.aload_n 0, 1) := all_at dvX12_leaveOut_0 0 rfl
theorem dX12_leaveOut_1 : decode cX12_leaveOut 1 = .ok (.iload_n 1, 1) := all_at dvX12_leaveOut_0 1 rfl
theorem dX12_leaveOut_2 : decode cX12_leaveOut 2 = .ok (.putfield 49, 3) := all_at dvX12_leaveOut_0 2 rfl
theorem dX12_leaveOut_5 : decode cX12_leaveOut 5 = .ok (.aload_n 0, 1) := all_at dvX12_leaveOut_0 3 rfl
theorem dX12_leaveOut_6 : decode cX12_leaveOut 6 = .ok (.iload_n 2, 1) := all_at dvX12_leaveOut_0 4 rfl
theorem dX12_leaveOut_7 : decode cX12_leaveOut 7 = .ok (.putfield 53, 3) := all_at dvX12_leaveOut_0 5 rfl
theorem dX12_leaveOut_10 : decode cX12_leaveOut 10 = .ok (.aload_n 0, 1) := all_at dvX12_leaveOut_0 6 rfl
theorem dX12_leaveOut_11 : decode cX12_leaveOut 11 = .ok (.iload_n 3, 1) := all_at dvX12_leaveOut_0 7 rfl
theorem dX12_leaveOut_12 : decode cX12_leaveOut 12 = .ok (.putfield 56, 3) := all_at dvX12_leaveOut_0 8 rfl
theorem dX12_leaveOut_15 : decode cX12_leaveOut 15 = .ok (.return_, 1) := all_at dvX12_leaveOut_0 9 rfl
set_option maxRecDepth 100000 in
theorem dvX12_sumUp_0 : ([(0, .aload_n 0, 1), (1, .lconst 0, 1), (2, .putfield 223, 3), (5, .aload_n 0, 1), (6, .lconst 0, 1), (7, .putfield 227, 3), (10, .aload_n 0, 1), (11, .iconst 0, 1), (12, .putfield 230, 3), (15, .iconst 0, 1), (16, .istore 4, 2), (18, .iload 4, 2), (20, .aload_n 0, 1), (21, .getfield 200, 3), (24, .if_icmp .ge 134, 3), (27, .aload_n 0, 1), (28, .getfield 28, 3), (31, .iload 4, 2), (33, .iaload, 1), (34, .aload_n 0, 1), (35, .getfield 49, 3), (38, .if_icmp .eq 26, 3), (41, .aload_n 0, 1), (42, .getfield 31, 3)] : List (Nat × Instr × Nat)).all (fun q => decide (decode cX12_sumUp q.1 = .ok (q.2.1, q.2.2))) = true := by decide +kernel
theorem dX12_sumUp_0 : decode cX12_sumUp 0 = .ok (.aload_n 0, 1) := all_at dvX12_sumUp_0 0 rfl
theorem dX12_sumUp_1 : decode cX12_sumUp 1 = .ok (.lconst 0, 1) := all_at dvX12_sumUp_0 1 rfl
theorem dX12_sumUp_2 : decode cX12_sumUp 2 = .ok (.putfield 223, 3) := all_at dvX12_sumUp_0 2 rfl
theorem dX12_sumUp_5 : decode cX12_sumUp 5 = .ok (.aload_n 0, 1) := all_at dvX12_sumUp_0 3 rfl
theorem dX12_sumUp_6 : decode cX12_sumUp 6 = .ok (.lconst 0, 1) := all_at dvX12_sumUp_0 4 rfl
theorem dX12_sumUp_7 : decode cX12_sumUp 7 = .ok (.putfield 227, 3) := all_at dvX12_sumUp_0 5 rfl
theorem dX12_sumUp_10 : decode cX12_sumUp 10 = .ok (.aload_n 0, 1) := all_at dvX12_sumUp_0 6 rfl
theorem dX12_sumUp_11 : decode cX12_sumUp 11 = .ok (.iconst 0, 1) := all_at dvX12_sumUp_0 7 rfl
theorem dX12_sumUp_12 : decode cX12_sumUp 12 = .ok (.putfield 230, 3) := all_at dvX12_sumUp_0 8 rfl
theorem dX12_sumUp_15 : decode cX12_sumUp 15 = .ok (.iconst 0, 1) := all_at dvX12_sumUp_0 9 rfl
theorem dX12_sumUp_16 : decode cX12_sumUp 16 = .ok (.istore 4, 2) := all_at dvX12_sumUp_0 10 rfl
theorem dX12_sumUp_18 : decode cX12_sumUp 18 = .ok (.iload 4, 2) := all_at dvX12_sumUp_0 11 rfl
theorem dX12_sumUp_20 : decode cX12_sumUp 20 = .ok (.aload_n 0, 1) := all_at dvX12_sumUp_0 12 rfl
theorem dX12_sumUp_21 : decode cX12_sumUp 21 = .ok (.getfield 200, 3) := all_at dvX12_sumUp_0 13 rfl
theorem dX12_sumUp_24 : decode cX12_sumUp 24 = .ok (.if_icmp .ge 134, 3) := all_at dvX12_sumUp_0 14 rfl
theorem dX12_sumUp_27 : decode cX12_sumUp 27 = .ok (.aload_n 0, 1) := all_at dvX12_sumUp_0 15 rfl
theorem dX12_sumUp_28 : decode cX12_sumUp 28 = .ok (.getfield 28, 3) := all_at dvX12_sumUp_0 16 rfl
theorem dX12_sumUp_31 : decode cX12_sumUp 31 = .ok (.iload 4, 2) := all_at dvX12_sumUp_0 17 rfl
theorem dX12_sumUp_33 : decode cX12_sumUp 33 = .ok (.iaload, 1) := all_at dvX12_sumUp_0 18 rfl
theorem dX12_sumUp_34 : decode cX12_sumUp 34 = .ok (.aload_n 0, 1) := all_at dvX12_sumUp_0 19 rfl
theorem dX12_sumUp_35 : decode cX12_sumUp 35 = .ok (.getfield 49, 3) := all_at dvX12_sumUp_0 20 rfl
theorem dX12_sumUp_38 : decode cX12_sumUp 38 = .ok (.if_icmp .eq 26, 3) := all_at dvX12_sumUp_0 21 rfl
theorem dX12_sumUp_41 : decode cX12_sumUp 41 = .ok (.aload_n 0, 1) := all_at dvX12_sumUp_0 22 rfl
theorem dX12_sumUp_42 : decode cX12_sumUp 42 = .ok (.getfield 31, 3) := all_at dvX12_sumUp_0 23 rfl
set_option maxRecDepth 100000 in
theorem dvX12_sumUp_45 : ([(45, .iload 4, 2), (47, .iaload, 1), (48, .aload_n 0, 1), (49, .getfield 53, 3), (52, .if_icmp .eq 12, 3), (55, .iload 4, 2), (57, .aload_n 0, 1), (58, .getfield 56, 3), (61, .if_icmp .ne 7, 3), (64, .iconst 1, 1), (65, .goto 4, 3), (68, .iconst 0, 1), (69, .istore 5, 2), (71, .aload_n 0, 1), (72, .getfield 13, 3), (75, .iload 4, 2), (77, .iaload, 1), (78, .iload_n 1, 1), (79, .if_icmp .ne 73, 3), (82, .aload_n 0, 1), (83, .getfield 16, 3), (86, .iload 4, 2), (88, .iaload, 1), (89, .iload_n 2, 1)] : List (Nat × Instr × Nat)).all (fun q => decide (decode cX12_sumUp q.1 = .ok (q.2.1, q.2.2))) = true := by decide +kernel
theorem dX12_sumUp_45 : decode cX12_sumUp 45 = .ok (.iload 4, 2) := all_at dvX12_sumUp_45 0 rfl
theorem dX12_sumUp_47 : decode cX12_sumUp 47 = .ok (.iaload, 1) := all_at dvX12_sumUp_45 1 rfl
theorem dX12_sumUp_48 : decode cX12_sumUp 48 = .ok (.aload_n 0, 1) := all_at dvX12_sumUp_45 2 rfl
theorem dX12_sumUp_49 : decode cX12_sumUp 49 = .ok (.getfield 53, 3) := all_at dvX12_sumUp_45 3 rfl
theorem dX12_sumUp_52 : decode cX12_sumUp 52 = .ok (.if_icmp .eq 12, 3) := all_at dvX12_sumUp_45 4 rfl
theorem dX12_sumUp_55 : decode cX12_sumUp 55 = .ok (.iload 4, 2) := all_at dvX12_sumUp_45 5 rfl
theorem dX12_sumUp_57 : decode cX12_sumUp 57 = .ok (.aload_n 0, 1) := all_at dvX12_sumUp_45 6 rfl
theorem dX12_sumUp_58 : decode cX12_sumUp 58 = .ok (.getfield 56, 3) := all_at dvX12_sumUp_45 7 rfl
theorem dX12_sumUp_61 : decode cX12_sumUp 61 = .ok (.if_icmp .ne 7, 3) := all_at dvX12_sumUp_45 8 rfl
theorem dX12_sumUp_64 : decode cX12_sumUp 64 = .ok (.iconst 1, 1) := all_at dvX12_sumUp_45 9 rfl
theorem dX12_sumUp_65 : decode cX12_sumUp 65 = .ok (.goto 4, 3) := all_at dvX12_sumUp_45 10 rfl
theorem dX12_sumUp_68 : decode cX12_sumUp 68 = .ok (.iconst 0, 1) := all_at dvX12_sumUp_45 11 rfl
theorem dX12_sumUp_69 : decode cX12_sumUp 69 = .ok (.istore 5, 2) := all_at dvX12_sumUp_45 12 rfl
theorem dX12_sumUp_71 : decode cX12_sumUp 71 = .ok (.aload_n 0, 1) := all_at dvX12_sumUp_45 13 rfl
theorem dX12_sumUp_72 : decode cX12_sumUp 72 = .ok (.getfield 13, 3) := all_at dvX12_sumUp_45 14 rfl
theorem dX12_sumUp_75 : decode cX12_sumUp 75 = .ok (.iload 4, 2) := all_at dvX12_sumUp_45 15 rfl
theorem dX12_sumUp_77 : decode cX12_sumUp 77 = .ok (.iaload, 1) := all_at dvX12_sumUp_45 16 rfl
theorem dX12_sumUp_78 : decode cX12_sumUp 78 = .ok (.iload_n 1, 1) := all_at dvX12_sumUp_45 17 rfl
theorem dX12_sumUp_79 : decode cX12_sumUp 79 = .ok (.if_icmp .ne 73, 3) := all_at dvX12_sumUp_45 18 rfl
theorem dX12_sumUp_82 : decode cX12_sumUp 82 = .ok (.aload_n 0, 1) := all_at dvX12_sumUp_45 19 rfl
theorem dX12_sumUp_83 : decode cX12_sumUp 83 = .ok (.getfield 16, 3) := all_at dvX12_sumUp_45 20 rfl
theorem dX12_sumUp_86 : decode cX12_sumUp 86 = .ok (.iload 4, 2) := all_at dvX12_sumUp_45 21 rfl
theorem dX12_sumUp_88 : decode cX12_sumUp 88 = .ok (.iaload, 1) := all_at dvX12_sumUp_45 22 rfl
theorem dX12_sumUp_89 : decode cX12_sumUp 89 = .ok (.iload_n 2, 1) := all_at dvX12_sumUp_45 23 rfl
set_option maxRecDepth 100000 in
theorem dvX12_sumUp_90 : ([(90, .if_icmp .ne 62, 3), (93, .aload_n 0, 1), (94, .iload 4, 2), (96, .iload_n 3, 1), (97, .invokevirtual 233, 3), (100, .ifCond .eq 52, 3), (103, .iload 5, 2), (105, .ifCond .ne 47, 3), (108, .aload_n 0, 1), (109, .dup, 1), (110, .getfield 223, 3), (113, .aload_n 0, 1), (114, .getfield 25, 3), (117, .iload 4, 2), (119, .iaload, 1), (120, .i2l, 1), (121, .ladd, 1), (122, .putfield 223, 3), (125, .aload_n 0, 1), (126, .dup, 1), (127, .getfield 227, 3), (130, .aload_n 0, 1), (131, .getfield 22, 3), (134, .iload 4, 2)] : List (Nat × Instr × Nat)).all (fun q => decide (decode cX12_sumUp q.1 = .ok (q.2.1, q.2.2))) = true := by decide +kernel
theorem dX12_sumUp_90 : decode cX12_sumUp 90 = .ok (.if_icmp .ne 62, 3) := all_at dvX12_sumUp_90 0 rfl
theorem dX12_sumUp_93 : decode cX12_sumUp 93 = .ok (.aload_n 0, 1) := all_at dvX12_sumUp_90 1 rfl
theorem dX12_sumUp_94 : decode cX12_sumUp 94 = .ok (.iload 4, 2) := all_at dvX12_sumUp_90 2 rfl
theorem dX12_sumUp_96 : decode cX12_sumUp 96 = .ok (.iload_n 3, 1) := all_at dvX12_sumUp_90 3 rfl
theorem dX12_sumUp_97 : decode cX12_sumUp 97 = .ok (.invokevirtual 233, 3) := all_at dvX12_sumUp_90 4 rfl
theorem dX12_sumUp_100 : decode cX12_sumUp 100 = .ok (.ifCond .eq 52, 3) := all_at dvX12_sumUp_90 5 rfl
theorem dX12_sumUp_103 : decode cX12_sumUp 103 = .ok (.iload 5, 2) := all_at dvX12_sumUp_90 6 rfl
theorem dX12_sumUp_105 : decode cX12_sumUp 105 = .ok (.ifCond .ne 47, 3) := all_at dvX12_sumUp_90 7 rfl
theorem dX12_sumUp_108 : decode cX12_sumUp 108 = .ok (.aload_n 0, 1) := all_at dvX12_sumUp_90 8 rfl
theorem dX12_sumUp_109 : decode cX12_sumUp 109 = .ok (.dup, 1) := all_at dvX12_sumUp_90 9 rfl
theorem dX12_sumUp_110 : decode cX12_sumUp 110 = .ok (.getfield 223, 3) := all_at dvX12_sumUp_90 10 rfl
theorem dX12_sumUp_113 : decode cX12_sumUp 113 = .ok (.aload_n 0, 1) := all_at dvX12_sumUp_90 11 rfl
theorem dX12_sumUp_114 : decode cX12_sumUp 114 = .ok (.getfield 25, 3) := all_at dvX12_sumUp_90 12 rfl
theorem dX12_sumUp_117 : decode cX12_sumUp 117 = .ok (.iload 4, 2) := all_at dvX12_sumUp_90 13 rfl
theorem dX12_sumUp_119 : decode cX12_sumUp 119 = .ok (.iaload, 1) := all_at dvX12_sumUp_90 14 rfl
theorem dX12_sumUp_120 : decode cX12_sumUp 120 = .ok (.i2l, 1) := all_at dvX12_sumUp_90 15 rfl
theorem dX12_sumUp_121 : decode cX12_sumUp 121 = .ok (.ladd, 1) := all_at dvX12_sumUp_90 16 rfl
theorem dX12_sumUp_122 : decode cX12_sumUp 122 = .ok (.putfield 223, 3) := all_at dvX12_sumUp_90 17 rfl
theorem dX12_sumUp_125 : decode cX12_sumUp 125 = .ok (.aload_n 0, 1) := all_at dvX12_sumUp_90 18 rfl
theorem dX12_sumUp_126 : decode cX12_sumUp 126 = .ok (.dup, 1) := all_at dvX12_sumUp_90 19 rfl
theorem dX12_sumUp_127 : decode cX12_sumUp 127 = .ok (.getfield 227, 3) := all_at dvX12_sumUp_90 20 rfl
theorem dX12_sumUp_130 : decode cX12_sumUp 130 = .ok (.aload_n 0, 1) := all_at dvX12_sumUp_90 21 rfl
theorem dX12_sumUp_131 : decode cX12_sumUp 131 = .ok (.getfield 22, 3) := all_at dvX12_sumUp_90 22 rfl
theorem dX12_sumUp_134 : decode cX12_sumUp 134 = .ok (.iload 4, 2) := all_at dvX12_sumUp_90 23 rfl
set_option maxRecDepth 100000 in
theorem dvX12_sumUp_136 : ([(136, .iaload, 1), (137, .i2l, 1), (138, .ladd, 1), (139, .putfield 227, 3), (142, .aload_n 0, 1), (143, .dup, 1), (144, .getfield 230, 3), (147, .iconst 1, 1), (148, .iadd, 1), (149, .putfield 230, 3), (152, .iinc 4 1, 3), (155, .goto (-137), 3), (158, .aload_n 0, 1), (159, .getfield 230, 3), (162, .ireturn, 1)] : List (Nat × Instr × Nat)).all (fun q => decide (decode cX12_sumUp q.1 = .ok (q.2.1, q.2.2))) = true := by decide +kernel
theorem dX12_sumUp_136 : decode cX12_sumUp 136 = .ok (.iaload, 1) := all_at dvX12_sumUp_136 0 rfl
theorem dX12_sumUp_137 : decode cX12_sumUp 137 = .ok (.i2l, 1) := all_at dvX12_sumUp_136 1 rfl
theorem dX12_sumUp_138 : decode cX12_sumUp 138 = .ok (.ladd, 1) := all_at dvX12_sumUp_136 2 rfl
theorem dX12_sumUp_139 : decode cX12_sumUp 139 = .ok (.putfield 227, 3) := all_at dvX12_sumUp_136 3 rfl
theorem dX12_sumUp_142 : decode cX12_sumUp 142 = .ok (.aload_n 0, 1) := all_at dvX12_sumUp_136 4 rfl
theorem dX12_sumUp_143 : decode cX12_sumUp 143 = .ok (.dup, 1) := all_at dvX12_sumUp_136 5 rfl
theorem dX12_sumUp_144 : decode cX12_sumUp 144 = .ok (.getfield 230, 3) := all_at dvX12_sumUp_136 6 rfl
theorem dX12_sumUp_147 : decode cX12_sumUp 147 = .ok (.iconst 1, 1) := all_at dvX12_sumUp_136 7 rfl
theorem dX12_sumUp_148 : decode cX12_sumUp 148 = .ok (.iadd, 1) := all_at dvX12_sumUp_136 8 rfl
theorem dX12_sumUp_149 : decode cX12_sumUp 149 = .ok (.putfield 230, 3) := all_at dvX12_sumUp_136 9 rfl
theorem dX12_sumUp_152 : decode cX12_sumUp 152 = .ok (.iinc 4 1, 3) := all_at dvX12_sumUp_136 10 rfl
theorem dX12_sumUp_155 : decode cX12_sumUp 155 = .ok (.goto (-137), 3) := all_at dvX12_sumUp_136 11 rfl
theorem dX12_sumUp_158 : decode cX12_sumUp 158 = .ok (.aload_n 0, 1) := all_at dvX12_sumUp_136 12 rfl
theorem dX12_sumUp_159 : decode cX12_sumUp 159 = .ok (.getfield 230, 3) := all_at dvX12_sumUp_136 13 rfl
theorem dX12_sumUp_162 : decode cX12_sumUp 162 = .ok (.ireturn, 1) := all_at dvX12_sumUp_136 14 rfl
set_option maxHeartbeats 4000000 in
set_option maxRecDepth 100000 in
/-- X12_errorOf -/
theorem c_X12_errorOf (l : Launch) (dC : Nat → ClassId) (dI : Nat → Nat → Nat) (h : Nat) (g : Nat → Nat → Nat) (ca : Nat → Nat → ClassId) (iv : Nat → Nat → Int32) (lv : Nat → Nat → Int64) (fa : Nat → Nat → Nat → Int32) (la : Nat → Nat → Nat → Int64) (hI : IX iv fa) (a : Int32) (b : Int32) (d : Int32) (h_d : 0 ≤ d.toInt ∧ d.toInt ≤ 1) : Met l yX12_errorOf (wc yX12_errorOf cX12_errorOf 8 (some .int)) ({ frames := 0, cells := 0, slots := 0, locals := 0 } : Room) (pR (dC, dI) classes (WM h g ca iv lv fa la) (TM ca) [.ref h, .int a, .int b, .int d]) (vp_Si (fun r => True)) 0 0 (fun _ => False) := by
  refine Met.ofW (cc := cX12_errorOf) (maxL := 8) (ret := (some .int)) (by decide) rfl ?_
  intro p e s m args below meth c s₁ B hml hv
  obtain ⟨rfl, hP, hK⟩ := hv
  have hx := B.exec
  have hb := B.bytes
  have hr := B.returns
  have ht := tb_tl (atoms_spec (ws := wc yX12_errorOf cX12_errorOf 8 (some .int)) B.pre)
  have hown : s.vm.findClass RX12 = some m.cls := findClass_of_methodNamed B.named
  have hlocks := B.notSynchronized
  have hl := lv_entry [.ref h, .int a, .int b, .int d] (n := 8) (Nat.le_of_ble_eq_true rfl)
  rw [lg_entry_eq]
  generalize (lg_sl [.ref h, .int a, .int b, .int d] ++ List.replicate (8 - (lg_sl [.ref h, .int a, .int b, .int d]).length) Slot.unset).toArray = ls at hl ⊢
  have hl : lv_has ls 8 [(0, .ref h), (1, .int a), (2, .int b), (3, .int d)] := hl
  refine lv_iconst (v := (-1)) hx hb dX12_errorOf_0 (by decide) ?_
  refine lv_istore (lv' := [(4, .int (-1)), (0, .ref h), (1, .int a), (2, .int b), (3, .int d)]) hx hb dX12_errorOf_1 hl (by decide) rfl (fun ls hl => ?_)
  refine lv_iconst (v := (-1)) hx hb dX12_errorOf_3 (by decide) ?_
  refine lv_istore (lv' := [(5, .int (-1)), (4, .int (-1)), (0, .ref h), (1, .int a), (2, .int b), (3, .int d)]) hx hb dX12_errorOf_4 hl (by decide) rfl (fun ls hl => ?_)
  refine lv_iconst (v := 0) hx hb dX12_errorOf_6 (by decide) ?_
  refine lv_istore (lv' := [(6, .int 0), (5, .int (-1)), (4, .int (-1)), (0, .ref h), (1, .int a), (2, .int b), (3, .int d)]) hx hb dX12_errorOf_7 hl (by decide) rfl (fun ls hl => ?_)
  have lp645 : ∀ (nn645 : Nat) (x644_6 : Int32) (x644_5 : Int32) (x644_4 : Int32), 0 ≤ x644_6.toInt ∧ x644_6.toInt ≤ 30 → (-1) ≤ x644_5.toInt ∧ x644_5.toInt ≤ 29 → (-1) ≤ x644_4.toInt ∧ x644_4.toInt ≤ 29 → 30 - x644_6.toInt < (nn645 : Int) → ∀ (ls : Array Slot), lv_has ls 8 [(6, .int x644_6), (5, .int x644_5), (4, .int x644_4), (0, .ref h), (1, .int a), (2, .int b), (3, .int d)] → W p l e ({ frames := 0, cells := 0, slots := 0, locals := 0 } : Room) s m ([.ref h, .int a, .int b, .int d] : List Value).toArray below meth c s.heap [] 0 0 (MQ below (vp_Si (fun r => True)) ([.ref h, .int a, .int b, .int d] : List Value).toArray s 0 0 (fun _ => False)) (F0 m 9 ls []) := by
    intro nn645
    induction nn645 with
    | zero => intro x644_6 x644_5 x644_4 hx644_6 hx644_5 hx644_4 hm645; exfalso; omega
    | succ nn645 ih645 =>
      intro x644_6 x644_5 x644_4 hx644_6 hx644_5 hx644_4 hm645 ls hl
      refine lv_iload hx hb dX12_errorOf_9 (lv_at hl 0 rfl) ?_
      refine lv_aload_n hx hb dX12_errorOf_11 rfl (lv_at hl 3 rfl) ?_
      have i_12_13 : 0 ≤ (iv 12 13).toInt ∧ (iv 12 13).toInt ≤ 30 := hI.1 12 13
      refine gM_12_13 hx hb ht hown hK hP m_1152 (v := (iv 12 13)) rfl dX12_errorOf_12 ?_
      refine lv_icmp_ge (tgt := 80) hx hb dX12_errorOf_15 (by decide) (fun c646 => ?_) (fun c646 => ?_)
      · have fc646 := z_le (rfl : ((iv 12 13)).toInt = _) (rfl : (x644_6).toInt = _) c646
        refine lv_iload hx hb dX12_errorOf_80 (lv_at hl 2 rfl) ?_
        refine lv_if_ge (tgt := 92) hx hb dX12_errorOf_82 (by decide) (fun c647 => ?_) (fun c647 => ?_)
        · have fc647 := z_le (by decide : (0 : Int32).toInt = 0) (rfl : (x644_4).toInt = _) c647
          refine lv_aload_n hx hb dX12_errorOf_92 rfl (lv_at hl 3 rfl) ?_
          refine gM_12_15 hx hb ht hown hK hP m_1154 dX12_errorOf_93 ?_
          refine lv_iload hx hb dX12_errorOf_96 (lv_at hl 2 rfl) ?_
          refine lv_if_ge (tgt := 106) hx hb dX12_errorOf_98 (by decide) (fun c648 => ?_) (fun c648 => ?_)
          · skip
            refine lv_iload hx hb dX12_errorOf_106 (lv_at hl 2 rfl) ?_
            refine lM_12_15 hx hb hK hP (f := (fa 12 15)) rfl (vp_in_iff.mpr ⟨by omega, by omega⟩) dX12_errorOf_108 ?_
            refine lv_topi (fun v649 ev649 => ?_)
            refine lv_istore (lv' := [(6, .int v649), (5, .int x644_5), (4, .int x644_4), (0, .ref h), (1, .int a), (2, .int b), (3, .int d)]) hx hb dX12_errorOf_109 hl (by decide) rfl (fun ls hl => ?_)
            refine lv_aload_n hx hb dX12_errorOf_111 rfl (lv_at hl 3 rfl) ?_
            refine gM_12_15 hx hb ht hown hK hP m_1154 dX12_errorOf_112 ?_
            refine lv_iload hx hb dX12_errorOf_115 (lv_at hl 1 rfl) ?_
            refine lv_if_ge (tgt := 125) hx hb dX12_errorOf_117 (by decide) (fun c650 => ?_) (fun c650 => ?_)
            · have fc650 := z_le (by decide : (0 : Int32).toInt = 0) (rfl : (x644_5).toInt = _) c650
              refine lv_iload hx hb dX12_errorOf_125 (lv_at hl 1 rfl) ?_
              refine lM_12_15 hx hb hK hP (f := (fa 12 15)) rfl (vp_in_iff.mpr ⟨by omega, by omega⟩) dX12_errorOf_127 ?_
              refine lv_topi (fun v651 ev651 => ?_)
              refine lv_istore (lv' := [(7, .int v651), (6, .int v649), (5, .int x644_5), (4, .int x644_4), (0, .ref h), (1, .int a), (2, .int b), (3, .int d)]) hx hb dX12_errorOf_128 hl (by decide) rfl (fun ls hl => ?_)
              refine lv_iload_n hx hb dX12_errorOf_130 rfl (lv_at hl 7 rfl) ?_
              refine lv_iload hx hb dX12_errorOf_131 (lv_at hl 1 rfl) ?_
              refine lv_iload hx hb dX12_errorOf_133 (lv_at hl 0 rfl) ?_
              refine lv_icmp_le (tgt := 142) hx hb dX12_errorOf_135 (by decide) (fun c652 => ?_) (fun c652 => ?_)
              · have fc652 := z_le (rfl : (v649).toInt = _) (rfl : (v651).toInt = _) c652
                refine lv_iconst (v := 0) hx hb dX12_errorOf_142 (by decide) ?_
                refine lv_icmp_ne (tgt := 151) hx hb dX12_errorOf_143 (by decide) (fun c653 => ?_) (fun c653 => ?_)
                · have fc653 := z_ne (rfl : (d).toInt = _) (by decide : (0 : Int32).toInt = 0) c653
                  refine lv_iload hx hb dX12_errorOf_151 (lv_at hl 0 rfl) ?_
                  exact W.iret (v := v651) hx hb hr (fun t ht9 hW => ⟨v651, rfl, trivial, ht9⟩) (fun q hq => by cases hq) dX12_errorOf_153
                · have fc653 := z_eq (rfl : (d).toInt = _) (by decide : (0 : Int32).toInt = 0) c653
                  refine lv_iload hx hb dX12_errorOf_146 (lv_at hl 1 rfl) ?_
                  refine lv_goto (tgt := 153) hx hb dX12_errorOf_148 (by decide) ?_
                  exact W.iret (v := v649) hx hb hr (fun t ht9 hW => ⟨v649, rfl, trivial, ht9⟩) (fun q hq => by cases hq) dX12_errorOf_153
              · have fc652 := z_nle (rfl : (v649).toInt = _) (rfl : (v651).toInt = _) c652
                refine lv_iconst (v := 1) hx hb dX12_errorOf_138 (by decide) ?_
                refine lv_goto (tgt := 143) hx hb dX12_errorOf_139 (by decide) ?_
                refine lv_icmp_ne (tgt := 151) hx hb dX12_errorOf_143 (by decide) (fun c654 => ?_) (fun c654 => ?_)
                · have fc654 := z_ne (rfl : (d).toInt = _) (by decide : (1 : Int32).toInt = 1) c654
                  refine lv_iload hx hb dX12_errorOf_151 (lv_at hl 0 rfl) ?_
                  exact W.iret (v := v651) hx hb hr (fun t ht9 hW => ⟨v651, rfl, trivial, ht9⟩) (fun q hq => by cases hq) dX12_errorOf_153
                · have fc654 := z_eq (rfl : (d).toInt = _) (by decide : (1 : Int32).toInt = 1) c654
                  refine lv_iload hx hb dX12_errorOf_146 (lv_at hl 1 rfl) ?_
                  refine lv_goto (tgt := 153) hx hb dX12_errorOf_148 (by decide) ?_
                  exact W.iret (v := v649) hx hb hr (fun t ht9 hW => ⟨v649, rfl, trivial, ht9⟩) (fun q hq => by cases hq) dX12_errorOf_153
            · have fc650 := z_nle (by decide : (0 : Int32).toInt = 0) (rfl : (x644_5).toInt = _) c650
              refine lv_iload hx hb dX12_errorOf_120 (lv_at hl 2 rfl) ?_
              refine lv_goto (tgt := 127) hx hb dX12_errorOf_122 (by decide) ?_
              refine lM_12_15 hx hb hK hP (f := (fa 12 15)) rfl (vp_in_iff.mpr ⟨by omega, by omega⟩) dX12_errorOf_127 ?_
              refine lv_topi (fun v655 ev655 => ?_)
              obtain rfl : v649 = v655 := ev649.trans ev655.symm
              refine lv_istore (lv' := [(7, .int v649), (6, .int v649), (5, .int x644_5), (4, .int x644_4), (0, .ref h), (1, .int a), (2, .int b), (3, .int d)]) hx hb dX12_errorOf_128 hl (by decide) rfl (fun ls hl => ?_)
              refine lv_iload_n hx hb dX12_errorOf_130 rfl (lv_at hl 7 rfl) ?_
              refine lv_iload hx hb dX12_errorOf_131 (lv_at hl 1 rfl) ?_
              refine lv_iload hx hb dX12_errorOf_133 (lv_at hl 0 rfl) ?_
              refine lv_icmp_le (tgt := 142) hx hb dX12_errorOf_135 (by decide) (fun c656 => ?_) (fun c656 => ?_)
              · have fc656 := z_le (rfl : (v649).toInt = _) (rfl : (v649).toInt = _) c656
                refine lv_iconst (v := 0) hx hb dX12_errorOf_142 (by decide) ?_
                refine lv_icmp_ne (tgt := 151) hx hb dX12_errorOf_143 (by decide) (fun c657 => ?_) (fun c657 => ?_)
                · have fc657 := z_ne (rfl : (d).toInt = _) (by decide : (0 : Int32).toInt = 0) c657
                  refine lv_iload hx hb dX12_errorOf_151 (lv_at hl 0 rfl) ?_
                  exact W.iret (v := v649) hx hb hr (fun t ht9 hW => ⟨v649, rfl, trivial, ht9⟩) (fun q hq => by cases hq) dX12_errorOf_153
                · have fc657 := z_eq (rfl : (d).toInt = _) (by decide : (0 : Int32).toInt = 0) c657
                  refine lv_iload hx hb dX12_errorOf_146 (lv_at hl 1 rfl) ?_
                  refine lv_goto (tgt := 153) hx hb dX12_errorOf_148 (by decide) ?_
                  exact W.iret (v := v649) hx hb hr (fun t ht9 hW => ⟨v649, rfl, trivial, ht9⟩) (fun q hq => by cases hq) dX12_errorOf_153
              · have fc656 := z_nle (rfl : (v649).toInt = _) (rfl : (v649).toInt = _) c656
                refine lv_iconst (v := 1) hx hb dX12_errorOf_138 (by decide) ?_
                refine lv_goto (tgt := 143) hx hb dX12_errorOf_139 (by decide) ?_
                refine lv_icmp_ne (tgt := 151) hx hb dX12_errorOf_143 (by decide) (fun c658 => ?_) (fun c658 => ?_)
                · have fc658 := z_ne (rfl : (d).toInt = _) (by decide : (1 : Int32).toInt = 1) c658
                  refine lv_iload hx hb dX12_errorOf_151 (lv_at hl 0 rfl) ?_
                  exact W.iret (v := v649) hx hb hr (fun t ht9 hW => ⟨v649, rfl, trivial, ht9⟩) (fun q hq => by cases hq) dX12_errorOf_153
                · have fc658 := z_eq (rfl : (d).toInt = _) (by decide : (1 : Int32).toInt = 1) c658
                  refine lv_iload hx hb dX12_errorOf_146 (lv_at hl 1 rfl) ?_
                  refine lv_goto (tgt := 153) hx hb dX12_errorOf_148 (by decide) ?_
                  exact W.iret (v := v649) hx hb hr (fun t ht9 hW => ⟨v649, rfl, trivial, ht9⟩) (fun q hq => by cases hq) dX12_errorOf_153
          · have fc648 := z_nle (by decide : (0 : Int32).toInt = 0) (rfl : (x644_4).toInt = _) c648; exfalso; omega
        · have fc647 := z_nle (by decide : (0 : Int32).toInt = 0) (rfl : (x644_4).toInt = _) c647
          refine lv_iload hx hb dX12_errorOf_85 (lv_at hl 1 rfl) ?_
          refine lv_if_ge (tgt := 92) hx hb dX12_errorOf_87 (by decide) (fun c659 => ?_) (fun c659 => ?_)
          · have fc659 := z_le (by decide : (0 : Int32).toInt = 0) (rfl : (x644_5).toInt = _) c659
            refine lv_aload_n hx hb dX12_errorOf_92 rfl (lv_at hl 3 rfl) ?_
            refine gM_12_15 hx hb ht hown hK hP m_1154 dX12_errorOf_93 ?_
            refine lv_iload hx hb dX12_errorOf_96 (lv_at hl 2 rfl) ?_
            refine lv_if_ge (tgt := 106) hx hb dX12_errorOf_98 (by decide) (fun c660 => ?_) (fun c660 => ?_)
            · have fc660 := z_le (by decide : (0 : Int32).toInt = 0) (rfl : (x644_4).toInt = _) c660; exfalso; omega
            · skip
              refine lv_iload hx hb dX12_errorOf_101 (lv_at hl 1 rfl) ?_
              refine lv_goto (tgt := 108) hx hb dX12_errorOf_103 (by decide) ?_
              refine lM_12_15 hx hb hK hP (f := (fa 12 15)) rfl (vp_in_iff.mpr ⟨by omega, by omega⟩) dX12_errorOf_108 ?_
              refine lv_topi (fun v661 ev661 => ?_)
              refine lv_istore (lv' := [(6, .int v661), (5, .int x644_5), (4, .int x644_4), (0, .ref h), (1, .int a), (2, .int b), (3, .int d)]) hx hb dX12_errorOf_109 hl (by decide) rfl (fun ls hl => ?_)
              refine lv_aload_n hx hb dX12_errorOf_111 rfl (lv_at hl 3 rfl) ?_
              refine gM_12_15 hx hb ht hown hK hP m_1154 dX12_errorOf_112 ?_
              refine lv_iload hx hb dX12_errorOf_115 (lv_at hl 1 rfl) ?_
              refine lv_if_ge (tgt := 125) hx hb dX12_errorOf_117 (by decide) (fun c662 => ?_) (fun c662 => ?_)
              · skip
                refine lv_iload hx hb dX12_errorOf_125 (lv_at hl 1 rfl) ?_
                refine lM_12_15 hx hb hK hP (f := (fa 12 15)) rfl (vp_in_iff.mpr ⟨by omega, by omega⟩) dX12_errorOf_127 ?_
                refine lv_topi (fun v663 ev663 => ?_)
                obtain rfl : v661 = v663 := ev661.trans ev663.symm
                refine lv_istore (lv' := [(7, .int v661), (6, .int v661), (5, .int x644_5), (4, .int x644_4), (0, .ref h), (1, .int a), (2, .int b), (3, .int d)]) hx hb dX12_errorOf_128 hl (by decide) rfl (fun ls hl => ?_)
                refine lv_iload_n hx hb dX12_errorOf_130 rfl (lv_at hl 7 rfl) ?_
                refine lv_iload hx hb dX12_errorOf_131 (lv_at hl 1 rfl) ?_
                refine lv_iload hx hb dX12_errorOf_133 (lv_at hl 0 rfl) ?_
                refine lv_icmp_le (tgt := 142) hx hb dX12_errorOf_135 (by decide) (fun c664 => ?_) (fun c664 => ?_)
                · have fc664 := z_le (rfl : (v661).toInt = _) (rfl : (v661).toInt = _) c664
                  refine lv_iconst (v := 0) hx hb dX12_errorOf_142 (by decide) ?_
                  refine lv_icmp_ne (tgt := 151) hx hb dX12_errorOf_143 (by decide) (fun c665 => ?_) (fun c665 => ?_)
                  · have fc665 := z_ne (rfl : (d).toInt = _) (by decide : (0 : Int32).toInt = 0) c665
                    refine lv_iload hx hb dX12_errorOf_151 (lv_at hl 0 rfl) ?_
                    exact W.iret (v := v661) hx hb hr (fun t ht9 hW => ⟨v661, rfl, trivial, ht9⟩) (fun q hq => by cases hq) dX12_errorOf_153
                  · have fc665 := z_eq (rfl : (d).toInt = _) (by decide : (0 : Int32).toInt = 0) c665
                    refine lv_iload hx hb dX12_errorOf_146 (lv_at hl 1 rfl) ?_
                    refine lv_goto (tgt := 153) hx hb dX12_errorOf_148 (by decide) ?_
                    exact W.iret (v := v661) hx hb hr (fun t ht9 hW => ⟨v661, rfl, trivial, ht9⟩) (fun q hq => by cases hq) dX12_errorOf_153
                · have fc664 := z_nle (rfl : (v661).toInt = _) (rfl : (v661).toInt = _) c664
                  refine lv_iconst (v := 1) hx hb dX12_errorOf_138 (by decide) ?_
                  refine lv_goto (tgt := 143) hx hb dX12_errorOf_139 (by decide) ?_
                  refine lv_icmp_ne (tgt := 151) hx hb dX12_errorOf_143 (by decide) (fun c666 => ?_) (fun c666 => ?_)
                  · have fc666 := z_ne (rfl : (d).toInt = _) (by decide : (1 : Int32).toInt = 1) c666
                    refine lv_iload hx hb dX12_errorOf_151 (lv_at hl 0 rfl) ?_
                    exact W.iret (v := v661) hx hb hr (fun t ht9 hW => ⟨v661, rfl, trivial, ht9⟩) (fun q hq => by cases hq) dX12_errorOf_153
                  · have fc666 := z_eq (rfl : (d).toInt = _) (by decide : (1 : Int32).toInt = 1) c666
                    refine lv_iload hx hb dX12_errorOf_146 (lv_at hl 1 rfl) ?_
                    refine lv_goto (tgt := 153) hx hb dX12_errorOf_148 (by decide) ?_
                    exact W.iret (v := v661) hx hb hr (fun t ht9 hW => ⟨v661, rfl, trivial, ht9⟩) (fun q hq => by cases hq) dX12_errorOf_153
              · have fc662 := z_nle (by decide : (0 : Int32).toInt = 0) (rfl : (x644_5).toInt = _) c662; exfalso; omega
          · have fc659 := z_nle (by decide : (0 : Int32).toInt = 0) (rfl : (x644_5).toInt = _) c659
            refine lv_iconst (v := 0) hx hb dX12_errorOf_90 (by decide) ?_
            exact W.iret (v := 0) hx hb hr (fun t ht9 hW => ⟨0, rfl, trivial, ht9⟩) (fun q hq => by cases hq) dX12_errorOf_91
      · have fc646 := z_nle (rfl : ((iv 12 13)).toInt = _) (rfl : (x644_6).toInt = _) c646
        refine lv_aload_n hx hb dX12_errorOf_18 rfl (lv_at hl 3 rfl) ?_
        refine gM_12_14 hx hb ht hown hK hP m_1153 dX12_errorOf_19 ?_
        refine lv_iload hx hb dX12_errorOf_22 (lv_at hl 0 rfl) ?_
        refine lM_12_14 hx hb hK hP (f := (fa 12 14)) rfl (vp_in_iff.mpr ⟨by omega, by omega⟩) dX12_errorOf_24 ?_
        refine lv_topi (fun v667 ev667 => ?_)
        refine lv_iload_n hx hb dX12_errorOf_25 rfl (lv_at hl 4 rfl) ?_
        refine lv_icmp_ne (tgt := 74) hx hb dX12_errorOf_26 (by decide) (fun c668 => ?_) (fun c668 => ?_)
        · have fc668 := z_ne (rfl : (v667).toInt = _) (rfl : (a).toInt = _) c668
          obtain ⟨v669, ev669⟩ : ∃ y : Int32, y = x644_6 + 1 := ⟨_, rfl⟩
          have tv669 := z_add ev669 rfl (by decide : (1 : Int32).toInt = 1) (by omega) (by omega)
          refine lv_iinc (v := v669) (lv' := [(6, .int v669), (5, .int x644_5), (4, .int x644_4), (0, .ref h), (1, .int a), (2, .int b), (3, .int d)]) hx hb dX12_errorOf_74 hl (k := 0) rfl (by rw [ev669]; rfl) (by decide) rfl (fun ls hl => ?_)
          refine lv_goto (tgt := 9) hx hb dX12_errorOf_77 (by decide) ?_
          exact ih645 v669 x644_5 x644_4 ⟨by omega, by omega⟩ ⟨by omega, by omega⟩ ⟨by omega, by omega⟩ (by omega) ls (lv_sub hl [0, 1, 2, 3, 4, 5, 6] rfl)
        · have fc668 := z_eq (rfl : (v667).toInt = _) (rfl : (a).toInt = _) c668
          refine lv_aload_n hx hb dX12_errorOf_29 rfl (lv_at hl 3 rfl) ?_
          refine gM_12_16 hx hb ht hown hK hP m_1155 dX12_errorOf_30 ?_
          refine lv_iload hx hb dX12_errorOf_33 (lv_at hl 0 rfl) ?_
          refine lM_12_16 hx hb hK hP (f := (fa 12 16)) rfl (vp_in_iff.mpr ⟨by omega, by omega⟩) dX12_errorOf_35 ?_
          refine lv_topi (fun v670 ev670 => ?_)
          refine lv_iload_n hx hb dX12_errorOf_36 rfl (lv_at hl 5 rfl) ?_
          refine lv_icmp_gt (tgt := 45) hx hb dX12_errorOf_37 (by decide) (fun c671 => ?_) (fun c671 => ?_)
          · have fc671 := z_lt (rfl : (b).toInt = _) (rfl : (v670).toInt = _) c671
            refine lv_iload hx hb dX12_errorOf_45 (lv_at hl 2 rfl) ?_
            refine lv_istore (lv' := [(4, .int x644_4), (6, .int x644_6), (5, .int x644_5), (0, .ref h), (1, .int a), (2, .int b), (3, .int d)]) hx hb dX12_errorOf_47 hl (by decide) rfl (fun ls hl => ?_)
            refine lv_aload_n hx hb dX12_errorOf_49 rfl (lv_at hl 3 rfl) ?_
            refine gM_12_16 hx hb ht hown hK hP m_1155 dX12_errorOf_50 ?_
            refine lv_iload hx hb dX12_errorOf_53 (lv_at hl 1 rfl) ?_
            refine lM_12_16 hx hb hK hP (f := (fa 12 16)) rfl (vp_in_iff.mpr ⟨by omega, by omega⟩) dX12_errorOf_55 ?_
            refine lv_topi (fun v672 ev672 => ?_)
            obtain rfl : v670 = v672 := ev670.trans ev672.symm
            refine lv_iload_n hx hb dX12_errorOf_56 rfl (lv_at hl 5 rfl) ?_
            refine lv_icmp_le (tgt := 70) hx hb dX12_errorOf_57 (by decide) (fun c673 => ?_) (fun c673 => ?_)
            · have fc673 := z_le (rfl : (v670).toInt = _) (rfl : (b).toInt = _) c673
              refine lv_iload hx hb dX12_errorOf_70 (lv_at hl 2 rfl) ?_
              refine lv_istore (lv' := [(5, .int x644_5), (4, .int x644_4), (6, .int x644_6), (0, .ref h), (1, .int a), (2, .int b), (3, .int d)]) hx hb dX12_errorOf_72 hl (by decide) rfl (fun ls hl => ?_)
              obtain ⟨v674, ev674⟩ : ∃ y : Int32, y = x644_6 + 1 := ⟨_, rfl⟩
              have tv674 := z_add ev674 rfl (by decide : (1 : Int32).toInt = 1) (by omega) (by omega)
              refine lv_iinc (v := v674) (lv' := [(6, .int v674), (5, .int x644_5), (4, .int x644_4), (0, .ref h), (1, .int a), (2, .int b), (3, .int d)]) hx hb dX12_errorOf_74 hl (k := 2) rfl (by rw [ev674]; rfl) (by decide) rfl (fun ls hl => ?_)
              refine lv_goto (tgt := 9) hx hb dX12_errorOf_77 (by decide) ?_
              exact ih645 v674 x644_5 x644_4 ⟨by omega, by omega⟩ ⟨by omega, by omega⟩ ⟨by omega, by omega⟩ (by omega) ls (lv_sub hl [0, 1, 2, 3, 4, 5, 6] rfl)
            · have fc673 := z_nle (rfl : (v670).toInt = _) (rfl : (b).toInt = _) c673
              refine lv_iload hx hb dX12_errorOf_60 (lv_at hl 2 rfl) ?_
              refine lv_if_ge (tgt := 70) hx hb dX12_errorOf_62 (by decide) (fun c675 => ?_) (fun c675 => ?_)
              · have fc675 := z_le (by decide : (0 : Int32).toInt = 0) (rfl : (x644_5).toInt = _) c675
                refine lv_iload hx hb dX12_errorOf_70 (lv_at hl 2 rfl) ?_
                refine lv_istore (lv' := [(5, .int x644_5), (4, .int x644_4), (6, .int x644_6), (0, .ref h), (1, .int a), (2, .int b), (3, .int d)]) hx hb dX12_errorOf_72 hl (by decide) rfl (fun ls hl => ?_)
                obtain ⟨v676, ev676⟩ : ∃ y : Int32, y = x644_6 + 1 := ⟨_, rfl⟩
                have tv676 := z_add ev676 rfl (by decide : (1 : Int32).toInt = 1) (by omega) (by omega)
                refine lv_iinc (v := v676) (lv' := [(6, .int v676), (5, .int x644_5), (4, .int x644_4), (0, .ref h), (1, .int a), (2, .int b), (3, .int d)]) hx hb dX12_errorOf_74 hl (k := 2) rfl (by rw [ev676]; rfl) (by decide) rfl (fun ls hl => ?_)
                refine lv_goto (tgt := 9) hx hb dX12_errorOf_77 (by decide) ?_
                exact ih645 v676 x644_5 x644_4 ⟨by omega, by omega⟩ ⟨by omega, by omega⟩ ⟨by omega, by omega⟩ (by omega) ls (lv_sub hl [0, 1, 2, 3, 4, 5, 6] rfl)
              · have fc675 := z_nle (by decide : (0 : Int32).toInt = 0) (rfl : (x644_5).toInt = _) c675
                refine lv_iload hx hb dX12_errorOf_65 (lv_at hl 1 rfl) ?_
                refine lv_goto (tgt := 72) hx hb dX12_errorOf_67 (by decide) ?_
                refine lv_istore (lv' := [(5, .int x644_6), (4, .int x644_4), (6, .int x644_6), (0, .ref h), (1, .int a), (2, .int b), (3, .int d)]) hx hb dX12_errorOf_72 hl (by decide) rfl (fun ls hl => ?_)
                obtain ⟨v677, ev677⟩ : ∃ y : Int32, y = x644_6 + 1 := ⟨_, rfl⟩
                have tv677 := z_add ev677 rfl (by decide : (1 : Int32).toInt = 1) (by omega) (by omega)
                refine lv_iinc (v := v677) (lv' := [(6, .int v677), (5, .int x644_6), (4, .int x644_4), (0, .ref h), (1, .int a), (2, .int b), (3, .int d)]) hx hb dX12_errorOf_74 hl (k := 2) rfl (by rw [ev677]; rfl) (by decide) rfl (fun ls hl => ?_)
                refine lv_goto (tgt := 9) hx hb dX12_errorOf_77 (by decide) ?_
                exact ih645 v677 x644_6 x644_4 ⟨by omega, by omega⟩ ⟨by omega, by omega⟩ ⟨by omega, by omega⟩ (by omega) ls (lv_sub hl [0, 1, 2, 3, 4, 5, 6] rfl)
          · have fc671 := z_nlt (rfl : (b).toInt = _) (rfl : (v670).toInt = _) c671
            refine lv_iload hx hb dX12_errorOf_40 (lv_at hl 0 rfl) ?_
            refine lv_goto (tgt := 47) hx hb dX12_errorOf_42 (by decide) ?_
            refine lv_istore (lv' := [(4, .int x644_6), (6, .int x644_6), (5, .int x644_5), (0, .ref h), (1, .int a), (2, .int b), (3, .int d)]) hx hb dX12_errorOf_47 hl (by decide) rfl (fun ls hl => ?_)
            refine lv_aload_n hx hb dX12_errorOf_49 rfl (lv_at hl 3 rfl) ?_
            refine gM_12_16 hx hb ht hown hK hP m_1155 dX12_errorOf_50 ?_
            refine lv_iload hx hb dX12_errorOf_53 (lv_at hl 1 rfl) ?_
            refine lM_12_16 hx hb hK hP (f := (fa 12 16)) rfl (vp_in_iff.mpr ⟨by omega, by omega⟩) dX12_errorOf_55 ?_
            refine lv_topi (fun v678 ev678 => ?_)
            obtain rfl : v670 = v678 := ev670.trans ev678.symm
            refine lv_iload_n hx hb dX12_errorOf_56 rfl (lv_at hl 5 rfl) ?_
            refine lv_icmp_le (tgt := 70) hx hb dX12_errorOf_57 (by decide) (fun c679 => ?_) (fun c679 => ?_)
            · have fc679 := z_le (rfl : (v670).toInt = _) (rfl : (b).toInt = _) c679
              refine lv_iload hx hb dX12_errorOf_70 (lv_at hl 2 rfl) ?_
              refine lv_istore (lv' := [(5, .int x644_5), (4, .int x644_6), (6, .int x644_6), (0, .ref h), (1, .int a), (2, .int b), (3, .int d)]) hx hb dX12_errorOf_72 hl (by decide) rfl (fun ls hl => ?_)
              obtain ⟨v680, ev680⟩ : ∃ y : Int32, y = x644_6 + 1 := ⟨_, rfl⟩
              have tv680 := z_add ev680 rfl (by decide : (1 : Int32).toInt = 1) (by omega) (by omega)
              refine lv_iinc (v := v680) (lv' := [(6, .int v680), (5, .int x644_5), (4, .int x644_6), (0, .ref h), (1, .int a), (2, .int b), (3, .int d)]) hx hb dX12_errorOf_74 hl (k := 2) rfl (by rw [ev680]; rfl) (by decide) rfl (fun ls hl => ?_)
              refine lv_goto (tgt := 9) hx hb dX12_errorOf_77 (by decide) ?_
              exact ih645 v680 x644_5 x644_6 ⟨by omega, by omega⟩ ⟨by omega, by omega⟩ ⟨by omega, by omega⟩ (by omega) ls (lv_sub hl [0, 1, 2, 3, 4, 5, 6] rfl)
            · have fc679 := z_nle (rfl : (v670).toInt = _) (rfl : (b).toInt = _) c679
              refine lv_iload hx hb dX12_errorOf_60 (lv_at hl 2 rfl) ?_
              refine lv_if_ge (tgt := 70) hx hb dX12_errorOf_62 (by decide) (fun c681 => ?_) (fun c681 => ?_)
              · have fc681 := z_le (by decide : (0 : Int32).toInt = 0) (rfl : (x644_5).toInt = _) c681
                refine lv_iload hx hb dX12_errorOf_70 (lv_at hl 2 rfl) ?_
                refine lv_istore (lv' := [(5, .int x644_5), (4, .int x644_6), (6, .int x644_6), (0, .ref h), (1, .int a), (2, .int b), (3, .int d)]) hx hb dX12_errorOf_72 hl (by decide) rfl (fun ls hl => ?_)
                obtain ⟨v682, ev682⟩ : ∃ y : Int32, y = x644_6 + 1 := ⟨_, rfl⟩
                have tv682 := z_add ev682 rfl (by decide : (1 : Int32).toInt = 1) (by omega) (by omega)
                refine lv_iinc (v := v682) (lv' := [(6, .int v682), (5, .int x644_5), (4, .int x644_6), (0, .ref h), (1, .int a), (2, .int b), (3, .int d)]) hx hb dX12_errorOf_74 hl (k := 2) rfl (by rw [ev682]; rfl) (by decide) rfl (fun ls hl => ?_)
                refine lv_goto (tgt := 9) hx hb dX12_errorOf_77 (by decide) ?_
                exact ih645 v682 x644_5 x644_6 ⟨by omega, by omega⟩ ⟨by omega, by omega⟩ ⟨by omega, by omega⟩ (by omega) ls (lv_sub hl [0, 1, 2, 3, 4, 5, 6] rfl)
              · have fc681 := z_nle (by decide : (0 : Int32).toInt = 0) (rfl : (x644_5).toInt = _) c681
                refine lv_iload hx hb dX12_errorOf_65 (lv_at hl 1 rfl) ?_
                refine lv_goto (tgt := 72) hx hb dX12_errorOf_67 (by decide) ?_
                refine lv_istore (lv' := [(5, .int x644_6), (4, .int x644_6), (6, .int x644_6), (0, .ref h), (1, .int a), (2, .int b), (3, .int d)]) hx hb dX12_errorOf_72 hl (by decide) rfl (fun ls hl => ?_)
                obtain ⟨v683, ev683⟩ : ∃ y : Int32, y = x644_6 + 1 := ⟨_, rfl⟩
                have tv683 := z_add ev683 rfl (by decide : (1 : Int32).toInt = 1) (by omega) (by omega)
                refine lv_iinc (v := v683) (lv' := [(6, .int v683), (5, .int x644_6), (4, .int x644_6), (0, .ref h), (1, .int a), (2, .int b), (3, .int d)]) hx hb dX12_errorOf_74 hl (k := 2) rfl (by rw [ev683]; rfl) (by decide) rfl (fun ls hl => ?_)
                refine lv_goto (tgt := 9) hx hb dX12_errorOf_77 (by decide) ?_
                exact ih645 v683 x644_6 x644_6 ⟨by omega, by omega⟩ ⟨by omega, by omega⟩ ⟨by omega, by omega⟩ (by omega) ls (lv_sub hl [0, 1, 2, 3, 4, 5, 6] rfl)
  exact lp645 31 0 (-1) (-1) ⟨by decide, by decide⟩ ⟨by decide, by decide⟩ ⟨by decide, by decide⟩ (by first | decide | omega) ls (lv_sub hl [0, 1, 2, 3, 4, 5, 6] rfl)
set_option maxHeartbeats 4000000 in
set_option maxRecDepth 100000 in
/-- X12_error -/
theorem c_X12_error (l : Launch) (dC : Nat → ClassId) (dI : Nat → Nat → Nat) (h : Nat) (g : Nat → Nat → Nat) (ca : Nat → Nat → ClassId) (iv : Nat → Nat → Int32) (lv : Nat → Nat → Int64) (fa : Nat → Nat → Nat → Int32) (la : Nat → Nat → Nat → Int64) (hI : IX iv fa) (a : Int32) (b : Int32) (d : Int32) : Met l yX12_error (wc yX12_error cX12_error 4 (some .int)) ({ frames := 2, cells := 0, slots := 0, locals := 45 } : Room) (pR (dC, dI) classes (WM h g ca iv lv fa la) (TM ca) [.ref h, .int a, .int b, .int d]) (vp_Si (fun r => True)) 0 0 (fun _ => False) := by
  refine Met.ofW (cc := cX12_error) (maxL := 4) (ret := (some .int)) (by decide) rfl ?_
  intro p e s m args below meth c s₁ B hml hv
  obtain ⟨rfl, hP, hK⟩ := hv
  have hx := B.exec
  have hb := B.bytes
  have hr := B.returns
  have ht := tb_tl (atoms_spec (ws := wc yX12_error cX12_error 4 (some .int)) B.pre)
  have hown : s.vm.findClass RX12 = some m.cls := findClass_of_methodNamed B.named
  have hlocks := B.notSynchronized
  have hl := lv_entry [.ref h, .int a, .int b, .int d] (n := 4) (Nat.le_of_ble_eq_true rfl)
  rw [lg_entry_eq]
  generalize (lg_sl [.ref h, .int a, .int b, .int d] ++ List.replicate (4 - (lg_sl [.ref h, .int a, .int b, .int d]).length) Slot.unset).toArray = ls at hl ⊢
  have hl : lv_has ls 4 [(0, .ref h), (1, .int a), (2, .int b), (3, .int d)] := hl
  refine lv_iload_n hx hb dX12_error_0 rfl (lv_at hl 1 rfl) ?_
  refine lv_i2l (v := (a.toInt64)) hx hb dX12_error_1 rfl ?_
  refine lv_lconst (v := 0) hx hb dX12_error_2 (by decide) ?_
  refine lv_ldc2 hx hb hown (ht _ m_1391) dX12_error_3 ?_
  refine vp_callSi (W.runS (As := [.long (a.toInt64), .long 0, .long 3]) (rest := []) ⟨hx, hb, hml, hown, ht⟩ (c_X12_in l dC dI (a.toInt64) 0 3 (a.toInt) (0) (3) ((Int32.toInt_toInt64 a).trans rfl) (by decide : (0 : Int64).toInt = 0) (by decide : (3 : Int64).toInt = 3)) (kS 3 ht m_1370 m_1371 m_89 m_1372 rfl rfl hd_X12_in_v ⟨Nat.le_of_ble_eq_true rfl, Nat.le_of_ble_eq_true rfl⟩) (sR noP (hK.sub (tys' := []) [] rfl)) rfl rfl hl.1 rfl (lv_room (Nat.le_of_ble_eq_true rfl)) dX12_error_6 ⟨Nat.le_of_ble_eq_true rfl, Nat.le_of_ble_eq_true rfl⟩) (fun r1 hr1 => ?_)
  rcases hr1 with ⟨rfl, fr1⟩ | ⟨rfl, fr1⟩
  · skip
    refine lv_if_eq (tgt := 29) hx hb dX12_error_9 (by decide) (fun c2 => ?_) (fun c2 => ?_)
    · exact absurd c2 (by decide)
    · skip
      refine lv_iload_n hx hb dX12_error_12 rfl (lv_at hl 2 rfl) ?_
      refine vp_callSi (W.runS (As := [.int b]) (rest := []) ⟨hx, hb, hml, hown, ht⟩ (c_X12_isDay l dC dI b) (kS 1 ht m_1422 m_1423 m_89 m_1424 rfl rfl hd_X12_isDay_v ⟨Nat.le_of_ble_eq_true rfl, Nat.le_of_ble_eq_true rfl⟩) (sR noP (hK.sub (tys' := []) [] rfl)) rfl rfl hl.1 rfl (lv_room (Nat.le_of_ble_eq_true rfl)) dX12_error_13 ⟨Nat.le_of_ble_eq_true rfl, Nat.le_of_ble_eq_true rfl⟩) (fun r3 hr3 => ?_)
      rcases hr3 with ⟨rfl, fr3⟩ | ⟨rfl, fr3⟩
      · skip
        refine lv_if_eq (tgt := 29) hx hb dX12_error_16 (by decide) (fun c4 => ?_) (fun c4 => ?_)
        · exact absurd c4 (by decide)
        · skip
          refine lv_iload_n hx hb dX12_error_19 rfl (lv_at hl 3 rfl) ?_
          refine lv_i2l (v := (d.toInt64)) hx hb dX12_error_20 rfl ?_
          refine lv_lconst (v := 0) hx hb dX12_error_21 (by decide) ?_
          refine lv_lconst (v := 1) hx hb dX12_error_22 (by decide) ?_
          refine vp_callSi (W.runS (As := [.long (d.toInt64), .long 0, .long 1]) (rest := []) ⟨hx, hb, hml, hown, ht⟩ (c_X12_in l dC dI (d.toInt64) 0 1 (d.toInt) (0) (1) ((Int32.toInt_toInt64 d).trans rfl) (by decide : (0 : Int64).toInt = 0) (by decide : (1 : Int64).toInt = 1)) (kS 3 ht m_1370 m_1371 m_89 m_1372 rfl rfl hd_X12_in_v ⟨Nat.le_of_ble_eq_true rfl, Nat.le_of_ble_eq_true rfl⟩) (sR noP (hK.sub (tys' := []) [] rfl)) rfl rfl hl.1 rfl (lv_room (Nat.le_of_ble_eq_true rfl)) dX12_error_23 ⟨Nat.le_of_ble_eq_true rfl, Nat.le_of_ble_eq_true rfl⟩) (fun r5 hr5 => ?_)
          rcases hr5 with ⟨rfl, fr5⟩ | ⟨rfl, fr5⟩
          · skip
            refine lv_if_ne (tgt := 32) hx hb dX12_error_26 (by decide) (fun c6 => ?_) (fun c6 => ?_)
            · skip
              refine lv_aload_n hx hb dX12_error_32 rfl (lv_at hl 0 rfl) ?_
              refine lv_iload_n hx hb dX12_error_33 rfl (lv_at hl 1 rfl) ?_
              refine lv_iload_n hx hb dX12_error_34 rfl (lv_at hl 2 rfl) ?_
              refine lv_iload_n hx hb dX12_error_35 rfl (lv_at hl 3 rfl) ?_
              refine lv_iconst (v := 1) hx hb dX12_error_36 (by decide) ?_
              refine lv_icmp_ne (tgt := 44) hx hb dX12_error_37 (by decide) (fun c7 => ?_) (fun c7 => ?_)
              · have fc7 := z_ne (rfl : (d).toInt = _) (by decide : (1 : Int32).toInt = 1) c7
                refine lv_iconst (v := 0) hx hb dX12_error_44 (by decide) ?_
                refine vp_callSi (W.runV (As := [.int a, .int b, .int 0]) (rest := []) ⟨hx, hb, hml, hown, ht⟩ (c_X12_errorOf l dC dI h g ca iv lv fa la hI a b 0 ⟨by decide, by decide⟩) (kV 3 ht m_1426 m_1428 m_44 m_89 m_1429 rfl rfl hd_X12_errorOf_v ⟨Nat.le_of_ble_eq_true rfl, Nat.le_of_ble_eq_true rfl⟩) (vR hP hK (rM_12 hK hP)) rfl rfl hl.1 rfl (lv_room (Nat.le_of_ble_eq_true rfl)) dX12_error_45 ⟨Nat.le_of_ble_eq_true rfl, Nat.le_of_ble_eq_true rfl⟩) (fun r8 hr8 => ?_)
                exact W.iret (v := r8) hx hb hr (fun t ht9 hW => ⟨r8, rfl, trivial, ht9⟩) (fun q hq => by cases hq) dX12_error_48
              · have fc7 := z_eq (rfl : (d).toInt = _) (by decide : (1 : Int32).toInt = 1) c7
                refine lv_iconst (v := 1) hx hb dX12_error_40 (by decide) ?_
                refine lv_goto (tgt := 45) hx hb dX12_error_41 (by decide) ?_
                refine vp_callSi (W.runV (As := [.int a, .int b, .int 1]) (rest := []) ⟨hx, hb, hml, hown, ht⟩ (c_X12_errorOf l dC dI h g ca iv lv fa la hI a b 1 ⟨by decide, by decide⟩) (kV 3 ht m_1426 m_1428 m_44 m_89 m_1429 rfl rfl hd_X12_errorOf_v ⟨Nat.le_of_ble_eq_true rfl, Nat.le_of_ble_eq_true rfl⟩) (vR hP hK (rM_12 hK hP)) rfl rfl hl.1 rfl (lv_room (Nat.le_of_ble_eq_true rfl)) dX12_error_45 ⟨Nat.le_of_ble_eq_true rfl, Nat.le_of_ble_eq_true rfl⟩) (fun r9 hr9 => ?_)
                exact W.iret (v := r9) hx hb hr (fun t ht9 hW => ⟨r9, rfl, trivial, ht9⟩) (fun q hq => by cases hq) dX12_error_48
            · exact absurd c6 (by decide)
          · skip
            refine lv_if_ne (tgt := 32) hx hb dX12_error_26 (by decide) (fun c10 => ?_) (fun c10 => ?_)
            · exact absurd rfl c10
            · skip
              refine lv_ldc hx hb hown (ht _ m_1373) dX12_error_29 ?_
              exact W.iret (v := (-100002)) hx hb hr (fun t ht9 hW => ⟨(-100002), rfl, trivial, ht9⟩) (fun q hq => by cases hq) dX12_error_31
      · skip
        refine lv_if_eq (tgt := 29) hx hb dX12_error_16 (by decide) (fun c11 => ?_) (fun c11 => ?_)
        · skip
          refine lv_ldc hx hb hown (ht _ m_1373) dX12_error_29 ?_
          exact W.iret (v := (-100002)) hx hb hr (fun t ht9 hW => ⟨(-100002), rfl, trivial, ht9⟩) (fun q hq => by cases hq) dX12_error_31
        · exact absurd rfl c11
  · skip
    refine lv_if_eq (tgt := 29) hx hb dX12_error_9 (by decide) (fun c12 => ?_) (fun c12 => ?_)
    · skip
      refine lv_ldc hx hb hown (ht _ m_1373) dX12_error_29 ?_
      exact W.iret (v := (-100002)) hx hb hr (fun t ht9 hW => ⟨(-100002), rfl, trivial, ht9⟩) (fun q hq => by cases hq) dX12_error_31
    · exact absurd rfl c12
set_option maxHeartbeats 4000000 in
set_option maxRecDepth 100000 in
/-- X12_doPart -/
theorem c_X12_doPart (l : Launch) (dC : Nat → ClassId) (dI : Nat → Nat → Nat) (a : Int64) (b : Int64) (d : Int64) (k : Int64) (n : Int32) : Met l yX12_doPart (wc yX12_doPart cX12_doPart 9 (some .boolean)) ({ frames := 1, cells := 0, slots := 0, locals := 21 } : Room) (pR (dC, dI) classes [] [] [.long a, .long b, .long d, .long k, .int n]) (vp_Si (fun r => 0 ≤ r.toInt ∧ r.toInt ≤ 1)) 0 0 (fun _ => False) := by
  refine Met.ofW (cc := cX12_doPart) (maxL := 9) (ret := (some .boolean)) (by decide) rfl ?_
  intro p e s m args below meth c s₁ B hml hv
  obtain ⟨rfl, hP, hK⟩ := hv
  have hx := B.exec
  have hb := B.bytes
  have hr := B.returns
  have ht := tb_tl (atoms_spec (ws := wc yX12_doPart cX12_doPart 9 (some .boolean)) B.pre)
  have hown : s.vm.findClass RX12 = some m.cls := findClass_of_methodNamed B.named
  have hlocks := B.notSynchronized
  have hl := lv_entry [.long a, .long b, .long d, .long k, .int n] (n := 9) (Nat.le_of_ble_eq_true rfl)
  rw [lg_entry_eq]
  generalize (lg_sl [.long a, .long b, .long d, .long k, .int n] ++ List.replicate (9 - (lg_sl [.long a, .long b, .long d, .long k, .int n]).length) Slot.unset).toArray = ls at hl ⊢
  have hl : lv_has ls 9 [(0, .long a), (2, .long b), (4, .long d), (6, .long k), (8, .int n)] := hl
  refine lv_ldc2 hx hb hown (ht _ m_1543) dX12_doPart_0 ?_
  refine lv_lload_n hx hb dX12_doPart_3 rfl (lv_at hl 0 rfl) ?_
  refine lv_lload hx hb dX12_doPart_4 (lv_at hl 3 rfl) ?_
  refine lv_lmul hx hb dX12_doPart_6 ?_
  refine lv_topl (fun w1 ew1 => ?_)
  refine lv_lload hx hb dX12_doPart_7 (lv_at hl 2 rfl) ?_
  refine lv_lload_n hx hb dX12_doPart_9 rfl (lv_at hl 1 rfl) ?_
  refine lv_lmul hx hb dX12_doPart_10 ?_
  refine lv_topl (fun w2 ew2 => ?_)
  refine lv_lsub hx hb dX12_doPart_11 ?_
  refine lv_topl (fun w3 ew3 => ?_)
  refine vp_callSl (W.runS (As := [.long w3]) (rest := [.long 1000]) ⟨hx, hb, hml, hown, ht⟩ (c_X12_plain l dC dI w3) (kS 1 ht m_1445 m_1446 m_89 m_1447 rfl rfl hd_X12_plain_v ⟨Nat.le_of_ble_eq_true rfl, Nat.le_of_ble_eq_true rfl⟩) (sR noP (hK.sub (tys' := []) [] rfl)) rfl rfl hl.1 rfl (lv_room (Nat.le_of_ble_eq_true rfl)) dX12_doPart_12 ⟨Nat.le_of_ble_eq_true rfl, Nat.le_of_ble_eq_true rfl⟩) (fun r4 hr4 => ?_)
  refine lv_lmul hx hb dX12_doPart_15 ?_
  refine lv_topl (fun w5 ew5 => ?_)
  refine lv_iload hx hb dX12_doPart_16 (lv_at hl 4 rfl) ?_
  refine lv_i2l (v := (n.toInt64)) hx hb dX12_doPart_18 rfl ?_
  refine lv_lload_n hx hb dX12_doPart_19 rfl (lv_at hl 1 rfl) ?_
  refine lv_lmul hx hb dX12_doPart_20 ?_
  refine lv_topl (fun w6 ew6 => ?_)
  refine lv_lload hx hb dX12_doPart_21 (lv_at hl 3 rfl) ?_
  refine lv_lmul hx hb dX12_doPart_23 ?_
  refine lv_topl (fun w7 ew7 => ?_)
  refine W.lcmp hx hb dX12_doPart_24 ?_
  refine lv_topi (fun v8 ev8 => ?_)
  refine lv_if_le (tgt := 32) hx hb dX12_doPart_25 (by decide) (fun c9 => ?_) (fun c9 => ?_)
  · have fc9 := zc_ngt ev8 (rfl : (w5).toInt = _) (rfl : (w7).toInt = _) (Int32.not_lt.mpr c9)
    refine lv_iconst (v := 0) hx hb dX12_doPart_32 (by decide) ?_
    exact W.zret (v := 0) hx hb hr rfl (fun t ht9 hW => ⟨0, rfl, ⟨by decide, by decide⟩, ht9⟩) (fun q hq => by cases hq) dX12_doPart_33
  · have fc9 := zc_gt ev8 (rfl : (w5).toInt = _) (rfl : (w7).toInt = _) (Int32.not_le.mp c9)
    refine lv_iconst (v := 1) hx hb dX12_doPart_28 (by decide) ?_
    refine lv_goto (tgt := 33) hx hb dX12_doPart_29 (by decide) ?_
    exact W.zret (v := 1) hx hb hr rfl (fun t ht9 hW => ⟨1, rfl, ⟨by decide, by decide⟩, ht9⟩) (fun q hq => by cases hq) dX12_doPart_33
/-! ===== m3 ===== -/
set_option maxRecDepth 100000 in
theorem m_47 : Cond.selects RX12 yX12_here yX12_here ∈ tb := tb_in 47 (by decide +kernel) rfl
theorem m_1171 : Cond.fieldLink RX12 83 "SilkHouseModel" "text" "[I" ∈ tb := mb_5_5 _ (List.mem_of_getElem? (i := 12) rfl)
theorem m_1172 : Cond.fieldLink RX12 249 "SilkHouseModel" "textSize" "I" ∈ tb := mb_5_5 _ (List.mem_of_getElem? (i := 13) rfl)
theorem m_1173 : Cond.fieldLink RX12 254 "SilkHouseModel" "at" "I" ∈ tb := mb_5_5 _ (List.mem_of_getElem? (i := 14) rfl)
theorem m_1174 : Cond.fieldLink RX12 257 "SilkHouseModel" "faultOf" "I" ∈ tb := mb_5_5 _ (List.mem_of_getElem? (i := 15) rfl)
theorem m_1175 : Cond.fieldLink RX12 86 "SilkHouseModel" "place" "I" ∈ tb := mb_5_5 _ (List.mem_of_getElem? (i := 16) rfl)
theorem m_1176 : Cond.fieldLink RX12 264 "SilkHouseModel" "from" "I" ∈ tb := mb_5_5 _ (List.mem_of_getElem? (i := 17) rfl)
theorem m_1452 : Cond.constantLong RX12 247 (8) ∈ tb := mb_6_3 _ (List.mem_of_getElem? (i := 10) rfl)
theorem m_1453 : Cond.constantLong RX12 252 (255) ∈ tb := mb_6_3 _ (List.mem_of_getElem? (i := 11) rfl)
theorem m_1458 : Cond.methodLink RX12 260 yX12_here ∈ tb := mb_6_3 _ (List.mem_of_getElem? (i := 16) rfl)
theorem m_1460 : Cond.instanceMethod yX12_here ∈ tb := mb_6_3 _ (List.mem_of_getElem? (i := 17) rfl)
theorem m_1461 : Cond.code yX12_here cX12_here 1 (some .int) ∈ tb := mb_6_3 _ (List.mem_of_getElem? (i := 18) rfl)
theorem hd_X12_here_v : yX12_here.cls = RX12 ∧ yX12_here.cls ≠ "java/lang/invoke/MethodHandle" ∧ yX12_here.cls ≠ "java/lang/invoke/VarHandle" ∧ (parseMethodDescriptor yX12_here.desc).map (fun d => d.parameters.length) = some 0 := by decide +kernel
set_option maxRecDepth 100000 in
theorem dvX12_atFirst_0 : ([(0, .iload_n 0, 1), (1, .tableswitch 47 0 4 #[35, 38, 40, 42, 44], 35), (36, .bipush 110, 2), (38, .ireturn, 1), (39, .iconst 3, 1), (40, .ireturn, 1), (41, .iconst 5, 1), (42, .ireturn, 1), (43, .iconst 2, 1), (44, .ireturn, 1), (45, .bipush 10, 2), (47, .ireturn, 1), (48, .iconst 0, 1), (49, .ireturn, 1)] : List (Nat × Instr × Nat)).all (fun q => decide (decode cX12_atFirst q.1 = .ok (q.2.1, q.2.2))) = true := by decide +kernel
theorem dX12_atFirst_0 : decode cX12_atFirst 0 = .ok (.iload_n 0, 1) := all_at dvX12_atFirst_0 0 rfl
theorem dX12_atFirst_1 : decode cX12_atFirst 1 = .ok (.tableswitch 47 0 4 #[35, 38, 40, 42, 44], 35) := all_at dvX12_atFirst_0 1 rfl
theorem dX12_atFirst_36 : decode cX12_atFirst 36 = .ok (.bipush 110, 2) := all_at dvX12_atFirst_0 2 rfl
theorem dX12_atFirst_38 : decode cX12_atFirst 38 = .ok (.ireturn, 1) := all_at dvX12_atFirst_0 3 rfl
theorem dX12_atFirst_39 : decode cX12_atFirst 39 = .ok (.iconst 3, 1) := all_at dvX12_atFirst_0 4 rfl
theorem dX12_atFirst_40 : decode cX12_atFirst 40 = .ok (.ireturn, 1) := all_at dvX12_atFirst_0 5 rfl
theorem dX12_atFirst_41 : decode cX12_atFirst 41 = .ok (.iconst 5, 1) := all_at dvX12_atFirst_0 6 rfl
theorem dX12_atFirst_42 : decode cX12_atFirst 42 = .ok (.ireturn, 1) := all_at dvX12_atFirst_0 7 rfl
theorem dX12_atFirst_43 : decode cX12_atFirst 43 = .ok (.iconst 2, 1) := all_at dvX12_atFirst_0 8 rfl
theorem dX12_atFirst_44 : decode cX12_atFirst 44 = .ok (.ireturn, 1) := all_at dvX12_atFirst_0 9 rfl
theorem dX12_atFirst_45 : decode cX12_atFirst 45 = .ok (.bipush 10, 2) := all_at dvX12_atFirst_0 10 rfl
theorem dX12_atFirst_47 : decode cX12_atFirst 47 = .ok (.ireturn, 1) := all_at dvX12_atFirst_0 11 rfl
theorem dX12_atFirst_48 : decode cX12_atFirst 48 = .ok (.iconst 0, 1) := all_at dvX12_atFirst_0 12 rfl
theorem dX12_atFirst_49 : decode cX12_atFirst 49 = .ok (.ireturn, 1) := all_at dvX12_atFirst_0 13 rfl
theorem dX12_fault_0 : decode cX12_fault 0 = .ok (.aload_n 0, 1) := by decide +kernel
theorem dX12_fault_1 : decode cX12_fault 1 = .ok (.getfield 86, 3) := by decide +kernel
theorem dX12_fault_4 : decode cX12_fault 4 = .ok (.ireturn, 1) := by decide +kernel
set_option maxRecDepth 100000 in
theorem dvX12_feed_0 : ([(0, .iload_n 1, 1), (1, .i2l, 1), (2, .lconst 1, 1), (3, .ldc2_w 247, 3), (6, .invokestatic 167, 3), (9, .ifCond .ne 6, 3), (15, .aload_n 0, 1), (16, .getfield 249, 3), (19, .iload_n 1, 1), (20, .iadd, 1), (21, .sipush 200, 3), (24, .if_icmp .le 6, 3), (30, .iload_n 1, 1), (31, .iconst 1, 1), (32, .isub, 1), (33, .istore 4, 2), (35, .iload 4, 2), (37, .ifCond .lt 40, 3), (40, .aload_n 0, 1), (41, .getfield 83, 3), (44, .aload_n 0, 1), (45, .getfield 249, 3), (48, .lload_n 2, 1), (49, .bipush 8, 2)] : List (Nat × Instr × Nat)).all (fun q => decide (decode cX12_feed q.1 = .ok (q.2.1, q.2.2))) = true := by decide +kernel
theorem dX12_feed_0 : decode cX12_feed 0 = .ok (.iload_n 1, 1) := all_at dvX12_feed_0 0 rfl
theorem dX12_feed_1 : decode cX12_feed 1 = .ok (.i2l, 1) := all_at dvX12_feed_0 1 rfl
theorem dX12_feed_2 : decode cX12_feed 2 = .ok (.lconst 1, 1) := all_at dvX12_feed_0 2 rfl
theorem dX12_feed_3 : decode cX12_feed 3 = .ok (.ldc2_w 247, 3) := all_at dvX12_feed_0 3 rfl
theorem dX12_feed_6 : decode cX12_feed 6 = .ok (.invokestatic 167, 3) := all_at dvX12_feed_0 4 rfl
theorem dX12_feed_9 : decode cX12_feed 9 = .ok (.ifCond .ne 6, 3) := all_at dvX12_feed_0 5 rfl
theorem dX12_feed_15 : decode cX12_feed 15 = .ok (.aload_n 0, 1) := all_at dvX12_feed_0 6 rfl
theorem dX12_feed_16 : decode cX12_feed 16 = .ok (.getfield 249, 3) := all_at dvX12_feed_0 7 rfl
theorem dX12_feed_19 : decode cX12_feed 19 = .ok (.iload_n 1, 1) := all_at dvX12_feed_0 8 rfl
theorem dX12_feed_20 : decode cX12_feed 20 = .ok (.iadd, 1) := all_at dvX12_feed_0 9 rfl
theorem dX12_feed_21 : decode cX12_feed 21 = .ok (.sipush 200, 3) := all_at dvX12_feed_0 10 rfl
theorem dX12_feed_24 : decode cX12_feed 24 = .ok (.if_icmp .le 6, 3) := all_at dvX12_feed_0 11 rfl
theorem dX12_feed_30 : decode cX12_feed 30 = .ok (.iload_n 1, 1) := all_at dvX12_feed_0 12 rfl
theorem dX12_feed_31 : decode cX12_feed 31 = .ok (.iconst 1, 1) := all_at dvX12_feed_0 13 rfl
theorem dX12_feed_32 : decode cX12_feed 32 = .ok (.isub, 1) := all_at dvX12_feed_0 14 rfl
theorem dX12_feed_33 : decode cX12_feed 33 = .ok (.istore 4, 2) := all_at dvX12_feed_0 15 rfl
theorem dX12_feed_35 : decode cX12_feed 35 = .ok (.iload 4, 2) := all_at dvX12_feed_0 16 rfl
theorem dX12_feed_37 : decode cX12_feed 37 = .ok (.ifCond .lt 40, 3) := all_at dvX12_feed_0 17 rfl
theorem dX12_feed_40 : decode cX12_feed 40 = .ok (.aload_n 0, 1) := all_at dvX12_feed_0 18 rfl
theorem dX12_feed_41 : decode cX12_feed 41 = .ok (.getfield 83, 3) := all_at dvX12_feed_0 19 rfl
theorem dX12_feed_44 : decode cX12_feed 44 = .ok (.aload_n 0, 1) := all_at dvX12_feed_0 20 rfl
theorem dX12_feed_45 : decode cX12_feed 45 = .ok (.getfield 249, 3) := all_at dvX12_feed_0 21 rfl
theorem dX12_feed_48 : decode cX12_feed 48 = .ok (.lload_n 2, 1) := all_at dvX12_feed_0 22 rfl
theorem dX12_feed_49 : decode cX12_feed 49 = .ok (.bipush 8, 2) := all_at dvX12_feed_0 23 rfl
set_option maxRecDepth 100000 in
theorem dvX12_feed_51 : ([(51, .iload 4, 2), (53, .imul, 1), (54, .lshr, 1), (55, .ldc2_w 252, 3), (58, .land, 1), (59, .l2i, 1), (60, .iastore, 1)] : List (Nat × Instr × Nat)).all (fun q => decide (decode cX12_feed q.1 = .ok (q.2.1, q.2.2))) = true := by decide +kernel
theorem dX12_feed_51 : decode cX12_feed 51 = .ok (.iload 4, 2) := all_at dvX12_feed_51 0 rfl
theorem dX12_feed_53 : decode cX12_feed 53 = .ok (.imul, 1) := all_at dvX12_feed_51 1 rfl
theorem dX12_feed_54 : decode cX12_feed 54 = .ok (.lshr, 1) := all_at dvX12_feed_51 2 rfl
theorem dX12_feed_55 : decode cX12_feed 55 = .ok (.ldc2_w 252, 3) := all_at dvX12_feed_51 3 rfl
theorem dX12_feed_58 : decode cX12_feed 58 = .ok (.land, 1) := all_at dvX12_feed_51 4 rfl
theorem dX12_feed_59 : decode cX12_feed 59 = .ok (.l2i, 1) := all_at dvX12_feed_51 5 rfl
theorem dX12_feed_60 : decode cX12_feed 60 = .ok (.iastore, 1) := all_at dvX12_feed_51 6 rfl
set_option maxRecDepth 100000 in
theorem dvX12_here_0 : ([(0, .aload_n 0, 1), (1, .getfield 254, 3), (4, .aload_n 0, 1), (5, .getfield 249, 3), (8, .if_icmp .ge 30, 3), (11, .aload_n 0, 1), (12, .getfield 83, 3), (15, .aload_n 0, 1), (16, .getfield 254, 3), (19, .iaload, 1), (20, .bipush 32, 2), (22, .if_icmp .ne 16, 3), (25, .aload_n 0, 1), (26, .dup, 1), (27, .getfield 254, 3), (30, .iconst 1, 1), (31, .iadd, 1), (32, .putfield 254, 3), (35, .goto (-35), 3), (38, .aload_n 0, 1), (39, .getfield 254, 3), (42, .aload_n 0, 1), (43, .getfield 249, 3), (46, .if_icmp .ge 15, 3)] : List (Nat × Instr × Nat)).all (fun q => decide (decode cX12_here q.1 = .ok (q.2.1, q.2.2))) = true := by decide +kernel
theorem dX12_here_0 : decode cX12_here 0 = .ok (.aload_n 0, 1) := all_at dvX12_here_0 0 rfl
theorem dX12_here_1 : decode cX12_here 1 = .ok (.getfield 254, 3) := all_at dvX12_here_0 1 rfl
theorem dX12_here_4 : decode cX12_here 4 = .ok (.aload_n 0, 1) := all_at dvX12_here_0 2 rfl
theorem dX12_here_5 : decode cX12_here 5 = .ok (.getfield 249, 3) := all_at dvX12_here_0 3 rfl
theorem dX12_here_8 : decode cX12_here 8 = .ok (.if_icmp .ge 30, 3) := all_at dvX12_here_0 4 rfl
theorem dX12_here_11 : decode cX12_here 11 = .ok (.aload_n 0, 1) := all_at dvX12_here_0 5 rfl
theorem dX12_here_12 : decode cX12_here 12 = .ok (.getfield 83, 3) := all_at dvX12_here_0 6 rfl
theorem dX12_here_15 : decode cX12_here 15 = .ok (.aload_n 0, 1) := all_at dvX12_here_0 7 rfl
theorem dX12_here_16 : decode cX12_here 16 = .ok (.getfield 254, 3) := all_at dvX12_here_0 8 rfl
theorem dX12_here_19 : decode cX12_here 19 = .ok (.iaload, 1) := all_at dvX12_here_0 9 rfl
theorem dX12_here_20 : decode cX12_here 20 = .ok (.bipush 32, 2) := all_at dvX12_here_0 10 rfl
theorem dX12_here_22 : decode cX12_here 22 = .ok (.if_icmp .ne 16, 3) := all_at dvX12_here_0 11 rfl
theorem dX12_here_25 : decode cX12_here 25 = .ok (.aload_n 0, 1) := all_at dvX12_here_0 12 rfl
theorem dX12_here_26 : decode cX12_here 26 = .ok (.dup, 1) := all_at dvX12_here_0 13 rfl
theorem dX12_here_27 : decode cX12_here 27 = .ok (.getfield 254, 3) := all_at dvX12_here_0 14 rfl
theorem dX12_here_30 : decode cX12_here 30 = .ok (.iconst 1, 1) := all_at dvX12_here_0 15 rfl
theorem dX12_here_31 : decode cX12_here 31 = .ok (.iadd, 1) := all_at dvX12_here_0 16 rfl
theorem dX12_here_32 : decode cX12_here 32 = .ok (.putfield 254, 3) := all_at dvX12_here_0 17 rfl
theorem dX12_here_35 : decode cX12_here 35 = .ok (.goto (-35), 3) := all_at dvX12_here_0 18 rfl
theorem dX12_here_38 : decode cX12_here 38 = .ok (.aload_n 0, 1) := all_at dvX12_here_0 19 rfl
theorem dX12_here_39 : decode cX12_here 39 = .ok (.getfield 254, 3) := all_at dvX12_here_0 20 rfl
theorem dX12_here_42 : decode cX12_here 42 = .ok (.aload_n 0, 1) := all_at dvX12_here_0 21 rfl
theorem dX12_here_43 : decode cX12_here 43 = .ok (.getfield 249, 3) := all_at dvX12_here_0 22 rfl
theorem dX12_here_46 : decode cX12_here 46 = .ok (.if_icmp .ge 15, 3) := all_at dvX12_here_0 23 rfl
set_option maxRecDepth 100000 in
theorem dvX12_here_49 : ([(49, .aload_n 0, 1), (50, .getfield 83, 3), (53, .aload_n 0, 1), (54, .getfield 254, 3), (57, .iaload, 1), (58, .goto 4, 3), (61, .iconst (-1), 1), (62, .ireturn, 1)] : List (Nat × Instr × Nat)).all (fun q => decide (decode cX12_here q.1 = .ok (q.2.1, q.2.2))) = true := by decide +kernel
theorem dX12_here_49 : decode cX12_here 49 = .ok (.aload_n 0, 1) := all_at dvX12_here_49 0 rfl
theorem dX12_here_50 : decode cX12_here 50 = .ok (.getfield 83, 3) := all_at dvX12_here_49 1 rfl
theorem dX12_here_53 : decode cX12_here 53 = .ok (.aload_n 0, 1) := all_at dvX12_here_49 2 rfl
theorem dX12_here_54 : decode cX12_here 54 = .ok (.getfield 254, 3) := all_at dvX12_here_49 3 rfl
theorem dX12_here_57 : decode cX12_here 57 = .ok (.iaload, 1) := all_at dvX12_here_49 4 rfl
theorem dX12_here_58 : decode cX12_here 58 = .ok (.goto 4, 3) := all_at dvX12_here_49 5 rfl
theorem dX12_here_61 : decode cX12_here 61 = .ok (.iconst (-1), 1) := all_at dvX12_here_49 6 rfl
theorem dX12_here_62 : decode cX12_here 62 = .ok (.ireturn, 1) := all_at dvX12_here_49 7 rfl
set_option maxRecDepth 100000 in
theorem dvX12_leastOf_0 : ([(0, .iload_n 0, 1), (1, .iconst 1, 1), (2, .if_icmp .eq 8, 3), (5, .iload_n 0, 1), (6, .iconst 3, 1), (7, .if_icmp .ne 7, 3), (10, .iconst 1, 1), (11, .goto 4, 3), (14, .iconst 0, 1), (15, .ireturn, 1)] : List (Nat × Instr × Nat)).all (fun q => decide (decode cX12_leastOf q.1 = .ok (q.2.1, q.2.2))) = true := by decide +kernel
theorem dX12_leastOf_0 : decode cX12_leastOf 0 = .ok (.iload_n 0, 1) := all_at dvX12_leastOf_0 0 rfl
theorem dX12_leastOf_1 : decode cX12_leastOf 1 = .ok (.iconst 1, 1) := all_at dvX12_leastOf_0 1 rfl
theorem dX12_leastOf_2 : decode cX12_leastOf 2 = .ok (.if_icmp .eq 8, 3) := all_at dvX12_leastOf_0 2 rfl
theorem dX12_leastOf_5 : decode cX12_leastOf 5 = .ok (.iload_n 0, 1) := all_at dvX12_leastOf_0 3 rfl
theorem dX12_leastOf_6 : decode cX12_leastOf 6 = .ok (.iconst 3, 1) := all_at dvX12_leastOf_0 4 rfl
theorem dX12_leastOf_7 : decode cX12_leastOf 7 = .ok (.if_icmp .ne 7, 3) := all_at dvX12_leastOf_0 5 rfl
theorem dX12_leastOf_10 : decode cX12_leastOf 10 = .ok (.iconst 1, 1) := all_at dvX12_leastOf_0 6 rfl
theorem dX12_leastOf_11 : decode cX12_leastOf 11 = .ok (.goto 4, 3) := all_at dvX12_leastOf_0 7 rfl
theorem dX12_leastOf_14 : decode cX12_leastOf 14 = .ok (.iconst 0, 1) := all_at dvX12_leastOf_0 8 rfl
theorem dX12_leastOf_15 : decode cX12_leastOf 15 = .ok (.ireturn, 1) := all_at dvX12_leastOf_0 9 rfl
set_option maxRecDepth 100000 in
theorem dvX12_mostOf_0 : ([(0, .iload_n 0, 1), (1, .tableswitch 44 0 3 #[31, 35, 38, 42], 31), (32, .sipush 300, 3), (35, .ireturn, 1), (36, .bipush 9, 2), (38, .ireturn, 1), (39, .sipush 200, 3), (42, .ireturn, 1), (43, .iconst 2, 1), (44, .ireturn, 1), (45, .sipush 999, 3), (48, .ireturn, 1)] : List (Nat × Instr × Nat)).all (fun q => decide (decode cX12_mostOf q.1 = .ok (q.2.1, q.2.2))) = true := by decide +kernel
theorem dX12_mostOf_0 : decode cX12_mostOf 0 = .ok (.iload_n 0, 1) := all_at dvX12_mostOf_0 0 rfl
theorem dX12_mostOf_1 : decode cX12_mostOf 1 = .ok (.tableswitch 44 0 3 #[31, 35, 38, 42], 31) := all_at dvX12_mostOf_0 1 rfl
theorem dX12_mostOf_32 : decode cX12_mostOf 32 = .ok (.sipush 300, 3) := all_at dvX12_mostOf_0 2 rfl
theorem dX12_mostOf_35 : decode cX12_mostOf 35 = .ok (.ireturn, 1) := all_at dvX12_mostOf_0 3 rfl
theorem dX12_mostOf_36 : decode cX12_mostOf 36 = .ok (.bipush 9, 2) := all_at dvX12_mostOf_0 4 rfl
theorem dX12_mostOf_38 : decode cX12_mostOf 38 = .ok (.ireturn, 1) := all_at dvX12_mostOf_0 5 rfl
theorem dX12_mostOf_39 : decode cX12_mostOf 39 = .ok (.sipush 200, 3) := all_at dvX12_mostOf_0 6 rfl
theorem dX12_mostOf_42 : decode cX12_mostOf 42 = .ok (.ireturn, 1) := all_at dvX12_mostOf_0 7 rfl
theorem dX12_mostOf_43 : decode cX12_mostOf 43 = .ok (.iconst 2, 1) := all_at dvX12_mostOf_0 8 rfl
theorem dX12_mostOf_44 : decode cX12_mostOf 44 = .ok (.ireturn, 1) := all_at dvX12_mostOf_0 9 rfl
theorem dX12_mostOf_45 : decode cX12_mostOf 45 = .ok (.sipush 999, 3) := all_at dvX12_mostOf_0 10 rfl
theorem dX12_mostOf_48 : decode cX12_mostOf 48 = .ok (.ireturn, 1) := all_at dvX12_mostOf_0 11 rfl
set_option maxRecDepth 100000 in
theorem dvX12_takeWord_0 : ([(0, .aload_n 0, 1), (1, .invokevirtual 260, 3), (4, .istore_n 1, 1), (5, .aload_n 0, 1), (6, .aload_n 0, 1), (7, .getfield 254, 3), (10, .putfield 264, 3), (13, .aload_n 0, 1), (14, .getfield 254, 3), (17, .aload_n 0, 1), (18, .getfield 249, 3), (21, .if_icmp .ge 38, 3), (59, .aload_n 0, 1), (60, .aload_n 0, 1), (61, .getfield 254, 3), (64, .aload_n 0, 1), (65, .getfield 264, 3), (68, .isub, 1), (69, .putfield 271, 3)] : List (Nat × Instr × Nat)).all (fun q => decide (decode cX12_takeWord q.1 = .ok (q.2.1, q.2.2))) = true := by decide +kernel
theorem dX12_takeWord_0 : decode cX12_takeWord 0 = .ok (.aload_n 0, 1) := all_at dvX12_takeWord_0 0 rfl
theorem dX12_takeWord_1 : decode cX12_takeWord 1 = .ok (.invokevirtual 260, 3) := all_at dvX12_takeWord_0 1 rfl
theorem dX12_takeWord_4 : decode cX12_takeWord 4 = .ok (.istore_n 1, 1) := all_at dvX12_takeWord_0 2 rfl
theorem dX12_takeWord_5 : decode cX12_takeWord 5 = .ok (.aload_n 0, 1) := all_at dvX12_takeWord_0 3 rfl
theorem dX12_takeWord_6 : decode cX12_takeWord 6 = .ok (.aload_n 0, 1) := all_at dvX12_takeWord_0 4 rfl
theorem dX12_takeWord_7 : decode cX12_takeWord 7 = .ok (.getfield 254, 3) := all_at dvX12_takeWord_0 5 rfl
theorem dX12_takeWord_10 : decode cX12_takeWord 10 = .ok (.putfield 264, 3) := all_at dvX12_takeWord_0 6 rfl
theorem dX12_takeWord_13 : decode cX12_takeWord 13 = .ok (.aload_n 0, 1) := all_at dvX12_takeWord_0 7 rfl
theorem dX12_takeWord_14 : decode cX12_takeWord 14 = .ok (.getfield 254, 3) := all_at dvX12_takeWord_0 8 rfl
theorem dX12_takeWord_17 : decode cX12_takeWord 17 = .ok (.aload_n 0, 1) := all_at dvX12_takeWord_0 9 rfl
theorem dX12_takeWord_18 : decode cX12_takeWord 18 = .ok (.getfield 249, 3) := all_at dvX12_takeWord_0 10 rfl
theorem dX12_takeWord_21 : decode cX12_takeWord 21 = .ok (.if_icmp .ge 38, 3) := all_at dvX12_takeWord_0 11 rfl
theorem dX12_takeWord_59 : decode cX12_takeWord 59 = .ok (.aload_n 0, 1) := all_at dvX12_takeWord_0 12 rfl
theorem dX12_takeWord_60 : decode cX12_takeWord 60 = .ok (.aload_n 0, 1) := all_at dvX12_takeWord_0 13 rfl
theorem dX12_takeWord_61 : decode cX12_takeWord 61 = .ok (.getfield 254, 3) := all_at dvX12_takeWord_0 14 rfl
theorem dX12_takeWord_64 : decode cX12_takeWord 64 = .ok (.aload_n 0, 1) := all_at dvX12_takeWord_0 15 rfl
theorem dX12_takeWord_65 : decode cX12_takeWord 65 = .ok (.getfield 264, 3) := all_at dvX12_takeWord_0 16 rfl
theorem dX12_takeWord_68 : decode cX12_takeWord 68 = .ok (.isub, 1) := all_at dvX12_takeWord_0 17 rfl
theorem dX12_takeWord_69 : decode cX12_takeWord 69 = .ok (.putfield 271, 3) := all_at dvX12_takeWord_0 18 rfl
set_option maxRecDepth 100000 in
theorem dvX12_want_0 : ([(0, .iload_n 1, 1), (1, .ifCond .ne 20, 3), (4, .aload_n 0, 1), (5, .getfield 257, 3), (8, .ifCond .ne 13, 3), (11, .aload_n 0, 1), (12, .iload_n 2, 1), (13, .putfield 257, 3), (16, .aload_n 0, 1), (17, .iload_n 3, 1), (18, .putfield 86, 3), (21, .aload_n 0, 1), (22, .getfield 257, 3), (25, .ifCond .ne 7, 3), (28, .iconst 1, 1), (29, .goto 4, 3), (32, .iconst 0, 1), (33, .ireturn, 1)] : List (Nat × Instr × Nat)).all (fun q => decide (decode cX12_want q.1 = .ok (q.2.1, q.2.2))) = true := by decide +kernel
theorem dX12_want_0 : decode cX12_want 0 = .ok (.iload_n 1, 1) := all_at dvX12_want_0 0 rfl
theorem dX12_want_1 : decode cX12_want 1 = .ok (.ifCond .ne 20, 3) := all_at dvX12_want_0 1 rfl
theorem dX12_want_4 : decode cX12_want 4 = .ok (.aload_n 0, 1) := all_at dvX12_want_0 2 rfl
theorem dX12_want_5 : decode cX12_want 5 = .ok (.getfield 257, 3) := all_at dvX12_want_0 3 rfl
theorem dX12_want_8 : decode cX12_want 8 = .ok (.ifCond .ne 13, 3) := all_at dvX12_want_0 4 rfl
theorem dX12_want_11 : decode cX12_want 11 = .ok (.aload_n 0, 1) := all_at dvX12_want_0 5 rfl
theorem dX12_want_12 : decode cX12_want 12 = .ok (.iload_n 2, 1) := all_at dvX12_want_0 6 rfl
theorem dX12_want_13 : decode cX12_want 13 = .ok (.putfield 257, 3) := all_at dvX12_want_0 7 rfl
theorem dX12_want_16 : decode cX12_want 16 = .ok (.aload_n 0, 1) := all_at dvX12_want_0 8 rfl
theorem dX12_want_17 : decode cX12_want 17 = .ok (.iload_n 3, 1) := all_at dvX12_want_0 9 rfl
theorem dX12_want_18 : decode cX12_want 18 = .ok (.putfield 86, 3) := all_at dvX12_want_0 10 rfl
theorem dX12_want_21 : decode cX12_want 21 = .ok (.aload_n 0, 1) := all_at dvX12_want_0 11 rfl
theorem dX12_want_22 : decode cX12_want 22 = .ok (.getfield 257, 3) := all_at dvX12_want_0 12 rfl
theorem dX12_want_25 : decode cX12_want 25 = .ok (.ifCond .ne 7, 3) := all_at dvX12_want_0 13 rfl
theorem dX12_want_28 : decode cX12_want 28 = .ok (.iconst 1, 1) := all_at dvX12_want_0 14 rfl
theorem dX12_want_29 : decode cX12_want 29 = .ok (.goto 4, 3) := all_at dvX12_want_0 15 rfl
theorem dX12_want_32 : decode cX12_want 32 = .ok (.iconst 0, 1) := all_at dvX12_want_0 16 rfl
theorem dX12_want_33 : decode cX12_want 33 = .ok (.ireturn, 1) := all_at dvX12_want_0 17 rfl
theorem sw_0_3 (x : Int32) : (x.toInt < 0 ∨ 3 < x.toInt) ∨ x = 0 ∨ x = 1 ∨ x = 2 ∨ x = 3 := by
  by_cases h : x.toInt < 0 ∨ 3 < x.toInt
  · exact Or.inl h
  · right
    have h2 : x.toInt = 0 ∨ x.toInt = 1 ∨ x.toInt = 2 ∨ x.toInt = 3 := by omega
    rcases h2 with h2 | h2 | h2 | h2
    · exact Or.inl (z_of (by decide) h2)
    · exact Or.inr (Or.inl (z_of (by decide) h2))
    · exact Or.inr (Or.inr (Or.inl (z_of (by decide) h2)))
    · exact Or.inr (Or.inr (Or.inr (z_of (by decide) h2)))
theorem sw_0_4 (x : Int32) : (x.toInt < 0 ∨ 4 < x.toInt) ∨ x = 0 ∨ x = 1 ∨ x = 2 ∨ x = 3 ∨ x = 4 := by
  by_cases h : x.toInt < 0 ∨ 4 < x.toInt
  · exact Or.inl h
  · right
    have h2 : x.toInt = 0 ∨ x.toInt = 1 ∨ x.toInt = 2 ∨ x.toInt = 3 ∨ x.toInt = 4 := by omega
    rcases h2 with h2 | h2 | h2 | h2 | h2
    · exact Or.inl (z_of (by decide) h2)
    · exact Or.inr (Or.inl (z_of (by decide) h2))
    · exact Or.inr (Or.inr (Or.inl (z_of (by decide) h2)))
    · exact Or.inr (Or.inr (Or.inr (Or.inl (z_of (by decide) h2))))
    · exact Or.inr (Or.inr (Or.inr (Or.inr (z_of (by decide) h2))))
set_option maxHeartbeats 4000000 in
set_option maxRecDepth 100000 in
/-- X12_atFirst -/
theorem c_X12_atFirst (l : Launch) (dC : Nat → ClassId) (dI : Nat → Nat → Nat) (a : Int32) : Met l yX12_atFirst (wc yX12_atFirst cX12_atFirst 1 (some .int)) ({ frames := 0, cells := 0, slots := 0, locals := 0 } : Room) (pR (dC, dI) classes [] [] [.int a]) (vp_Si (fun r => 0 ≤ r.toInt ∧ r.toInt ≤ 110)) 0 0 (fun _ => False) := by
  refine Met.ofW (cc := cX12_atFirst) (maxL := 1) (ret := (some .int)) (by decide) rfl ?_
  intro p e s m args below meth c s₁ B hml hv
  obtain ⟨rfl, hP, hK⟩ := hv
  have hx := B.exec
  have hb := B.bytes
  have hr := B.returns
  have ht := tb_tl (atoms_spec (ws := wc yX12_atFirst cX12_atFirst 1 (some .int)) B.pre)
  have hown : s.vm.findClass RX12 = some m.cls := findClass_of_methodNamed B.named
  have hlocks := B.notSynchronized
  have hl := lv_entry [.int a] (n := 1) (Nat.le_of_ble_eq_true rfl)
  rw [lg_entry_eq]
  generalize (lg_sl [.int a] ++ List.replicate (1 - (lg_sl [.int a]).length) Slot.unset).toArray = ls at hl ⊢
  have hl : lv_has ls 1 [(0, .int a)] := hl
  refine lv_iload_n hx hb dX12_atFirst_0 rfl (lv_at hl 0 rfl) ?_
  rcases sw_0_4 a with h1 | rfl | rfl | rfl | rfl | rfl
  · refine lv_tableOut (tgt := 48) hx hb dX12_atFirst_1 h1 (by decide) ?_
    refine lv_iconst (v := 0) hx hb dX12_atFirst_48 (by decide) ?_
    exact W.iret (v := 0) hx hb hr (fun t ht9 hW => ⟨0, rfl, ⟨by decide, by decide⟩, ht9⟩) (fun q hq => by cases hq) dX12_atFirst_49
  · refine lv_tableIn (tgt := 36) (off := 35) hx hb dX12_atFirst_1 (by decide) (by decide) rfl (by decide) ?_
    refine lv_bipush (v := 110) hx hb dX12_atFirst_36 (by decide) ?_
    exact W.iret (v := 110) hx hb hr (fun t ht9 hW => ⟨110, rfl, ⟨by decide, by decide⟩, ht9⟩) (fun q hq => by cases hq) dX12_atFirst_38
  · refine lv_tableIn (tgt := 39) (off := 38) hx hb dX12_atFirst_1 (by decide) (by decide) rfl (by decide) ?_
    refine lv_iconst (v := 3) hx hb dX12_atFirst_39 (by decide) ?_
    exact W.iret (v := 3) hx hb hr (fun t ht9 hW => ⟨3, rfl, ⟨by decide, by decide⟩, ht9⟩) (fun q hq => by cases hq) dX12_atFirst_40
  · refine lv_tableIn (tgt := 41) (off := 40) hx hb dX12_atFirst_1 (by decide) (by decide) rfl (by decide) ?_
    refine lv_iconst (v := 5) hx hb dX12_atFirst_41 (by decide) ?_
    exact W.iret (v := 5) hx hb hr (fun t ht9 hW => ⟨5, rfl, ⟨by decide, by decide⟩, ht9⟩) (fun q hq => by cases hq) dX12_atFirst_42
  · refine lv_tableIn (tgt := 43) (off := 42) hx hb dX12_atFirst_1 (by decide) (by decide) rfl (by decide) ?_
    refine lv_iconst (v := 2) hx hb dX12_atFirst_43 (by decide) ?_
    exact W.iret (v := 2) hx hb hr (fun t ht9 hW => ⟨2, rfl, ⟨by decide, by decide⟩, ht9⟩) (fun q hq => by cases hq) dX12_atFirst_44
  · refine lv_tableIn (tgt := 45) (off := 44) hx hb dX12_atFirst_1 (by decide) (by decide) rfl (by decide) ?_
    refine lv_bipush (v := 10) hx hb dX12_atFirst_45 (by decide) ?_
    exact W.iret (v := 10) hx hb hr (fun t ht9 hW => ⟨10, rfl, ⟨by decide, by decide⟩, ht9⟩) (fun q hq => by cases hq) dX12_atFirst_47
