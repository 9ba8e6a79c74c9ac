/-! ===== m5 ===== -/
theorem m_1191 : Cond.fieldLink RX12 112 "SilkHouseModel" "thread" "[I" ∈ tb := mb_5_6 _ (List.mem_of_getElem? (i := 8) rfl)
theorem m_1193 : Cond.fieldLink RX12 118 "SilkHouseModel" "turn" "[I" ∈ tb := mb_5_6 _ (List.mem_of_getElem? (i := 10) rfl)
theorem m_1194 : Cond.fieldLink RX12 121 "SilkHouseModel" "gumLow" "[I" ∈ tb := mb_5_6 _ (List.mem_of_getElem? (i := 11) rfl)
theorem m_1195 : Cond.fieldLink RX12 124 "SilkHouseModel" "ashLow" "[I" ∈ tb := mb_5_6 _ (List.mem_of_getElem? (i := 12) rfl)
theorem m_1196 : Cond.fieldLink RX12 399 "SilkHouseModel" "loads" "I" ∈ tb := mb_5_6 _ (List.mem_of_getElem? (i := 13) rfl)
theorem m_1197 : Cond.fieldLink RX12 127 "SilkHouseModel" "minutes" "[I" ∈ tb := mb_5_6 _ (List.mem_of_getElem? (i := 14) rfl)
set_option maxRecDepth 100000 in
theorem dvX12_burnt_0 : ([(0, .aload_n 0, 1), (1, .iload_n 1, 1), (2, .invokevirtual 183, 3), (5, .ifCond .eq 6, 3), (8, .ldc 187, 2), (10, .ireturn, 1), (11, .iload_n 2, 1), (12, .i2l, 1), (13, .lconst 0, 1), (14, .lconst 1, 1), (15, .invokestatic 167, 3), (18, .ifCond .eq 23, 3), (21, .iload_n 3, 1), (22, .i2l, 1), (23, .lconst 0, 1), (24, .iload 4, 2), (26, .i2l, 1), (27, .invokestatic 167, 3), (30, .ifCond .eq 11, 3), (33, .iload 4, 2), (35, .sipush 999, 3), (38, .if_icmp .le 6, 3), (41, .ldc 178, 2), (43, .ireturn, 1)] : List (Nat × Instr × Nat)).all (fun q => decide (decode cX12_burnt q.1 = .ok (q.2.1, q.2.2))) = true := by decide +kernel
theorem dX12_burnt_0 : decode cX12_burnt 0 = .ok (.aload_n 0, 1) := all_at dvX12_burnt_0 0 rfl
theorem dX12_burnt_1 : decode cX12_burnt 1 = .ok (.iload_n 1, 1) := all_at dvX12_burnt_0 1 rfl
theorem dX12_burnt_2 : decode cX12_burnt 2 = .ok (.invokevirtual 183, 3) := all_at dvX12_burnt_0 2 rfl
theorem dX12_burnt_5 : decode cX12_burnt 5 = .ok (.ifCond .eq 6, 3) := all_at dvX12_burnt_0 3 rfl
theorem dX12_burnt_8 : decode cX12_burnt 8 = .ok (.ldc 187, 2) := all_at dvX12_burnt_0 4 rfl
theorem dX12_burnt_10 : decode cX12_burnt 10 = .ok (.ireturn, 1) := all_at dvX12_burnt_0 5 rfl
theorem dX12_burnt_11 : decode cX12_burnt 11 = .ok (.iload_n 2, 1) := all_at dvX12_burnt_0 6 rfl
theorem dX12_burnt_12 : decode cX12_burnt 12 = .ok (.i2l, 1) := all_at dvX12_burnt_0 7 rfl
theorem dX12_burnt_13 : decode cX12_burnt 13 = .ok (.lconst 0, 1) := all_at dvX12_burnt_0 8 rfl
theorem dX12_burnt_14 : decode cX12_burnt 14 = .ok (.lconst 1, 1) := all_at dvX12_burnt_0 9 rfl
theorem dX12_burnt_15 : decode cX12_burnt 15 = .ok (.invokestatic 167, 3) := all_at dvX12_burnt_0 10 rfl
theorem dX12_burnt_18 : decode cX12_burnt 18 = .ok (.ifCond .eq 23, 3) := all_at dvX12_burnt_0 11 rfl
theorem dX12_burnt_21 : decode cX12_burnt 21 = .ok (.iload_n 3, 1) := all_at dvX12_burnt_0 12 rfl
theorem dX12_burnt_22 : decode cX12_burnt 22 = .ok (.i2l, 1) := all_at dvX12_burnt_0 13 rfl
theorem dX12_burnt_23 : decode cX12_burnt 23 = .ok (.lconst 0, 1) := all_at dvX12_burnt_0 14 rfl
theorem dX12_burnt_24 : decode cX12_burnt 24 = .ok (.iload 4, 2) := all_at dvX12_burnt_0 15 rfl
theorem dX12_burnt_26 : decode cX12_burnt 26 = .ok (.i2l, 1) := all_at dvX12_burnt_0 16 rfl
theorem dX12_burnt_27 : decode cX12_burnt 27 = .ok (.invokestatic 167, 3) := all_at dvX12_burnt_0 17 rfl
theorem dX12_burnt_30 : decode cX12_burnt 30 = .ok (.ifCond .eq 11, 3) := all_at dvX12_burnt_0 18 rfl
theorem dX12_burnt_33 : decode cX12_burnt 33 = .ok (.iload 4, 2) := all_at dvX12_burnt_0 19 rfl
theorem dX12_burnt_35 : decode cX12_burnt 35 = .ok (.sipush 999, 3) := all_at dvX12_burnt_0 20 rfl
theorem dX12_burnt_38 : decode cX12_burnt 38 = .ok (.if_icmp .le 6, 3) := all_at dvX12_burnt_0 21 rfl
theorem dX12_burnt_41 : decode cX12_burnt 41 = .ok (.ldc 178, 2) := all_at dvX12_burnt_0 22 rfl
theorem dX12_burnt_43 : decode cX12_burnt 43 = .ok (.ireturn, 1) := all_at dvX12_burnt_0 23 rfl
set_option maxRecDepth 100000 in
theorem dvX12_burnt_44 : ([(44, .iload_n 2, 1), (45, .ifCond .ne 13, 3), (48, .aload_n 0, 1), (49, .getfield 121, 3), (52, .iload_n 1, 1), (53, .iload_n 3, 1), (54, .iastore, 1), (55, .goto 10, 3), (58, .aload_n 0, 1), (59, .getfield 124, 3), (62, .iload_n 1, 1), (63, .iload_n 3, 1), (64, .iastore, 1), (65, .iconst 1, 1), (66, .ireturn, 1)] : List (Nat × Instr × Nat)).all (fun q => decide (decode cX12_burnt q.1 = .ok (q.2.1, q.2.2))) = true := by decide +kernel
theorem dX12_burnt_44 : decode cX12_burnt 44 = .ok (.iload_n 2, 1) := all_at dvX12_burnt_44 0 rfl
theorem dX12_burnt_45 : decode cX12_burnt 45 = .ok (.ifCond .ne 13, 3) := all_at dvX12_burnt_44 1 rfl
theorem dX12_burnt_48 : decode cX12_burnt 48 = .ok (.aload_n 0, 1) := all_at dvX12_burnt_44 2 rfl
theorem dX12_burnt_49 : decode cX12_burnt 49 = .ok (.getfield 121, 3) := all_at dvX12_burnt_44 3 rfl
theorem dX12_burnt_52 : decode cX12_burnt 52 = .ok (.iload_n 1, 1) := all_at dvX12_burnt_44 4 rfl
theorem dX12_burnt_53 : decode cX12_burnt 53 = .ok (.iload_n 3, 1) := all_at dvX12_burnt_44 5 rfl
theorem dX12_burnt_54 : decode cX12_burnt 54 = .ok (.iastore, 1) := all_at dvX12_burnt_44 6 rfl
theorem dX12_burnt_55 : decode cX12_burnt 55 = .ok (.goto 10, 3) := all_at dvX12_burnt_44 7 rfl
theorem dX12_burnt_58 : decode cX12_burnt 58 = .ok (.aload_n 0, 1) := all_at dvX12_burnt_44 8 rfl
theorem dX12_burnt_59 : decode cX12_burnt 59 = .ok (.getfield 124, 3) := all_at dvX12_burnt_44 9 rfl
theorem dX12_burnt_62 : decode cX12_burnt 62 = .ok (.iload_n 1, 1) := all_at dvX12_burnt_44 10 rfl
theorem dX12_burnt_63 : decode cX12_burnt 63 = .ok (.iload_n 3, 1) := all_at dvX12_burnt_44 11 rfl
theorem dX12_burnt_64 : decode cX12_burnt 64 = .ok (.iastore, 1) := all_at dvX12_burnt_44 12 rfl
theorem dX12_burnt_65 : decode cX12_burnt 65 = .ok (.iconst 1, 1) := all_at dvX12_burnt_44 13 rfl
theorem dX12_burnt_66 : decode cX12_burnt 66 = .ok (.ireturn, 1) := all_at dvX12_burnt_44 14 rfl
set_option maxRecDepth 100000 in
theorem dvX12_empty_0 : ([(0, .aload_n 0, 1), (1, .getfield 399, 3), (4, .istore_n 1, 1), (5, .aload_n 0, 1), (6, .iconst 0, 1), (7, .putfield 399, 3), (10, .iload_n 1, 1), (11, .ireturn, 1)] : List (Nat × Instr × Nat)).all (fun q => decide (decode cX12_empty q.1 = .ok (q.2.1, q.2.2))) = true := by decide +kernel
theorem dX12_empty_0 : decode cX12_empty 0 = .ok (.aload_n 0, 1) := all_at dvX12_empty_0 0 rfl
theorem dX12_empty_1 : decode cX12_empty 1 = .ok (.getfield 399, 3) := all_at dvX12_empty_0 1 rfl
theorem dX12_empty_4 : decode cX12_empty 4 = .ok (.istore_n 1, 1) := all_at dvX12_empty_0 2 rfl
theorem dX12_empty_5 : decode cX12_empty 5 = .ok (.aload_n 0, 1) := all_at dvX12_empty_0 3 rfl
theorem dX12_empty_6 : decode cX12_empty 6 = .ok (.iconst 0, 1) := all_at dvX12_empty_0 4 rfl
theorem dX12_empty_7 : decode cX12_empty 7 = .ok (.putfield 399, 3) := all_at dvX12_empty_0 5 rfl
theorem dX12_empty_10 : decode cX12_empty 10 = .ok (.iload_n 1, 1) := all_at dvX12_empty_0 6 rfl
theorem dX12_empty_11 : decode cX12_empty 11 = .ok (.ireturn, 1) := all_at dvX12_empty_0 7 rfl
set_option maxRecDepth 100000 in
theorem dvX12_load_0 : ([(0, .iload_n 1, 1), (1, .i2l, 1), (2, .lconst 1, 1), (3, .ldc2_w 176, 3), (6, .invokestatic 167, 3), (9, .ifCond .ne 6, 3), (12, .ldc 178, 2), (14, .ireturn, 1), (15, .aload_n 0, 1), (16, .getfield 399, 3), (19, .bipush 8, 2), (21, .if_icmp .ne 6, 3), (24, .ldc 182, 2), (26, .ireturn, 1), (27, .aload_n 0, 1), (28, .getfield 127, 3), (31, .aload_n 0, 1), (32, .getfield 399, 3), (35, .iload_n 1, 1), (36, .iastore, 1), (37, .aload_n 0, 1), (38, .dup, 1), (39, .getfield 399, 3), (42, .iconst 1, 1)] : List (Nat × Instr × Nat)).all (fun q => decide (decode cX12_load q.1 = .ok (q.2.1, q.2.2))) = true := by decide +kernel
theorem dX12_load_0 : decode cX12_load 0 = .ok (.iload_n 1, 1) := all_at dvX12_load_0 0 rfl
theorem dX12_load_1 : decode cX12_load 1 = .ok (.i2l, 1) := all_at dvX12_load_0 1 rfl
theorem dX12_load_2 : decode cX12_load 2 = .ok (.lconst 1, 1) := all_at dvX12_load_0 2 rfl
theorem dX12_load_3 : decode cX12_load 3 = .ok (.ldc2_w 176, 3) := all_at dvX12_load_0 3 rfl
theorem dX12_load_6 : decode cX12_load 6 = .ok (.invokestatic 167, 3) := all_at dvX12_load_0 4 rfl
theorem dX12_load_9 : decode cX12_load 9 = .ok (.ifCond .ne 6, 3) := all_at dvX12_load_0 5 rfl
theorem dX12_load_12 : decode cX12_load 12 = .ok (.ldc 178, 2) := all_at dvX12_load_0 6 rfl
theorem dX12_load_14 : decode cX12_load 14 = .ok (.ireturn, 1) := all_at dvX12_load_0 7 rfl
theorem dX12_load_15 : decode cX12_load 15 = .ok (.aload_n 0, 1) := all_at dvX12_load_0 8 rfl
theorem dX12_load_16 : decode cX12_load 16 = .ok (.getfield 399, 3) := all_at dvX12_load_0 9 rfl
theorem dX12_load_19 : decode cX12_load 19 = .ok (.bipush 8, 2) := all_at dvX12_load_0 10 rfl
theorem dX12_load_21 : decode cX12_load 21 = .ok (.if_icmp .ne 6, 3) := all_at dvX12_load_0 11 rfl
theorem dX12_load_24 : decode cX12_load 24 = .ok (.ldc 182, 2) := all_at dvX12_load_0 12 rfl
theorem dX12_load_26 : decode cX12_load 26 = .ok (.ireturn, 1) := all_at dvX12_load_0 13 rfl
theorem dX12_load_27 : decode cX12_load 27 = .ok (.aload_n 0, 1) := all_at dvX12_load_0 14 rfl
theorem dX12_load_28 : decode cX12_load 28 = .ok (.getfield 127, 3) := all_at dvX12_load_0 15 rfl
theorem dX12_load_31 : decode cX12_load 31 = .ok (.aload_n 0, 1) := all_at dvX12_load_0 16 rfl
theorem dX12_load_32 : decode cX12_load 32 = .ok (.getfield 399, 3) := all_at dvX12_load_0 17 rfl
theorem dX12_load_35 : decode cX12_load 35 = .ok (.iload_n 1, 1) := all_at dvX12_load_0 18 rfl
theorem dX12_load_36 : decode cX12_load 36 = .ok (.iastore, 1) := all_at dvX12_load_0 19 rfl
theorem dX12_load_37 : decode cX12_load 37 = .ok (.aload_n 0, 1) := all_at dvX12_load_0 20 rfl
theorem dX12_load_38 : decode cX12_load 38 = .ok (.dup, 1) := all_at dvX12_load_0 21 rfl
theorem dX12_load_39 : decode cX12_load 39 = .ok (.getfield 399, 3) := all_at dvX12_load_0 22 rfl
theorem dX12_load_42 : decode cX12_load 42 = .ok (.iconst 1, 1) := all_at dvX12_load_0 23 rfl
set_option maxRecDepth 100000 in
theorem dvX12_load_43 : ([(43, .iadd, 1), (44, .putfield 399, 3), (47, .aload_n 0, 1), (48, .getfield 399, 3), (51, .ireturn, 1)] : List (Nat × Instr × Nat)).all (fun q => decide (decode cX12_load q.1 = .ok (q.2.1, q.2.2))) = true := by decide +kernel
theorem dX12_load_43 : decode cX12_load 43 = .ok (.iadd, 1) := all_at dvX12_load_43 0 rfl
theorem dX12_load_44 : decode cX12_load 44 = .ok (.putfield 399, 3) := all_at dvX12_load_43 1 rfl
theorem dX12_load_47 : decode cX12_load 47 = .ok (.aload_n 0, 1) := all_at dvX12_load_43 2 rfl
theorem dX12_load_48 : decode cX12_load 48 = .ok (.getfield 399, 3) := all_at dvX12_load_43 3 rfl
theorem dX12_load_51 : decode cX12_load 51 = .ok (.ireturn, 1) := all_at dvX12_load_43 4 rfl
set_option maxRecDepth 100000 in
theorem dvX12_thread_0 : ([(0, .aload_n 0, 1), (1, .iload_n 1, 1), (2, .invokevirtual 183, 3), (5, .ifCond .eq 6, 3), (8, .ldc 187, 2), (10, .ireturn, 1), (11, .iload_n 2, 1), (12, .i2l, 1), (13, .lconst 1, 1), (14, .ldc2_w 176, 3), (17, .invokestatic 167, 3), (20, .ifCond .ne 6, 3), (23, .ldc 178, 2), (25, .ireturn, 1), (26, .aload_n 0, 1), (27, .getfield 109, 3), (30, .iload_n 1, 1), (31, .iaload, 1), (32, .bipush 12, 2), (34, .if_icmp .ne 6, 3), (37, .ldc 182, 2), (39, .ireturn, 1), (40, .aload_n 0, 1), (41, .getfield 112, 3)] : List (Nat × Instr × Nat)).all (fun q => decide (decode cX12_thread q.1 = .ok (q.2.1, q.2.2))) = true := by decide +kernel
theorem dX12_thread_0 : decode cX12_thread 0 = .ok (.aload_n 0, 1) := all_at dvX12_thread_0 0 rfl
theorem dX12_thread_1 : decode cX12_thread 1 = .ok (.iload_n 1, 1) := all_at dvX12_thread_0 1 rfl
theorem dX12_thread_2 : decode cX12_thread 2 = .ok (.invokevirtual 183, 3) := all_at dvX12_thread_0 2 rfl
theorem dX12_thread_5 : decode cX12_thread 5 = .ok (.ifCond .eq 6, 3) := all_at dvX12_thread_0 3 rfl
theorem dX12_thread_8 : decode cX12_thread 8 = .ok (.ldc 187, 2) := all_at dvX12_thread_0 4 rfl
theorem dX12_thread_10 : decode cX12_thread 10 = .ok (.ireturn, 1) := all_at dvX12_thread_0 5 rfl
theorem dX12_thread_11 : decode cX12_thread 11 = .ok (.iload_n 2, 1) := all_at dvX12_thread_0 6 rfl
theorem dX12_thread_12 : decode cX12_thread 12 = .ok (.i2l, 1) := all_at dvX12_thread_0 7 rfl
theorem dX12_thread_13 : decode cX12_thread 13 = .ok (.lconst 1, 1) := all_at dvX12_thread_0 8 rfl
theorem dX12_thread_14 : decode cX12_thread 14 = .ok (.ldc2_w 176, 3) := all_at dvX12_thread_0 9 rfl
theorem dX12_thread_17 : decode cX12_thread 17 = .ok (.invokestatic 167, 3) := all_at dvX12_thread_0 10 rfl
theorem dX12_thread_20 : decode cX12_thread 20 = .ok (.ifCond .ne 6, 3) := all_at dvX12_thread_0 11 rfl
theorem dX12_thread_23 : decode cX12_thread 23 = .ok (.ldc 178, 2) := all_at dvX12_thread_0 12 rfl
theorem dX12_thread_25 : decode cX12_thread 25 = .ok (.ireturn, 1) := all_at dvX12_thread_0 13 rfl
theorem dX12_thread_26 : decode cX12_thread 26 = .ok (.aload_n 0, 1) := all_at dvX12_thread_0 14 rfl
theorem dX12_thread_27 : decode cX12_thread 27 = .ok (.getfield 109, 3) := all_at dvX12_thread_0 15 rfl
theorem dX12_thread_30 : decode cX12_thread 30 = .ok (.iload_n 1, 1) := all_at dvX12_thread_0 16 rfl
theorem dX12_thread_31 : decode cX12_thread 31 = .ok (.iaload, 1) := all_at dvX12_thread_0 17 rfl
theorem dX12_thread_32 : decode cX12_thread 32 = .ok (.bipush 12, 2) := all_at dvX12_thread_0 18 rfl
theorem dX12_thread_34 : decode cX12_thread 34 = .ok (.if_icmp .ne 6, 3) := all_at dvX12_thread_0 19 rfl
theorem dX12_thread_37 : decode cX12_thread 37 = .ok (.ldc 182, 2) := all_at dvX12_thread_0 20 rfl
theorem dX12_thread_39 : decode cX12_thread 39 = .ok (.ireturn, 1) := all_at dvX12_thread_0 21 rfl
theorem dX12_thread_40 : decode cX12_thread 40 = .ok (.aload_n 0, 1) := all_at dvX12_thread_0 22 rfl
theorem dX12_thread_41 : decode cX12_thread 41 = .ok (.getfield 112, 3) := all_at dvX12_thread_0 23 rfl
set_option maxRecDepth 100000 in
theorem dvX12_thread_44 : ([(44, .bipush 12, 2), (46, .iload_n 1, 1), (47, .imul, 1), (48, .aload_n 0, 1), (49, .getfield 109, 3), (52, .iload_n 1, 1), (53, .iaload, 1), (54, .iadd, 1), (55, .iload_n 2, 1), (56, .iastore, 1), (57, .aload_n 0, 1), (58, .getfield 109, 3), (61, .iload_n 1, 1), (62, .dup2, 1), (63, .iaload, 1), (64, .iconst 1, 1), (65, .iadd, 1), (66, .iastore, 1), (67, .aload_n 0, 1), (68, .getfield 109, 3), (71, .iload_n 1, 1), (72, .iaload, 1), (73, .ireturn, 1)] : List (Nat × Instr × Nat)).all (fun q => decide (decode cX12_thread q.1 = .ok (q.2.1, q.2.2))) = true := by decide +kernel
theorem dX12_thread_44 : decode cX12_thread 44 = .ok (.bipush 12, 2) := all_at dvX12_thread_44 0 rfl
theorem dX12_thread_46 : decode cX12_thread 46 = .ok (.iload_n 1, 1) := all_at dvX12_thread_44 1 rfl
theorem dX12_thread_47 : decode cX12_thread 47 = .ok (.imul, 1) := all_at dvX12_thread_44 2 rfl
theorem dX12_thread_48 : decode cX12_thread 48 = .ok (.aload_n 0, 1) := all_at dvX12_thread_44 3 rfl
theorem dX12_thread_49 : decode cX12_thread 49 = .ok (.getfield 109, 3) := all_at dvX12_thread_44 4 rfl
theorem dX12_thread_52 : decode cX12_thread 52 = .ok (.iload_n 1, 1) := all_at dvX12_thread_44 5 rfl
theorem dX12_thread_53 : decode cX12_thread 53 = .ok (.iaload, 1) := all_at dvX12_thread_44 6 rfl
theorem dX12_thread_54 : decode cX12_thread 54 = .ok (.iadd, 1) := all_at dvX12_thread_44 7 rfl
theorem dX12_thread_55 : decode cX12_thread 55 = .ok (.iload_n 2, 1) := all_at dvX12_thread_44 8 rfl
theorem dX12_thread_56 : decode cX12_thread 56 = .ok (.iastore, 1) := all_at dvX12_thread_44 9 rfl
theorem dX12_thread_57 : decode cX12_thread 57 = .ok (.aload_n 0, 1) := all_at dvX12_thread_44 10 rfl
theorem dX12_thread_58 : decode cX12_thread 58 = .ok (.getfield 109, 3) := all_at dvX12_thread_44 11 rfl
theorem dX12_thread_61 : decode cX12_thread 61 = .ok (.iload_n 1, 1) := all_at dvX12_thread_44 12 rfl
theorem dX12_thread_62 : decode cX12_thread 62 = .ok (.dup2, 1) := all_at dvX12_thread_44 13 rfl
theorem dX12_thread_63 : decode cX12_thread 63 = .ok (.iaload, 1) := all_at dvX12_thread_44 14 rfl
theorem dX12_thread_64 : decode cX12_thread 64 = .ok (.iconst 1, 1) := all_at dvX12_thread_44 15 rfl
theorem dX12_thread_65 : decode cX12_thread 65 = .ok (.iadd, 1) := all_at dvX12_thread_44 16 rfl
theorem dX12_thread_66 : decode cX12_thread 66 = .ok (.iastore, 1) := all_at dvX12_thread_44 17 rfl
theorem dX12_thread_67 : decode cX12_thread 67 = .ok (.aload_n 0, 1) := all_at dvX12_thread_44 18 rfl
theorem dX12_thread_68 : decode cX12_thread 68 = .ok (.getfield 109, 3) := all_at dvX12_thread_44 19 rfl
theorem dX12_thread_71 : decode cX12_thread 71 = .ok (.iload_n 1, 1) := all_at dvX12_thread_44 20 rfl
theorem dX12_thread_72 : decode cX12_thread 72 = .ok (.iaload, 1) := all_at dvX12_thread_44 21 rfl
theorem dX12_thread_73 : decode cX12_thread 73 = .ok (.ireturn, 1) := all_at dvX12_thread_44 22 rfl
set_option maxRecDepth 100000 in
theorem dvX12_turns_0 : ([(0, .aload_n 0, 1), (1, .iload_n 1, 1), (2, .invokevirtual 183, 3), (5, .ifCond .eq 6, 3), (8, .ldc 187, 2), (10, .ireturn, 1), (11, .iload_n 2, 1), (12, .i2l, 1), (13, .lconst 0, 1), (14, .ldc2_w 176, 3), (17, .invokestatic 167, 3), (20, .ifCond .ne 6, 3), (23, .ldc 178, 2), (25, .ireturn, 1), (26, .aload_n 0, 1), (27, .getfield 115, 3), (30, .iload_n 1, 1), (31, .iaload, 1), (32, .bipush 8, 2), (34, .if_icmp .ne 6, 3), (37, .ldc 182, 2), (39, .ireturn, 1), (40, .aload_n 0, 1), (41, .getfield 118, 3)] : List (Nat × Instr × Nat)).all (fun q => decide (decode cX12_turns q.1 = .ok (q.2.1, q.2.2))) = true := by decide +kernel
theorem dX12_turns_0 : decode cX12_turns 0 = .ok (.aload_n 0, 1) := all_at dvX12_turns_0 0 rfl
theorem dX12_turns_1 : decode cX12_turns 1 = .ok (.iload_n 1, 1) := all_at dvX12_turns_0 1 rfl
theorem dX12_turns_2 : decode cX12_turns 2 = .ok (.invokevirtual 183, 3) := all_at dvX12_turns_0 2 rfl
theorem dX12_turns_5 : decode cX12_turns 5 = .ok (.ifCond .eq 6, 3) := all_at dvX12_turns_0 3 rfl
theorem dX12_turns_8 : decode cX12_turns 8 = .ok (.ldc 187, 2) := all_at dvX12_turns_0 4 rfl
theorem dX12_turns_10 : decode cX12_turns 10 = .ok (.ireturn, 1) := all_at dvX12_turns_0 5 rfl
theorem dX12_turns_11 : decode cX12_turns 11 = .ok (.iload_n 2, 1) := all_at dvX12_turns_0 6 rfl
theorem dX12_turns_12 : decode cX12_turns 12 = .ok (.i2l, 1) := all_at dvX12_turns_0 7 rfl
theorem dX12_turns_13 : decode cX12_turns 13 = .ok (.lconst 0, 1) := all_at dvX12_turns_0 8 rfl
theorem dX12_turns_14 : decode cX12_turns 14 = .ok (.ldc2_w 176, 3) := all_at dvX12_turns_0 9 rfl
theorem dX12_turns_17 : decode cX12_turns 17 = .ok (.invokestatic 167, 3) := all_at dvX12_turns_0 10 rfl
theorem dX12_turns_20 : decode cX12_turns 20 = .ok (.ifCond .ne 6, 3) := all_at dvX12_turns_0 11 rfl
theorem dX12_turns_23 : decode cX12_turns 23 = .ok (.ldc 178, 2) := all_at dvX12_turns_0 12 rfl
theorem dX12_turns_25 : decode cX12_turns 25 = .ok (.ireturn, 1) := all_at dvX12_turns_0 13 rfl
theorem dX12_turns_26 : decode cX12_turns 26 = .ok (.aload_n 0, 1) := all_at dvX12_turns_0 14 rfl
theorem dX12_turns_27 : decode cX12_turns 27 = .ok (.getfield 115, 3) := all_at dvX12_turns_0 15 rfl
theorem dX12_turns_30 : decode cX12_turns 30 = .ok (.iload_n 1, 1) := all_at dvX12_turns_0 16 rfl
theorem dX12_turns_31 : decode cX12_turns 31 = .ok (.iaload, 1) := all_at dvX12_turns_0 17 rfl
theorem dX12_turns_32 : decode cX12_turns 32 = .ok (.bipush 8, 2) := all_at dvX12_turns_0 18 rfl
theorem dX12_turns_34 : decode cX12_turns 34 = .ok (.if_icmp .ne 6, 3) := all_at dvX12_turns_0 19 rfl
theorem dX12_turns_37 : decode cX12_turns 37 = .ok (.ldc 182, 2) := all_at dvX12_turns_0 20 rfl
theorem dX12_turns_39 : decode cX12_turns 39 = .ok (.ireturn, 1) := all_at dvX12_turns_0 21 rfl
theorem dX12_turns_40 : decode cX12_turns 40 = .ok (.aload_n 0, 1) := all_at dvX12_turns_0 22 rfl
theorem dX12_turns_41 : decode cX12_turns 41 = .ok (.getfield 118, 3) := all_at dvX12_turns_0 23 rfl
set_option maxRecDepth 100000 in
theorem dvX12_turns_44 : ([(44, .bipush 8, 2), (46, .iload_n 1, 1), (47, .imul, 1), (48, .aload_n 0, 1), (49, .getfield 115, 3), (52, .iload_n 1, 1), (53, .iaload, 1), (54, .iadd, 1), (55, .iload_n 2, 1), (56, .iastore, 1), (57, .aload_n 0, 1), (58, .getfield 115, 3), (61, .iload_n 1, 1), (62, .dup2, 1), (63, .iaload, 1), (64, .iconst 1, 1), (65, .iadd, 1), (66, .iastore, 1), (67, .aload_n 0, 1), (68, .getfield 115, 3), (71, .iload_n 1, 1), (72, .iaload, 1), (73, .ireturn, 1)] : List (Nat × Instr × Nat)).all (fun q => decide (decode cX12_turns q.1 = .ok (q.2.1, q.2.2))) = true := by decide +kernel
theorem dX12_turns_44 : decode cX12_turns 44 = .ok (.bipush 8, 2) := all_at dvX12_turns_44 0 rfl
theorem dX12_turns_46 : decode cX12_turns 46 = .ok (.iload_n 1, 1) := all_at dvX12_turns_44 1 rfl
theorem dX12_turns_47 : decode cX12_turns 47 = .ok (.imul, 1) := all_at dvX12_turns_44 2 rfl
theorem dX12_turns_48 : decode cX12_turns 48 = .ok (.aload_n 0, 1) := all_at dvX12_turns_44 3 rfl
theorem dX12_turns_49 : decode cX12_turns 49 = .ok (.getfield 115, 3) := all_at dvX12_turns_44 4 rfl
theorem dX12_turns_52 : decode cX12_turns 52 = .ok (.iload_n 1, 1) := all_at dvX12_turns_44 5 rfl
theorem dX12_turns_53 : decode cX12_turns 53 = .ok (.iaload, 1) := all_at dvX12_turns_44 6 rfl
theorem dX12_turns_54 : decode cX12_turns 54 = .ok (.iadd, 1) := all_at dvX12_turns_44 7 rfl
theorem dX12_turns_55 : decode cX12_turns 55 = .ok (.iload_n 2, 1) := all_at dvX12_turns_44 8 rfl
theorem dX12_turns_56 : decode cX12_turns 56 = .ok (.iastore, 1) := all_at dvX12_turns_44 9 rfl
theorem dX12_turns_57 : decode cX12_turns 57 = .ok (.aload_n 0, 1) := all_at dvX12_turns_44 10 rfl
theorem dX12_turns_58 : decode cX12_turns 58 = .ok (.getfield 115, 3) := all_at dvX12_turns_44 11 rfl
theorem dX12_turns_61 : decode cX12_turns 61 = .ok (.iload_n 1, 1) := all_at dvX12_turns_44 12 rfl
theorem dX12_turns_62 : decode cX12_turns 62 = .ok (.dup2, 1) := all_at dvX12_turns_44 13 rfl
theorem dX12_turns_63 : decode cX12_turns 63 = .ok (.iaload, 1) := all_at dvX12_turns_44 14 rfl
theorem dX12_turns_64 : decode cX12_turns 64 = .ok (.iconst 1, 1) := all_at dvX12_turns_44 15 rfl
theorem dX12_turns_65 : decode cX12_turns 65 = .ok (.iadd, 1) := all_at dvX12_turns_44 16 rfl
theorem dX12_turns_66 : decode cX12_turns 66 = .ok (.iastore, 1) := all_at dvX12_turns_44 17 rfl
theorem dX12_turns_67 : decode cX12_turns 67 = .ok (.aload_n 0, 1) := all_at dvX12_turns_44 18 rfl
theorem dX12_turns_68 : decode cX12_turns 68 = .ok (.getfield 115, 3) := all_at dvX12_turns_44 19 rfl
theorem dX12_turns_71 : decode cX12_turns 71 = .ok (.iload_n 1, 1) := all_at dvX12_turns_44 20 rfl
theorem dX12_turns_72 : decode cX12_turns 72 = .ok (.iaload, 1) := all_at dvX12_turns_44 21 rfl
theorem dX12_turns_73 : decode cX12_turns 73 = .ok (.ireturn, 1) := all_at dvX12_turns_44 22 rfl
set_option maxRecDepth 100000 in
theorem dvX12_twist_0 : ([(0, .aload_n 0, 1), (1, .iload_n 1, 1), (2, .invokevirtual 183, 3), (5, .ifCond .eq 6, 3), (8, .ldc 187, 2), (10, .ireturn, 1), (11, .aload_n 0, 1), (12, .getfield 115, 3), (15, .iload_n 1, 1), (16, .iaload, 1), (17, .istore_n 2, 1), (18, .iconst 0, 1), (19, .istore_n 3, 1), (20, .iload_n 3, 1), (21, .iload_n 2, 1), (22, .if_icmp .ge 100, 3), (25, .aload_n 0, 1), (26, .getfield 118, 3), (29, .bipush 8, 2), (31, .iload_n 1, 1), (32, .imul, 1), (33, .iload_n 3, 1), (34, .iadd, 1), (35, .iaload, 1)] : List (Nat × Instr × Nat)).all (fun q => decide (decode cX12_twist q.1 = .ok (q.2.1, q.2.2))) = true := by decide +kernel
theorem dX12_twist_0 : decode cX12_twist 0 = .ok (.aload_n 0, 1) := all_at dvX12_twist_0 0 rfl
theorem dX12_twist_1 : decode cX12_twist 1 = .ok (.iload_n 1, 1) := all_at dvX12_twist_0 1 rfl
theorem dX12_twist_2 : decode cX12_twist 2 = .ok (.invokevirtual 183, 3) := all_at dvX12_twist_0 2 rfl
theorem dX12_twist_5 : decode cX12_twist 5 = .ok (.ifCond .eq 6, 3) := all_at dvX12_twist_0 3 rfl
theorem dX12_twist_8 : decode cX12_twist 8 = .ok (.ldc 187, 2) := all_at dvX12_twist_0 4 rfl
theorem dX12_twist_10 : decode cX12_twist 10 = .ok (.ireturn, 1) := all_at dvX12_twist_0 5 rfl
theorem dX12_twist_11 : decode cX12_twist 11 = .ok (.aload_n 0, 1) := all_at dvX12_twist_0 6 rfl
theorem dX12_twist_12 : decode cX12_twist 12 = .ok (.getfield 115, 3) := all_at dvX12_twist_0 7 rfl
theorem dX12_twist_15 : decode cX12_twist 15 = .ok (.iload_n 1, 1) := all_at dvX12_twist_0 8 rfl
theorem dX12_twist_16 : decode cX12_twist 16 = .ok (.iaload, 1) := all_at dvX12_twist_0 9 rfl
theorem dX12_twist_17 : decode cX12_twist 17 = .ok (.istore_n 2, 1) := all_at dvX12_twist_0 10 rfl
theorem dX12_twist_18 : decode cX12_twist 18 = .ok (.iconst 0, 1) := all_at dvX12_twist_0 11 rfl
theorem dX12_twist_19 : decode cX12_twist 19 = .ok (.istore_n 3, 1) := all_at dvX12_twist_0 12 rfl
theorem dX12_twist_20 : decode cX12_twist 20 = .ok (.iload_n 3, 1) := all_at dvX12_twist_0 13 rfl
theorem dX12_twist_21 : decode cX12_twist 21 = .ok (.iload_n 2, 1) := all_at dvX12_twist_0 14 rfl
theorem dX12_twist_22 : decode cX12_twist 22 = .ok (.if_icmp .ge 100, 3) := all_at dvX12_twist_0 15 rfl
theorem dX12_twist_25 : decode cX12_twist 25 = .ok (.aload_n 0, 1) := all_at dvX12_twist_0 16 rfl
theorem dX12_twist_26 : decode cX12_twist 26 = .ok (.getfield 118, 3) := all_at dvX12_twist_0 17 rfl
theorem dX12_twist_29 : decode cX12_twist 29 = .ok (.bipush 8, 2) := all_at dvX12_twist_0 18 rfl
theorem dX12_twist_31 : decode cX12_twist 31 = .ok (.iload_n 1, 1) := all_at dvX12_twist_0 19 rfl
theorem dX12_twist_32 : decode cX12_twist 32 = .ok (.imul, 1) := all_at dvX12_twist_0 20 rfl
theorem dX12_twist_33 : decode cX12_twist 33 = .ok (.iload_n 3, 1) := all_at dvX12_twist_0 21 rfl
theorem dX12_twist_34 : decode cX12_twist 34 = .ok (.iadd, 1) := all_at dvX12_twist_0 22 rfl
theorem dX12_twist_35 : decode cX12_twist 35 = .ok (.iaload, 1) := all_at dvX12_twist_0 23 rfl
set_option maxRecDepth 100000 in
theorem dvX12_twist_36 : ([(36, .istore 4, 2), (38, .iconst 0, 1), (39, .istore 5, 2), (41, .iconst 0, 1), (42, .istore 6, 2), (44, .iload 6, 2), (46, .iload_n 2, 1), (47, .if_icmp .ge 56, 3), (50, .aload_n 0, 1), (51, .getfield 118, 3), (54, .bipush 8, 2), (56, .iload_n 1, 1), (57, .imul, 1), (58, .iload 6, 2), (60, .iadd, 1), (61, .iaload, 1), (62, .istore 7, 2), (64, .iload 5, 2), (66, .iload 7, 2), (68, .iload 4, 2), (70, .if_icmp .lt 16, 3), (73, .iload 7, 2), (75, .iload 4, 2), (77, .if_icmp .ne 13, 3)] : List (Nat × Instr × Nat)).all (fun q => decide (decode cX12_twist q.1 = .ok (q.2.1, q.2.2))) = true := by decide +kernel
theorem dX12_twist_36 : decode cX12_twist 36 = .ok (.istore 4, 2) := all_at dvX12_twist_36 0 rfl
theorem dX12_twist_38 : decode cX12_twist 38 = .ok (.iconst 0, 1) := all_at dvX12_twist_36 1 rfl
theorem dX12_twist_39 : decode cX12_twist 39 = .ok (.istore 5, 2) := all_at dvX12_twist_36 2 rfl
theorem dX12_twist_41 : decode cX12_twist 41 = .ok (.iconst 0, 1) := all_at dvX12_twist_36 3 rfl
theorem dX12_twist_42 : decode cX12_twist 42 = .ok (.istore 6, 2) := all_at dvX12_twist_36 4 rfl
theorem dX12_twist_44 : decode cX12_twist 44 = .ok (.iload 6, 2) := all_at dvX12_twist_36 5 rfl
theorem dX12_twist_46 : decode cX12_twist 46 = .ok (.iload_n 2, 1) := all_at dvX12_twist_36 6 rfl
theorem dX12_twist_47 : decode cX12_twist 47 = .ok (.if_icmp .ge 56, 3) := all_at dvX12_twist_36 7 rfl
theorem dX12_twist_50 : decode cX12_twist 50 = .ok (.aload_n 0, 1) := all_at dvX12_twist_36 8 rfl
theorem dX12_twist_51 : decode cX12_twist 51 = .ok (.getfield 118, 3) := all_at dvX12_twist_36 9 rfl
theorem dX12_twist_54 : decode cX12_twist 54 = .ok (.bipush 8, 2) := all_at dvX12_twist_36 10 rfl
theorem dX12_twist_56 : decode cX12_twist 56 = .ok (.iload_n 1, 1) := all_at dvX12_twist_36 11 rfl
theorem dX12_twist_57 : decode cX12_twist 57 = .ok (.imul, 1) := all_at dvX12_twist_36 12 rfl
theorem dX12_twist_58 : decode cX12_twist 58 = .ok (.iload 6, 2) := all_at dvX12_twist_36 13 rfl
theorem dX12_twist_60 : decode cX12_twist 60 = .ok (.iadd, 1) := all_at dvX12_twist_36 14 rfl
theorem dX12_twist_61 : decode cX12_twist 61 = .ok (.iaload, 1) := all_at dvX12_twist_36 15 rfl
theorem dX12_twist_62 : decode cX12_twist 62 = .ok (.istore 7, 2) := all_at dvX12_twist_36 16 rfl
theorem dX12_twist_64 : decode cX12_twist 64 = .ok (.iload 5, 2) := all_at dvX12_twist_36 17 rfl
theorem dX12_twist_66 : decode cX12_twist 66 = .ok (.iload 7, 2) := all_at dvX12_twist_36 18 rfl
theorem dX12_twist_68 : decode cX12_twist 68 = .ok (.iload 4, 2) := all_at dvX12_twist_36 19 rfl
theorem dX12_twist_70 : decode cX12_twist 70 = .ok (.if_icmp .lt 16, 3) := all_at dvX12_twist_36 20 rfl
theorem dX12_twist_73 : decode cX12_twist 73 = .ok (.iload 7, 2) := all_at dvX12_twist_36 21 rfl
theorem dX12_twist_75 : decode cX12_twist 75 = .ok (.iload 4, 2) := all_at dvX12_twist_36 22 rfl
theorem dX12_twist_77 : decode cX12_twist 77 = .ok (.if_icmp .ne 13, 3) := all_at dvX12_twist_36 23 rfl
set_option maxRecDepth 100000 in
theorem dvX12_twist_80 : ([(80, .iload 6, 2), (82, .iload_n 3, 1), (83, .if_icmp .ge 7, 3), (86, .iconst 1, 1), (87, .goto 4, 3), (90, .iconst 0, 1), (91, .invokestatic 203, 3), (94, .iadd, 1), (95, .istore 5, 2), (97, .iinc 6 1, 3), (100, .goto (-56), 3), (103, .iload 5, 2), (105, .iload_n 2, 1), (106, .iconst 1, 1), (107, .isub, 1), (108, .iconst 2, 1), (109, .idiv, 1), (110, .if_icmp .ne 6, 3), (113, .iload 4, 2), (115, .ireturn, 1), (116, .iinc 3 1, 3), (119, .goto (-99), 3), (122, .iconst (-1), 1), (123, .ireturn, 1)] : List (Nat × Instr × Nat)).all (fun q => decide (decode cX12_twist q.1 = .ok (q.2.1, q.2.2))) = true := by decide +kernel
theorem dX12_twist_80 : decode cX12_twist 80 = .ok (.iload 6, 2) := all_at dvX12_twist_80 0 rfl
theorem dX12_twist_82 : decode cX12_twist 82 = .ok (.iload_n 3, 1) := all_at dvX12_twist_80 1 rfl
theorem dX12_twist_83 : decode cX12_twist 83 = .ok (.if_icmp .ge 7, 3) := all_at dvX12_twist_80 2 rfl
theorem dX12_twist_86 : decode cX12_twist 86 = .ok (.iconst 1, 1) := all_at dvX12_twist_80 3 rfl
theorem dX12_twist_87 : decode cX12_twist 87 = .ok (.goto 4, 3) := all_at dvX12_twist_80 4 rfl
theorem dX12_twist_90 : decode cX12_twist 90 = .ok (.iconst 0, 1) := all_at dvX12_twist_80 5 rfl
theorem dX12_twist_91 : decode cX12_twist 91 = .ok (.invokestatic 203, 3) := all_at dvX12_twist_80 6 rfl
theorem dX12_twist_94 : decode cX12_twist 94 = .ok (.iadd, 1) := all_at dvX12_twist_80 7 rfl
theorem dX12_twist_95 : decode cX12_twist 95 = .ok (.istore 5, 2) := all_at dvX12_twist_80 8 rfl
theorem dX12_twist_97 : decode cX12_twist 97 = .ok (.iinc 6 1, 3) := all_at dvX12_twist_80 9 rfl
theorem dX12_twist_100 : decode cX12_twist 100 = .ok (.goto (-56), 3) := all_at dvX12_twist_80 10 rfl
theorem dX12_twist_103 : decode cX12_twist 103 = .ok (.iload 5, 2) := all_at dvX12_twist_80 11 rfl
theorem dX12_twist_105 : decode cX12_twist 105 = .ok (.iload_n 2, 1) := all_at dvX12_twist_80 12 rfl
theorem dX12_twist_106 : decode cX12_twist 106 = .ok (.iconst 1, 1) := all_at dvX12_twist_80 13 rfl
theorem dX12_twist_107 : decode cX12_twist 107 = .ok (.isub, 1) := all_at dvX12_twist_80 14 rfl
theorem dX12_twist_108 : decode cX12_twist 108 = .ok (.iconst 2, 1) := all_at dvX12_twist_80 15 rfl
theorem dX12_twist_109 : decode cX12_twist 109 = .ok (.idiv, 1) := all_at dvX12_twist_80 16 rfl
theorem dX12_twist_110 : decode cX12_twist 110 = .ok (.if_icmp .ne 6, 3) := all_at dvX12_twist_80 17 rfl
theorem dX12_twist_113 : decode cX12_twist 113 = .ok (.iload 4, 2) := all_at dvX12_twist_80 18 rfl
theorem dX12_twist_115 : decode cX12_twist 115 = .ok (.ireturn, 1) := all_at dvX12_twist_80 19 rfl
theorem dX12_twist_116 : decode cX12_twist 116 = .ok (.iinc 3 1, 3) := all_at dvX12_twist_80 20 rfl
theorem dX12_twist_119 : decode cX12_twist 119 = .ok (.goto (-99), 3) := all_at dvX12_twist_80 21 rfl
theorem dX12_twist_122 : decode cX12_twist 122 = .ok (.iconst (-1), 1) := all_at dvX12_twist_80 22 rfl
theorem dX12_twist_123 : decode cX12_twist 123 = .ok (.ireturn, 1) := all_at dvX12_twist_80 23 rfl
set_option maxHeartbeats 4000000 in
set_option maxRecDepth 100000 in
/-- X12_thread -/
theorem c_X12_thread (l : Launch) (dC : Nat → ClassId) (dI : Nat → Nat → Nat) (sz : Nat) (h : Nat) (g : Nat → Nat → Nat) (ca : Nat → Nat → ClassId) (iv : Nat → Nat → Int32) (lv : Nat → Nat → Int64) (fa : Nat → Nat → Nat → Int32) (la : Nat → Nat → Nat → Int64) (hI : IX iv fa) (a : Int32) (b : Int32) : Met l yX12_thread (wc yX12_thread cX12_thread 3 (some .int)) ({ frames := 2, cells := 0, slots := 0, locals := 46 } : Room) (pW (dC, dI) classes (WM h g ca iv lv fa la) (TM ca) sz [.ref h, .int a, .int b]) (va_Qi (fun r (u : SS) => ∃ (na_12_51 : Nat → Int32) (na_12_52 : Nat → Int32), (∀ j, inb (bA 12 51 j) (na_12_51 j)) ∧ ((-100004) ≤ r.toInt ∧ r.toInt ≤ 12) ∧ u = (iv, lv, (u2 (u2 fa 12 51 na_12_51) 12 52 na_12_52), la)) (bM (dC, dI) h g ca (va_A (WM h g ca iv lv fa la) sz)) (va_A (WM h g ca iv lv fa la) sz)) 0 0 (va_A (WM h g ca iv lv fa la) sz) := by
  refine Met.ofW (cc := cX12_thread) (maxL := 3) (ret := (some .int)) (by decide) rfl ?_
  intro p e s m args below meth c s₁ B hml hv
  obtain ⟨rfl, hsz, hP, hK, hD0⟩ := hv
  have hx := B.exec
  have hb := B.bytes
  have hr := B.returns
  have ht := tb_tl (atoms_spec (ws := wc yX12_thread cX12_thread 3 (some .int)) B.pre)
  have hown : s.vm.findClass RX12 = some m.cls := findClass_of_methodNamed B.named
  have hlocks := B.notSynchronized
  subst hsz
  have hD := hD0.self (sz := s.heap.size)
  generalize hAe : va_A (WM h g ca iv lv fa la) s.heap.size = A at hD ⊢
  have hA : ∀ q : Nat, s.heap.size ≤ q → A q := fun q h => by rw [← hAe]; exact Or.inr h
  have hS : va_S A s.heap s.heap [] := va_S.rf
  have hl := lv_entry [.ref h, .int a, .int b] (n := 3) (Nat.le_of_ble_eq_true rfl)
  rw [lg_entry_eq]
  generalize (lg_sl [.ref h, .int a, .int b] ++ List.replicate (3 - (lg_sl [.ref h, .int a, .int b]).length) Slot.unset).toArray = ls at hl ⊢
  have hl : lv_has ls 3 [(0, .ref h), (1, .int a), (2, .int b)] := hl
  refine lv_aload_n hx hb dX12_thread_0 rfl (lv_at hl 0 rfl) ?_
  refine lv_iload_n hx hb dX12_thread_1 rfl (lv_at hl 1 rfl) ?_
  refine vp_callSi (W.runV (As := [.int a]) (rest := []) ⟨hx, hb, hml, hown, ht⟩ (c_X12_noBale l dC dI h g ca iv lv fa la hI a) (kV 1 ht m_1385 m_1387 m_42 m_89 m_1388 rfl rfl hd_X12_noBale_v ⟨Nat.le_of_ble_eq_true rfl, Nat.le_of_ble_eq_true rfl⟩) (vR hP hK (rM_12 hK hP)) rfl rfl hl.1 rfl (lv_room (Nat.le_of_ble_eq_true rfl)) dX12_thread_2 ⟨Nat.le_of_ble_eq_true rfl, Nat.le_of_ble_eq_true rfl⟩) (fun r1 hr1 => ?_)
  rcases hr1 with ⟨rfl, fr1⟩ | ⟨rfl, fr1⟩
  · skip
    have i_12_1 : 0 ≤ (iv 12 1).toInt ∧ (iv 12 1).toInt ≤ 10 := hI.1 12 1
    have fr1 : ¬ (0 ≤ (a : Int32).toInt ∧ (a : Int32).toInt < ((iv 12 1) : Int32).toInt) := fr1
    refine lv_if_eq (tgt := 11) hx hb dX12_thread_5 (by decide) (fun c2 => ?_) (fun c2 => ?_)
    · exact absurd c2 (by decide)
    · skip
      refine lv_ldc hx hb hown (ht _ m_1389) dX12_thread_8 ?_
      have hP9 : va_P (dC, dI) classes (WM h g ca iv lv (u2 (u2 fa 12 51 (fa 12 51)) 12 52 (fa 12 52)) la) s.heap := hP
      have hD9 : va_D A (WM h g ca iv lv (u2 (u2 fa 12 51 (fa 12 51)) 12 52 (fa 12 52)) la) := hD
      exact W.iret (v := (-100001)) hx hb hr (fun t ht9 hW => ⟨⟨(-100001), (iv, lv, (u2 (u2 fa 12 51 (fa 12 51)) 12 52 (fa 12 52)), la), rfl, ⟨(fa 12 51), (fa 12 52), (hI.2 12 51), ⟨by decide, by decide⟩, rfl⟩, by rw [ht9]; exact hP9, hD9⟩, hS.F ht9⟩) hS.2.2 dX12_thread_10
  · skip
    have i_12_1 : 0 ≤ (iv 12 1).toInt ∧ (iv 12 1).toInt ≤ 10 := hI.1 12 1
    have fr1 : (0 ≤ (a : Int32).toInt ∧ (a : Int32).toInt < ((iv 12 1) : Int32).toInt) := Decidable.not_not.mp fr1
    refine lv_if_eq (tgt := 11) hx hb dX12_thread_5 (by decide) (fun c3 => ?_) (fun c3 => ?_)
    · skip
      refine lv_iload_n hx hb dX12_thread_11 rfl (lv_at hl 2 rfl) ?_
      refine lv_i2l (v := (b.toInt64)) hx hb dX12_thread_12 rfl ?_
      refine lv_lconst (v := 1) hx hb dX12_thread_13 (by decide) ?_
      refine lv_ldc2 hx hb hown (ht _ m_1369) dX12_thread_14 ?_
      refine vp_callSi (W.runS (As := [.long (b.toInt64), .long 1, .long 999]) (rest := []) ⟨hx, hb, hml, hown, ht⟩ (c_X12_in l dC dI (b.toInt64) 1 999 (b.toInt) (1) (999) ((Int32.toInt_toInt64 b).trans rfl) (by decide : (1 : Int64).toInt = 1) (by decide : (999 : Int64).toInt = 999)) (kS 3 ht m_1370 m_1371 m_89 m_1372 rfl rfl hd_X12_in_v ⟨Nat.le_of_ble_eq_true rfl, Nat.le_of_ble_eq_true rfl⟩) (sR noP (hK.sub (tys' := []) [] rfl)) rfl rfl hl.1 rfl (lv_room (Nat.le_of_ble_eq_true rfl)) dX12_thread_17 ⟨Nat.le_of_ble_eq_true rfl, Nat.le_of_ble_eq_true rfl⟩) (fun r4 hr4 => ?_)
      rcases hr4 with ⟨rfl, fr4⟩ | ⟨rfl, fr4⟩
      · skip
        refine lv_if_ne (tgt := 26) hx hb dX12_thread_20 (by decide) (fun c5 => ?_) (fun c5 => ?_)
        · skip
          refine lv_aload_n hx hb dX12_thread_26 rfl (lv_at hl 0 rfl) ?_
          refine gM_12_51 hx hb ht hown hK hP m_1190 dX12_thread_27 ?_
          refine lv_iload_n hx hb dX12_thread_30 rfl (lv_at hl 1 rfl) ?_
          refine lM_12_51 hx hb hK hP (f := (fa 12 51)) rfl (vp_in_iff.mpr ⟨by omega, by omega⟩) dX12_thread_31 ?_
          refine lv_topi (fun v6 ev6 => ?_)
          have tv6 : 0 ≤ v6.toInt ∧ v6.toInt ≤ 12 := by rw [ev6]; exact hI.2 12 51 _
          refine lv_bipush (v := 12) hx hb dX12_thread_32 (by decide) ?_
          refine lv_icmp_ne (tgt := 40) hx hb dX12_thread_34 (by decide) (fun c7 => ?_) (fun c7 => ?_)
          · have fc7 := z_ne (rfl : (v6).toInt = _) (by decide : (12 : Int32).toInt = 12) c7
            refine lv_aload_n hx hb dX12_thread_40 rfl (lv_at hl 0 rfl) ?_
            refine gM_12_52 hx hb ht hown hK hP m_1191 dX12_thread_41 ?_
            refine lv_bipush (v := 12) hx hb dX12_thread_44 (by decide) ?_
            refine lv_iload_n hx hb dX12_thread_46 rfl (lv_at hl 1 rfl) ?_
            refine lv_imul hx hb dX12_thread_47 ?_
            refine lv_topi (fun v8 ev8 => ?_)
            have tv8 := z_mul ev8 (by decide : (12 : Int32).toInt = 12) (rfl : (a).toInt = _) (by omega) (by omega)
            refine lv_aload_n hx hb dX12_thread_48 rfl (lv_at hl 0 rfl) ?_
            refine gM_12_51 hx hb ht hown hK hP m_1190 dX12_thread_49 ?_
            refine lv_iload_n hx hb dX12_thread_52 rfl (lv_at hl 1 rfl) ?_
            refine lM_12_51 hx hb hK hP (f := (fa 12 51)) rfl (vp_in_iff.mpr ⟨by omega, by omega⟩) dX12_thread_53 ?_
            refine lv_topi (fun v9 ev9 => ?_)
            obtain rfl : v6 = v9 := ev6.trans ev9.symm
            refine lv_iadd hx hb dX12_thread_54 ?_
            refine lv_topi (fun v10 ev10 => ?_)
            have tv10 := z_add ev10 (rfl : (v8).toInt = _) (rfl : (v6).toInt = _) (by omega) (by omega)
            refine lv_iload_n hx hb dX12_thread_55 rfl (lv_at hl 2 rfl) ?_
            refine tM_12_52 hx hb hK hP hD hS (f0 := (fa 12 52)) rfl (i := v10) (x := b) (vp_in_iff.mpr ⟨by omega, by omega⟩) dX12_thread_56 (fun f11 ef11 H locs hP hD hS => ?_)
            have hf11 : ∀ j, inb (bA 12 52 j) (f11 j) := fun j => full_i _
            refine lv_aload_n hx hb dX12_thread_57 rfl (lv_at hl 0 rfl) ?_
            refine gM_12_51 hx hb ht hown hK hP m_1190 dX12_thread_58 ?_
            refine lv_iload_n hx hb dX12_thread_61 rfl (lv_at hl 1 rfl) ?_
            refine lv_dup2_11 hx hb dX12_thread_62 rfl rfl ?_
            refine lM_12_51 hx hb hK hP (f := (fa 12 51)) rfl (vp_in_iff.mpr ⟨by omega, by omega⟩) dX12_thread_63 ?_
            refine lv_topi (fun v12 ev12 => ?_)
            obtain rfl : v6 = v12 := ev6.trans ev12.symm
            refine lv_iconst (v := 1) hx hb dX12_thread_64 (by decide) ?_
            refine lv_iadd hx hb dX12_thread_65 ?_
            refine lv_topi (fun v13 ev13 => ?_)
            have tv13 := z_add ev13 (rfl : (v6).toInt = _) (by decide : (1 : Int32).toInt = 1) (by omega) (by omega)
            refine tM_12_51 hx hb hK hP hD hS (f0 := (fa 12 51)) rfl (i := a) (x := v13) (vp_in_iff.mpr ⟨by omega, by omega⟩) dX12_thread_66 (fun f14 ef14 H locs hP hD hS => ?_)
            have hf14 : ∀ j, inb (bA 12 51 j) (f14 j) := by rw [ef14]; exact upd_b (b := bA 12 51) (hI.2 12 51) (show inb (0, 12) v13 from ⟨by omega, by omega⟩)
            refine lv_aload_n hx hb dX12_thread_67 rfl (lv_at hl 0 rfl) ?_
            refine gM_12_51 hx hb ht hown hK hP m_1190 dX12_thread_68 ?_
            refine lv_iload_n hx hb dX12_thread_71 rfl (lv_at hl 1 rfl) ?_
            refine lM_12_51 hx hb hK hP (f := f14) rfl (vp_in_iff.mpr ⟨by omega, by omega⟩) dX12_thread_72 ?_
            refine lv_topi (fun v15 ev15 => ?_)
            have tv15 : 0 ≤ v15.toInt ∧ v15.toInt ≤ 12 := by rw [ev15]; exact hf14 _
            have hP9 : va_P (dC, dI) classes (WM h g ca iv lv (u2 (u2 fa 12 51 f14) 12 52 f11) la) H := hP
            have hD9 : va_D A (WM h g ca iv lv (u2 (u2 fa 12 51 f14) 12 52 f11) la) := hD
            exact W.iret (v := v15) hx hb hr (fun t ht9 hW => ⟨⟨v15, (iv, lv, (u2 (u2 fa 12 51 f14) 12 52 f11), la), rfl, ⟨f14, f11, hf14, ⟨by omega, by omega⟩, rfl⟩, by rw [ht9]; exact hP9, hD9⟩, hS.F ht9⟩) hS.2.2 dX12_thread_73
          · have fc7 := z_eq (rfl : (v6).toInt = _) (by decide : (12 : Int32).toInt = 12) c7
            refine lv_ldc hx hb hown (ht _ m_1380) dX12_thread_37 ?_
            have hP9 : va_P (dC, dI) classes (WM h g ca iv lv (u2 (u2 fa 12 51 (fa 12 51)) 12 52 (fa 12 52)) la) s.heap := hP
            have hD9 : va_D A (WM h g ca iv lv (u2 (u2 fa 12 51 (fa 12 51)) 12 52 (fa 12 52)) la) := hD
            exact W.iret (v := (-100004)) hx hb hr (fun t ht9 hW => ⟨⟨(-100004), (iv, lv, (u2 (u2 fa 12 51 (fa 12 51)) 12 52 (fa 12 52)), la), rfl, ⟨(fa 12 51), (fa 12 52), (hI.2 12 51), ⟨by decide, by decide⟩, rfl⟩, by rw [ht9]; exact hP9, hD9⟩, hS.F ht9⟩) hS.2.2 dX12_thread_39
        · exact absurd c5 (by decide)
      · skip
        refine lv_if_ne (tgt := 26) hx hb dX12_thread_20 (by decide) (fun c16 => ?_) (fun c16 => ?_)
        · exact absurd rfl c16
        · skip
          refine lv_ldc hx hb hown (ht _ m_1373) dX12_thread_23 ?_
          have hP9 : va_P (dC, dI) classes (WM h g ca iv lv (u2 (u2 fa 12 51 (fa 12 51)) 12 52 (fa 12 52)) la) s.heap := hP
          have hD9 : va_D A (WM h g ca iv lv (u2 (u2 fa 12 51 (fa 12 51)) 12 52 (fa 12 52)) la) := hD
          exact W.iret (v := (-100002)) hx hb hr (fun t ht9 hW => ⟨⟨(-100002), (iv, lv, (u2 (u2 fa 12 51 (fa 12 51)) 12 52 (fa 12 52)), la), rfl, ⟨(fa 12 51), (fa 12 52), (hI.2 12 51), ⟨by decide, by decide⟩, rfl⟩, by rw [ht9]; exact hP9, hD9⟩, hS.F ht9⟩) hS.2.2 dX12_thread_25
    · exact absurd rfl c3
set_option maxHeartbeats 4000000 in
set_option maxRecDepth 100000 in
/-- X12_turns -/
theorem c_X12_turns (l : Launch) (dC : Nat → ClassId) (dI : Nat → Nat → Nat) (sz : Nat) (h : Nat) (g : Nat → Nat → Nat) (ca : Nat → Nat → ClassId) (iv : Nat → Nat → Int32) (lv : Nat → Nat → Int64) (fa : Nat → Nat → Nat → Int32) (la : Nat → Nat → Nat → Int64) (hI : IX iv fa) (a : Int32) (b : Int32) : Met l yX12_turns (wc yX12_turns cX12_turns 3 (some .int)) ({ frames := 2, cells := 0, slots := 0, locals := 46 } : Room) (pW (dC, dI) classes (WM h g ca iv lv fa la) (TM ca) sz [.ref h, .int a, .int b]) (va_Qi (fun r (u : SS) => ∃ (na_12_53 : Nat → Int32) (na_12_54 : Nat → Int32), (∀ j, inb (bA 12 53 j) (na_12_53 j)) ∧ ((-100004) ≤ r.toInt ∧ r.toInt ≤ 8) ∧ u = (iv, lv, (u2 (u2 fa 12 53 na_12_53) 12 54 na_12_54), la)) (bM (dC, dI) h g ca (va_A (WM h g ca iv lv fa la) sz)) (va_A (WM h g ca iv lv fa la) sz)) 0 0 (va_A (WM h g ca iv lv fa la) sz) := by
  refine Met.ofW (cc := cX12_turns) (maxL := 3) (ret := (some .int)) (by decide) rfl ?_
  intro p e s m args below meth c s₁ B hml hv
  obtain ⟨rfl, hsz, hP, hK, hD0⟩ := hv
  have hx := B.exec
  have hb := B.bytes
  have hr := B.returns
  have ht := tb_tl (atoms_spec (ws := wc yX12_turns cX12_turns 3 (some .int)) B.pre)
  have hown : s.vm.findClass RX12 = some m.cls := findClass_of_methodNamed B.named
  have hlocks := B.notSynchronized
  subst hsz
  have hD := hD0.self (sz := s.heap.size)
  generalize hAe : va_A (WM h g ca iv lv fa la) s.heap.size = A at hD ⊢
  have hA : ∀ q : Nat, s.heap.size ≤ q → A q := fun q h => by rw [← hAe]; exact Or.inr h
  have hS : va_S A s.heap s.heap [] := va_S.rf
  have hl := lv_entry [.ref h, .int a, .int b] (n := 3) (Nat.le_of_ble_eq_true rfl)
  rw [lg_entry_eq]
  generalize (lg_sl [.ref h, .int a, .int b] ++ List.replicate (3 - (lg_sl [.ref h, .int a, .int b]).length) Slot.unset).toArray = ls at hl ⊢
  have hl : lv_has ls 3 [(0, .ref h), (1, .int a), (2, .int b)] := hl
  refine lv_aload_n hx hb dX12_turns_0 rfl (lv_at hl 0 rfl) ?_
  refine lv_iload_n hx hb dX12_turns_1 rfl (lv_at hl 1 rfl) ?_
  refine vp_callSi (W.runV (As := [.int a]) (rest := []) ⟨hx, hb, hml, hown, ht⟩ (c_X12_noBale l dC dI h g ca iv lv fa la hI a) (kV 1 ht m_1385 m_1387 m_42 m_89 m_1388 rfl rfl hd_X12_noBale_v ⟨Nat.le_of_ble_eq_true rfl, Nat.le_of_ble_eq_true rfl⟩) (vR hP hK (rM_12 hK hP)) rfl rfl hl.1 rfl (lv_room (Nat.le_of_ble_eq_true rfl)) dX12_turns_2 ⟨Nat.le_of_ble_eq_true rfl, Nat.le_of_ble_eq_true rfl⟩) (fun r1 hr1 => ?_)
  rcases hr1 with ⟨rfl, fr1⟩ | ⟨rfl, fr1⟩
  · skip
    have i_12_1 : 0 ≤ (iv 12 1).toInt ∧ (iv 12 1).toInt ≤ 10 := hI.1 12 1
    have fr1 : ¬ (0 ≤ (a : Int32).toInt ∧ (a : Int32).toInt < ((iv 12 1) : Int32).toInt) := fr1
    refine lv_if_eq (tgt := 11) hx hb dX12_turns_5 (by decide) (fun c2 => ?_) (fun c2 => ?_)
    · exact absurd c2 (by decide)
    · skip
      refine lv_ldc hx hb hown (ht _ m_1389) dX12_turns_8 ?_
      have hP9 : va_P (dC, dI) classes (WM h g ca iv lv (u2 (u2 fa 12 53 (fa 12 53)) 12 54 (fa 12 54)) la) s.heap := hP
      have hD9 : va_D A (WM h g ca iv lv (u2 (u2 fa 12 53 (fa 12 53)) 12 54 (fa 12 54)) la) := hD
      exact W.iret (v := (-100001)) hx hb hr (fun t ht9 hW => ⟨⟨(-100001), (iv, lv, (u2 (u2 fa 12 53 (fa 12 53)) 12 54 (fa 12 54)), la), rfl, ⟨(fa 12 53), (fa 12 54), (hI.2 12 53), ⟨by decide, by decide⟩, rfl⟩, by rw [ht9]; exact hP9, hD9⟩, hS.F ht9⟩) hS.2.2 dX12_turns_10
  · skip
    have i_12_1 : 0 ≤ (iv 12 1).toInt ∧ (iv 12 1).toInt ≤ 10 := hI.1 12 1
    have fr1 : (0 ≤ (a : Int32).toInt ∧ (a : Int32).toInt < ((iv 12 1) : Int32).toInt) := Decidable.not_not.mp fr1
    refine lv_if_eq (tgt := 11) hx hb dX12_turns_5 (by decide) (fun c3 => ?_) (fun c3 => ?_)
    · skip
      refine lv_iload_n hx hb dX12_turns_11 rfl (lv_at hl 2 rfl) ?_
      refine lv_i2l (v := (b.toInt64)) hx hb dX12_turns_12 rfl ?_
      refine lv_lconst (v := 0) hx hb dX12_turns_13 (by decide) ?_
      refine lv_ldc2 hx hb hown (ht _ m_1369) dX12_turns_14 ?_
      refine vp_callSi (W.runS (As := [.long (b.toInt64), .long 0, .long 999]) (rest := []) ⟨hx, hb, hml, hown, ht⟩ (c_X12_in l dC dI (b.toInt64) 0 999 (b.toInt) (0) (999) ((Int32.toInt_toInt64 b).trans rfl) (by decide : (0 : Int64).toInt = 0) (by decide : (999 : Int64).toInt = 999)) (kS 3 ht m_1370 m_1371 m_89 m_1372 rfl rfl hd_X12_in_v ⟨Nat.le_of_ble_eq_true rfl, Nat.le_of_ble_eq_true rfl⟩) (sR noP (hK.sub (tys' := []) [] rfl)) rfl rfl hl.1 rfl (lv_room (Nat.le_of_ble_eq_true rfl)) dX12_turns_17 ⟨Nat.le_of_ble_eq_true rfl, Nat.le_of_ble_eq_true rfl⟩) (fun r4 hr4 => ?_)
      rcases hr4 with ⟨rfl, fr4⟩ | ⟨rfl, fr4⟩
      · skip
        refine lv_if_ne (tgt := 26) hx hb dX12_turns_20 (by decide) (fun c5 => ?_) (fun c5 => ?_)
        · skip
          refine lv_aload_n hx hb dX12_turns_26 rfl (lv_at hl 0 rfl) ?_
          refine gM_12_53 hx hb ht hown hK hP m_1192 dX12_turns_27 ?_
          refine lv_iload_n hx hb dX12_turns_30 rfl (lv_at hl 1 rfl) ?_
          refine lM_12_53 hx hb hK hP (f := (fa 12 53)) rfl (vp_in_iff.mpr ⟨by omega, by omega⟩) dX12_turns_31 ?_
          refine lv_topi (fun v6 ev6 => ?_)
          have tv6 : 0 ≤ v6.toInt ∧ v6.toInt ≤ 8 := by rw [ev6]; exact hI.2 12 53 _
          refine lv_bipush (v := 8) hx hb dX12_turns_32 (by decide) ?_
          refine lv_icmp_ne (tgt := 40) hx hb dX12_turns_34 (by decide) (fun c7 => ?_) (fun c7 => ?_)
          · have fc7 := z_ne (rfl : (v6).toInt = _) (by decide : (8 : Int32).toInt = 8) c7
            refine lv_aload_n hx hb dX12_turns_40 rfl (lv_at hl 0 rfl) ?_
            refine gM_12_54 hx hb ht hown hK hP m_1193 dX12_turns_41 ?_
            refine lv_bipush (v := 8) hx hb dX12_turns_44 (by decide) ?_
            refine lv_iload_n hx hb dX12_turns_46 rfl (lv_at hl 1 rfl) ?_
            refine lv_imul hx hb dX12_turns_47 ?_
            refine lv_topi (fun v8 ev8 => ?_)
            have tv8 := z_mul ev8 (by decide : (8 : Int32).toInt = 8) (rfl : (a).toInt = _) (by omega) (by omega)
            refine lv_aload_n hx hb dX12_turns_48 rfl (lv_at hl 0 rfl) ?_
            refine gM_12_53 hx hb ht hown hK hP m_1192 dX12_turns_49 ?_
            refine lv_iload_n hx hb dX12_turns_52 rfl (lv_at hl 1 rfl) ?_
            refine lM_12_53 hx hb hK hP (f := (fa 12 53)) rfl (vp_in_iff.mpr ⟨by omega, by omega⟩) dX12_turns_53 ?_
            refine lv_topi (fun v9 ev9 => ?_)
            obtain rfl : v6 = v9 := ev6.trans ev9.symm
            refine lv_iadd hx hb dX12_turns_54 ?_
            refine lv_topi (fun v10 ev10 => ?_)
            have tv10 := z_add ev10 (rfl : (v8).toInt = _) (rfl : (v6).toInt = _) (by omega) (by omega)
            refine lv_iload_n hx hb dX12_turns_55 rfl (lv_at hl 2 rfl) ?_
            refine tM_12_54 hx hb hK hP hD hS (f0 := (fa 12 54)) rfl (i := v10) (x := b) (vp_in_iff.mpr ⟨by omega, by omega⟩) dX12_turns_56 (fun f11 ef11 H locs hP hD hS => ?_)
            have hf11 : ∀ j, inb (bA 12 54 j) (f11 j) := fun j => full_i _
            refine lv_aload_n hx hb dX12_turns_57 rfl (lv_at hl 0 rfl) ?_
            refine gM_12_53 hx hb ht hown hK hP m_1192 dX12_turns_58 ?_
            refine lv_iload_n hx hb dX12_turns_61 rfl (lv_at hl 1 rfl) ?_
            refine lv_dup2_11 hx hb dX12_turns_62 rfl rfl ?_
            refine lM_12_53 hx hb hK hP (f := (fa 12 53)) rfl (vp_in_iff.mpr ⟨by omega, by omega⟩) dX12_turns_63 ?_
            refine lv_topi (fun v12 ev12 => ?_)
            obtain rfl : v6 = v12 := ev6.trans ev12.symm
            refine lv_iconst (v := 1) hx hb dX12_turns_64 (by decide) ?_
            refine lv_iadd hx hb dX12_turns_65 ?_
            refine lv_topi (fun v13 ev13 => ?_)
            have tv13 := z_add ev13 (rfl : (v6).toInt = _) (by decide : (1 : Int32).toInt = 1) (by omega) (by omega)
            refine tM_12_53 hx hb hK hP hD hS (f0 := (fa 12 53)) rfl (i := a) (x := v13) (vp_in_iff.mpr ⟨by omega, by omega⟩) dX12_turns_66 (fun f14 ef14 H locs hP hD hS => ?_)
            have hf14 : ∀ j, inb (bA 12 53 j) (f14 j) := by rw [ef14]; exact upd_b (b := bA 12 53) (hI.2 12 53) (show inb (0, 8) v13 from ⟨by omega, by omega⟩)
            refine lv_aload_n hx hb dX12_turns_67 rfl (lv_at hl 0 rfl) ?_
            refine gM_12_53 hx hb ht hown hK hP m_1192 dX12_turns_68 ?_
            refine lv_iload_n hx hb dX12_turns_71 rfl (lv_at hl 1 rfl) ?_
            refine lM_12_53 hx hb hK hP (f := f14) rfl (vp_in_iff.mpr ⟨by omega, by omega⟩) dX12_turns_72 ?_
            refine lv_topi (fun v15 ev15 => ?_)
            have tv15 : 0 ≤ v15.toInt ∧ v15.toInt ≤ 8 := by rw [ev15]; exact hf14 _
            have hP9 : va_P (dC, dI) classes (WM h g ca iv lv (u2 (u2 fa 12 53 f14) 12 54 f11) la) H := hP
            have hD9 : va_D A (WM h g ca iv lv (u2 (u2 fa 12 53 f14) 12 54 f11) la) := hD
            exact W.iret (v := v15) hx hb hr (fun t ht9 hW => ⟨⟨v15, (iv, lv, (u2 (u2 fa 12 53 f14) 12 54 f11), la), rfl, ⟨f14, f11, hf14, ⟨by omega, by omega⟩, rfl⟩, by rw [ht9]; exact hP9, hD9⟩, hS.F ht9⟩) hS.2.2 dX12_turns_73
          · have fc7 := z_eq (rfl : (v6).toInt = _) (by decide : (8 : Int32).toInt = 8) c7
            refine lv_ldc hx hb hown (ht _ m_1380) dX12_turns_37 ?_
            have hP9 : va_P (dC, dI) classes (WM h g ca iv lv (u2 (u2 fa 12 53 (fa 12 53)) 12 54 (fa 12 54)) la) s.heap := hP
            have hD9 : va_D A (WM h g ca iv lv (u2 (u2 fa 12 53 (fa 12 53)) 12 54 (fa 12 54)) la) := hD
            exact W.iret (v := (-100004)) hx hb hr (fun t ht9 hW => ⟨⟨(-100004), (iv, lv, (u2 (u2 fa 12 53 (fa 12 53)) 12 54 (fa 12 54)), la), rfl, ⟨(fa 12 53), (fa 12 54), (hI.2 12 53), ⟨by decide, by decide⟩, rfl⟩, by rw [ht9]; exact hP9, hD9⟩, hS.F ht9⟩) hS.2.2 dX12_turns_39
        · exact absurd c5 (by decide)
      · skip
        refine lv_if_ne (tgt := 26) hx hb dX12_turns_20 (by decide) (fun c16 => ?_) (fun c16 => ?_)
        · exact absurd rfl c16
        · skip
          refine lv_ldc hx hb hown (ht _ m_1373) dX12_turns_23 ?_
          have hP9 : va_P (dC, dI) classes (WM h g ca iv lv (u2 (u2 fa 12 53 (fa 12 53)) 12 54 (fa 12 54)) la) s.heap := hP
          have hD9 : va_D A (WM h g ca iv lv (u2 (u2 fa 12 53 (fa 12 53)) 12 54 (fa 12 54)) la) := hD
          exact W.iret (v := (-100002)) hx hb hr (fun t ht9 hW => ⟨⟨(-100002), (iv, lv, (u2 (u2 fa 12 53 (fa 12 53)) 12 54 (fa 12 54)), la), rfl, ⟨(fa 12 53), (fa 12 54), (hI.2 12 53), ⟨by decide, by decide⟩, rfl⟩, by rw [ht9]; exact hP9, hD9⟩, hS.F ht9⟩) hS.2.2 dX12_turns_25
    · exact absurd rfl c3
set_option maxHeartbeats 4000000 in
set_option maxRecDepth 100000 in
/-- X12_twist -/
theorem c_X12_twist (l : Launch) (dC : Nat → ClassId) (dI : Nat → Nat → Nat) (h : Nat) (g : Nat → Nat → Nat) (ca : Nat → Nat → ClassId) (iv : Nat → Nat → Int32) (lv : Nat → Nat → Int64) (fa : Nat → Nat → Nat → Int32) (la : Nat → Nat → Nat → Int64) (hI : IX iv fa) (a : Int32) : Met l yX12_twist (wc yX12_twist cX12_twist 8 (some .int)) ({ frames := 2, cells := 0, slots := 0, locals := 46 } : Room) (pR (dC, dI) classes (WM h g ca iv lv fa la) (TM ca) [.ref h, .int a]) (vp_Si (fun r => True)) 0 0 (fun _ => False) := by
  refine Met.ofW (cc := cX12_twist) (maxL := 8) (ret := (some .int)) (by decide) rfl ?_
  intro p e s m args below meth c s₁ B hml hv
  obtain ⟨rfl, hP, hK⟩ := hv
  have hx := B.exec
  have hb := B.bytes
  have hr := B.returns
  have ht := tb_tl (atoms_spec (ws := wc yX12_twist cX12_twist 8 (some .int)) B.pre)
  have hown : s.vm.findClass RX12 = some m.cls := findClass_of_methodNamed B.named
  have hlocks := B.notSynchronized
  have hl := lv_entry [.ref h, .int a] (n := 8) (Nat.le_of_ble_eq_true rfl)
  rw [lg_entry_eq]
  generalize (lg_sl [.ref h, .int a] ++ List.replicate (8 - (lg_sl [.ref h, .int a]).length) Slot.unset).toArray = ls at hl ⊢
  have hl : lv_has ls 8 [(0, .ref h), (1, .int a)] := hl
  refine lv_aload_n hx hb dX12_twist_0 rfl (lv_at hl 0 rfl) ?_
  refine lv_iload_n hx hb dX12_twist_1 rfl (lv_at hl 1 rfl) ?_
  refine vp_callSi (W.runV (As := [.int a]) (rest := []) ⟨hx, hb, hml, hown, ht⟩ (c_X12_noBale l dC dI h g ca iv lv fa la hI a) (kV 1 ht m_1385 m_1387 m_42 m_89 m_1388 rfl rfl hd_X12_noBale_v ⟨Nat.le_of_ble_eq_true rfl, Nat.le_of_ble_eq_true rfl⟩) (vR hP hK (rM_12 hK hP)) rfl rfl hl.1 rfl (lv_room (Nat.le_of_ble_eq_true rfl)) dX12_twist_2 ⟨Nat.le_of_ble_eq_true rfl, Nat.le_of_ble_eq_true rfl⟩) (fun r1 hr1 => ?_)
  rcases hr1 with ⟨rfl, fr1⟩ | ⟨rfl, fr1⟩
  · skip
    have i_12_1 : 0 ≤ (iv 12 1).toInt ∧ (iv 12 1).toInt ≤ 10 := hI.1 12 1
    have fr1 : ¬ (0 ≤ (a : Int32).toInt ∧ (a : Int32).toInt < ((iv 12 1) : Int32).toInt) := fr1
    refine lv_if_eq (tgt := 11) hx hb dX12_twist_5 (by decide) (fun c2 => ?_) (fun c2 => ?_)
    · exact absurd c2 (by decide)
    · skip
      refine lv_ldc hx hb hown (ht _ m_1389) dX12_twist_8 ?_
      exact W.iret (v := (-100001)) hx hb hr (fun t ht9 hW => ⟨(-100001), rfl, trivial, ht9⟩) (fun q hq => by cases hq) dX12_twist_10
  · skip
    have i_12_1 : 0 ≤ (iv 12 1).toInt ∧ (iv 12 1).toInt ≤ 10 := hI.1 12 1
    have fr1 : (0 ≤ (a : Int32).toInt ∧ (a : Int32).toInt < ((iv 12 1) : Int32).toInt) := Decidable.not_not.mp fr1
    refine lv_if_eq (tgt := 11) hx hb dX12_twist_5 (by decide) (fun c3 => ?_) (fun c3 => ?_)
    · skip
      refine lv_aload_n hx hb dX12_twist_11 rfl (lv_at hl 0 rfl) ?_
      refine gM_12_53 hx hb ht hown hK hP m_1192 dX12_twist_12 ?_
      refine lv_iload_n hx hb dX12_twist_15 rfl (lv_at hl 1 rfl) ?_
      refine lM_12_53 hx hb hK hP (f := (fa 12 53)) rfl (vp_in_iff.mpr ⟨by omega, by omega⟩) dX12_twist_16 ?_
      refine lv_topi (fun v4 ev4 => ?_)
      have tv4 : 0 ≤ v4.toInt ∧ v4.toInt ≤ 8 := by rw [ev4]; exact hI.2 12 53 _
      refine lv_istore_n (lv' := [(2, .int v4), (0, .ref h), (1, .int a)]) hx hb dX12_twist_17 rfl hl (by decide) rfl (fun ls hl => ?_)
      refine lv_iconst (v := 0) hx hb dX12_twist_18 (by decide) ?_
      refine lv_istore_n (lv' := [(3, .int 0), (2, .int v4), (0, .ref h), (1, .int a)]) hx hb dX12_twist_19 rfl hl (by decide) rfl (fun ls hl => ?_)
      have lp11313 : ∀ (nn11313 : Nat) (x11312_3 : Int32), 0 ≤ x11312_3.toInt ∧ x11312_3.toInt ≤ 8 → 8 - x11312_3.toInt < (nn11313 : Int) → ∀ (ls : Array Slot), lv_has ls 8 [(3, .int x11312_3), (2, .int v4), (0, .ref h), (1, .int a)] → W p l e ({ frames := 2, cells := 0, slots := 0, locals := 46 } : Room) s m ([.ref h, .int a] : List Value).toArray below meth c s.heap [] 0 0 (MQ below (vp_Si (fun r => True)) ([.ref h, .int a] : List Value).toArray s 0 0 (fun _ => False)) (F0 m 20 ls []) := by
        intro nn11313
        induction nn11313 with
        | zero => intro x11312_3 hx11312_3 hm11313; exfalso; omega
        | succ nn11313 ih11313 =>
          intro x11312_3 hx11312_3 hm11313 ls hl
          refine lv_iload_n hx hb dX12_twist_20 rfl (lv_at hl 0 rfl) ?_
          refine lv_iload_n hx hb dX12_twist_21 rfl (lv_at hl 1 rfl) ?_
          refine lv_icmp_ge (tgt := 122) hx hb dX12_twist_22 (by decide) (fun c11314 => ?_) (fun c11314 => ?_)
          · have fc11314 := z_le (rfl : (v4).toInt = _) (rfl : (x11312_3).toInt = _) c11314
            refine lv_iconst (v := (-1)) hx hb dX12_twist_122 (by decide) ?_
            exact W.iret (v := (-1)) hx hb hr (fun t ht9 hW => ⟨(-1), rfl, trivial, ht9⟩) (fun q hq => by cases hq) dX12_twist_123
          · have fc11314 := z_nle (rfl : (v4).toInt = _) (rfl : (x11312_3).toInt = _) c11314
            refine lv_aload_n hx hb dX12_twist_25 rfl (lv_at hl 2 rfl) ?_
            refine gM_12_54 hx hb ht hown hK hP m_1193 dX12_twist_26 ?_
            refine lv_bipush (v := 8) hx hb dX12_twist_29 (by decide) ?_
            refine lv_iload_n hx hb dX12_twist_31 rfl (lv_at hl 3 rfl) ?_
            refine lv_imul hx hb dX12_twist_32 ?_
            refine lv_topi (fun v11315 ev11315 => ?_)
            have tv11315 := z_mul ev11315 (by decide : (8 : Int32).toInt = 8) (rfl : (a).toInt = _) (by omega) (by omega)
            refine lv_iload_n hx hb dX12_twist_33 rfl (lv_at hl 0 rfl) ?_
            refine lv_iadd hx hb dX12_twist_34 ?_
            refine lv_topi (fun v11316 ev11316 => ?_)
            have tv11316 := z_add ev11316 (rfl : (v11315).toInt = _) (rfl : (x11312_3).toInt = _) (by omega) (by omega)
            refine lM_12_54 hx hb hK hP (f := (fa 12 54)) rfl (vp_in_iff.mpr ⟨by omega, by omega⟩) dX12_twist_35 ?_
            refine lv_topi (fun v11317 ev11317 => ?_)
            refine lv_istore (lv' := [(4, .int v11317), (3, .int x11312_3), (2, .int v4), (0, .ref h), (1, .int a)]) hx hb dX12_twist_36 hl (by decide) rfl (fun ls hl => ?_)
            refine lv_iconst (v := 0) hx hb dX12_twist_38 (by decide) ?_
            refine lv_istore (lv' := [(5, .int 0), (4, .int v11317), (3, .int x11312_3), (2, .int v4), (0, .ref h), (1, .int a)]) hx hb dX12_twist_39 hl (by decide) rfl (fun ls hl => ?_)
            refine lv_iconst (v := 0) hx hb dX12_twist_41 (by decide) ?_
            refine lv_istore (lv' := [(6, .int 0), (5, .int 0), (4, .int v11317), (3, .int x11312_3), (2, .int v4), (0, .ref h), (1, .int a)]) hx hb dX12_twist_42 hl (by decide) rfl (fun ls hl => ?_)
            have lp12563 : ∀ (nn12563 : Nat) (x12562_6 : Int32) (x12562_5 : Int32), 0 ≤ x12562_6.toInt ∧ x12562_6.toInt ≤ 8 → 8 - x12562_6.toInt < (nn12563 : Int) → ∀ (ls : Array Slot), lv_has ls 8 [(6, .int x12562_6), (5, .int x12562_5), (4, .int v11317), (3, .int x11312_3), (2, .int v4), (0, .ref h), (1, .int a)] → W p l e ({ frames := 2, cells := 0, slots := 0, locals := 46 } : Room) s m ([.ref h, .int a] : List Value).toArray below meth c s.heap [] 0 0 (MQ below (vp_Si (fun r => True)) ([.ref h, .int a] : List Value).toArray s 0 0 (fun _ => False)) (F0 m 44 ls []) := by
              intro nn12563
              induction nn12563 with
              | zero => intro x12562_6 x12562_5 hx12562_6 hm12563; exfalso; omega
              | succ nn12563 ih12563 =>
                intro x12562_6 x12562_5 hx12562_6 hm12563 ls hl
                refine lv_iload hx hb dX12_twist_44 (lv_at hl 0 rfl) ?_
                refine lv_iload_n hx hb dX12_twist_46 rfl (lv_at hl 4 rfl) ?_
                refine lv_icmp_ge (tgt := 103) hx hb dX12_twist_47 (by decide) (fun c12564 => ?_) (fun c12564 => ?_)
                · have fc12564 := z_le (rfl : (v4).toInt = _) (rfl : (x12562_6).toInt = _) c12564
                  refine lv_iload hx hb dX12_twist_103 (lv_at hl 1 rfl) ?_
                  refine lv_iload_n hx hb dX12_twist_105 rfl (lv_at hl 4 rfl) ?_
                  refine lv_iconst (v := 1) hx hb dX12_twist_106 (by decide) ?_
                  refine lv_isub hx hb dX12_twist_107 ?_
                  refine lv_topi (fun v12565 ev12565 => ?_)
                  have tv12565 := z_sub ev12565 (rfl : (v4).toInt = _) (by decide : (1 : Int32).toInt = 1) (by omega) (by omega)
                  refine lv_iconst (v := 2) hx hb dX12_twist_108 (by decide) ?_
                  refine lv_idiv hx hb dX12_twist_109 (by decide) ?_
                  refine lv_topi (fun v12566 ev12566 => ?_)
                  have tv12566 := z_divp ev12566 (rfl : (v12565).toInt = _) (by decide : (2 : Int32).toInt = 2) (by omega) (by omega)
                  refine lv_icmp_ne (tgt := 116) hx hb dX12_twist_110 (by decide) (fun c12567 => ?_) (fun c12567 => ?_)
                  · have fc12567 := z_ne (rfl : (x12562_5).toInt = _) (rfl : (v12566).toInt = _) c12567
                    obtain ⟨v12568, ev12568⟩ : ∃ y : Int32, y = x11312_3 + 1 := ⟨_, rfl⟩
                    have tv12568 := z_add ev12568 rfl (by decide : (1 : Int32).toInt = 1) (by omega) (by omega)
                    refine lv_iinc (v := v12568) (lv' := [(3, .int v12568), (6, .int x12562_6), (5, .int x12562_5), (4, .int v11317), (2, .int v4), (0, .ref h), (1, .int a)]) hx hb dX12_twist_116 hl (k := 3) rfl (by rw [ev12568]; rfl) (by decide) rfl (fun ls hl => ?_)
                    refine lv_goto (tgt := 20) hx hb dX12_twist_119 (by decide) ?_
                    exact ih11313 v12568 ⟨by omega, by omega⟩ (by omega) ls (lv_sub hl [0, 4, 5, 6] rfl)
                  · have fc12567 := z_eq (rfl : (x12562_5).toInt = _) (rfl : (v12566).toInt = _) c12567
                    refine lv_iload hx hb dX12_twist_113 (lv_at hl 2 rfl) ?_
                    exact W.iret (v := v11317) hx hb hr (fun t ht9 hW => ⟨v11317, rfl, trivial, ht9⟩) (fun q hq => by cases hq) dX12_twist_115
                · have fc12564 := z_nle (rfl : (v4).toInt = _) (rfl : (x12562_6).toInt = _) c12564
                  refine lv_aload_n hx hb dX12_twist_50 rfl (lv_at hl 5 rfl) ?_
                  refine gM_12_54 hx hb ht hown hK hP m_1193 dX12_twist_51 ?_
                  refine lv_bipush (v := 8) hx hb dX12_twist_54 (by decide) ?_
                  refine lv_iload_n hx hb dX12_twist_56 rfl (lv_at hl 6 rfl) ?_
                  refine lv_imul hx hb dX12_twist_57 ?_
                  refine lv_topi (fun v12569 ev12569 => ?_)
                  obtain rfl : v11315 = v12569 := ev11315.trans ev12569.symm
                  refine lv_iload hx hb dX12_twist_58 (lv_at hl 0 rfl) ?_
                  refine lv_iadd hx hb dX12_twist_60 ?_
                  refine lv_topi (fun v12570 ev12570 => ?_)
                  have tv12570 := z_add ev12570 (rfl : (v11315).toInt = _) (rfl : (x12562_6).toInt = _) (by omega) (by omega)
                  refine lM_12_54 hx hb hK hP (f := (fa 12 54)) rfl (vp_in_iff.mpr ⟨by omega, by omega⟩) dX12_twist_61 ?_
                  refine lv_topi (fun v12571 ev12571 => ?_)
                  refine lv_istore (lv' := [(7, .int v12571), (6, .int x12562_6), (5, .int x12562_5), (4, .int v11317), (3, .int x11312_3), (2, .int v4), (0, .ref h), (1, .int a)]) hx hb dX12_twist_62 hl (by decide) rfl (fun ls hl => ?_)
                  refine lv_iload hx hb dX12_twist_64 (lv_at hl 2 rfl) ?_
                  refine lv_iload hx hb dX12_twist_66 (lv_at hl 0 rfl) ?_
                  refine lv_iload hx hb dX12_twist_68 (lv_at hl 3 rfl) ?_
                  refine lv_icmp_lt (tgt := 86) hx hb dX12_twist_70 (by decide) (fun c12572 => ?_) (fun c12572 => ?_)
                  · have fc12572 := z_lt (rfl : (v12571).toInt = _) (rfl : (v11317).toInt = _) c12572
                    refine lv_iconst (v := 1) hx hb dX12_twist_86 (by decide) ?_
                    refine lv_goto (tgt := 91) hx hb dX12_twist_87 (by decide) ?_
                    refine vp_callSi (W.runS (As := [.int 1]) (rest := [.int x12562_5]) ⟨hx, hb, hml, hown, ht⟩ (c_X12_bit l dC dI 1 ⟨by decide, by decide⟩) (kS 1 ht m_1396 m_1397 m_89 m_1398 rfl rfl hd_X12_bit_v ⟨Nat.le_of_ble_eq_true rfl, Nat.le_of_ble_eq_true rfl⟩) (sR noP (hK.sub (tys' := []) [] rfl)) rfl rfl hl.1 rfl (lv_room (Nat.le_of_ble_eq_true rfl)) dX12_twist_91 ⟨Nat.le_of_ble_eq_true rfl, Nat.le_of_ble_eq_true rfl⟩) (fun r12573 hr12573 => ?_)
                    refine lv_iadd hx hb dX12_twist_94 ?_
                    refine lv_topi (fun v12574 ev12574 => ?_)
                    refine lv_istore (lv' := [(5, .int v12574), (7, .int v12571), (6, .int x12562_6), (4, .int v11317), (3, .int x11312_3), (2, .int v4), (0, .ref h), (1, .int a)]) hx hb dX12_twist_95 hl (by decide) rfl (fun ls hl => ?_)
                    obtain ⟨v12575, ev12575⟩ : ∃ y : Int32, y = x12562_6 + 1 := ⟨_, rfl⟩
                    have tv12575 := z_add ev12575 rfl (by decide : (1 : Int32).toInt = 1) (by omega) (by omega)
                    refine lv_iinc (v := v12575) (lv' := [(6, .int v12575), (5, .int v12574), (7, .int v12571), (4, .int v11317), (3, .int x11312_3), (2, .int v4), (0, .ref h), (1, .int a)]) hx hb dX12_twist_97 hl (k := 2) rfl (by rw [ev12575]; rfl) (by decide) rfl (fun ls hl => ?_)
                    refine lv_goto (tgt := 44) hx hb dX12_twist_100 (by decide) ?_
                    exact ih12563 v12575 v12574 ⟨by omega, by omega⟩ (by omega) ls (lv_sub hl [0, 1, 3, 4, 5, 6, 7] rfl)
                  · have fc12572 := z_nlt (rfl : (v12571).toInt = _) (rfl : (v11317).toInt = _) c12572
                    refine lv_iload hx hb dX12_twist_73 (lv_at hl 0 rfl) ?_
                    refine lv_iload hx hb dX12_twist_75 (lv_at hl 3 rfl) ?_
                    refine lv_icmp_ne (tgt := 90) hx hb dX12_twist_77 (by decide) (fun c12576 => ?_) (fun c12576 => ?_)
                    · have fc12576 := z_ne (rfl : (v12571).toInt = _) (rfl : (v11317).toInt = _) c12576
                      refine lv_iconst (v := 0) hx hb dX12_twist_90 (by decide) ?_
                      refine vp_callSi (W.runS (As := [.int 0]) (rest := [.int x12562_5]) ⟨hx, hb, hml, hown, ht⟩ (c_X12_bit l dC dI 0 ⟨by decide, by decide⟩) (kS 1 ht m_1396 m_1397 m_89 m_1398 rfl rfl hd_X12_bit_v ⟨Nat.le_of_ble_eq_true rfl, Nat.le_of_ble_eq_true rfl⟩) (sR noP (hK.sub (tys' := []) [] rfl)) rfl rfl hl.1 rfl (lv_room (Nat.le_of_ble_eq_true rfl)) dX12_twist_91 ⟨Nat.le_of_ble_eq_true rfl, Nat.le_of_ble_eq_true rfl⟩) (fun r12577 hr12577 => ?_)
                      refine lv_iadd hx hb dX12_twist_94 ?_
                      refine lv_topi (fun v12578 ev12578 => ?_)
                      refine lv_istore (lv' := [(5, .int v12578), (7, .int v12571), (6, .int x12562_6), (4, .int v11317), (3, .int x11312_3), (2, .int v4), (0, .ref h), (1, .int a)]) hx hb dX12_twist_95 hl (by decide) rfl (fun ls hl => ?_)
                      obtain ⟨v12579, ev12579⟩ : ∃ y : Int32, y = x12562_6 + 1 := ⟨_, rfl⟩
                      have tv12579 := z_add ev12579 rfl (by decide : (1 : Int32).toInt = 1) (by omega) (by omega)
                      refine lv_iinc (v := v12579) (lv' := [(6, .int v12579), (5, .int v12578), (7, .int v12571), (4, .int v11317), (3, .int x11312_3), (2, .int v4), (0, .ref h), (1, .int a)]) hx hb dX12_twist_97 hl (k := 2) rfl (by rw [ev12579]; rfl) (by decide) rfl (fun ls hl => ?_)
                      refine lv_goto (tgt := 44) hx hb dX12_twist_100 (by decide) ?_
                      exact ih12563 v12579 v12578 ⟨by omega, by omega⟩ (by omega) ls (lv_sub hl [0, 1, 3, 4, 5, 6, 7] rfl)
                    · have fc12576 := z_eq (rfl : (v12571).toInt = _) (rfl : (v11317).toInt = _) c12576
                      refine lv_iload hx hb dX12_twist_80 (lv_at hl 1 rfl) ?_
                      refine lv_iload_n hx hb dX12_twist_82 rfl (lv_at hl 4 rfl) ?_
                      refine lv_icmp_ge (tgt := 90) hx hb dX12_twist_83 (by decide) (fun c12580 => ?_) (fun c12580 => ?_)
                      · have fc12580 := z_le (rfl : (x11312_3).toInt = _) (rfl : (x12562_6).toInt = _) c12580
                        refine lv_iconst (v := 0) hx hb dX12_twist_90 (by decide) ?_
                        refine vp_callSi (W.runS (As := [.int 0]) (rest := [.int x12562_5]) ⟨hx, hb, hml, hown, ht⟩ (c_X12_bit l dC dI 0 ⟨by decide, by decide⟩) (kS 1 ht m_1396 m_1397 m_89 m_1398 rfl rfl hd_X12_bit_v ⟨Nat.le_of_ble_eq_true rfl, Nat.le_of_ble_eq_true rfl⟩) (sR noP (hK.sub (tys' := []) [] rfl)) rfl rfl hl.1 rfl (lv_room (Nat.le_of_ble_eq_true rfl)) dX12_twist_91 ⟨Nat.le_of_ble_eq_true rfl, Nat.le_of_ble_eq_true rfl⟩) (fun r12581 hr12581 => ?_)
                        refine lv_iadd hx hb dX12_twist_94 ?_
                        refine lv_topi (fun v12582 ev12582 => ?_)
                        refine lv_istore (lv' := [(5, .int v12582), (7, .int v12571), (6, .int x12562_6), (4, .int v11317), (3, .int x11312_3), (2, .int v4), (0, .ref h), (1, .int a)]) hx hb dX12_twist_95 hl (by decide) rfl (fun ls hl => ?_)
                        obtain ⟨v12583, ev12583⟩ : ∃ y : Int32, y = x12562_6 + 1 := ⟨_, rfl⟩
                        have tv12583 := z_add ev12583 rfl (by decide : (1 : Int32).toInt = 1) (by omega) (by omega)
                        refine lv_iinc (v := v12583) (lv' := [(6, .int v12583), (5, .int v12582), (7, .int v12571), (4, .int v11317), (3, .int x11312_3), (2, .int v4), (0, .ref h), (1, .int a)]) hx hb dX12_twist_97 hl (k := 2) rfl (by rw [ev12583]; rfl) (by decide) rfl (fun ls hl => ?_)
                        refine lv_goto (tgt := 44) hx hb dX12_twist_100 (by decide) ?_
                        exact ih12563 v12583 v12582 ⟨by omega, by omega⟩ (by omega) ls (lv_sub hl [0, 1, 3, 4, 5, 6, 7] rfl)
                      · have fc12580 := z_nle (rfl : (x11312_3).toInt = _) (rfl : (x12562_6).toInt = _) c12580
                        refine lv_iconst (v := 1) hx hb dX12_twist_86 (by decide) ?_
                        refine lv_goto (tgt := 91) hx hb dX12_twist_87 (by decide) ?_
                        refine vp_callSi (W.runS (As := [.int 1]) (rest := [.int x12562_5]) ⟨hx, hb, hml, hown, ht⟩ (c_X12_bit l dC dI 1 ⟨by decide, by decide⟩) (kS 1 ht m_1396 m_1397 m_89 m_1398 rfl rfl hd_X12_bit_v ⟨Nat.le_of_ble_eq_true rfl, Nat.le_of_ble_eq_true rfl⟩) (sR noP (hK.sub (tys' := []) [] rfl)) rfl rfl hl.1 rfl (lv_room (Nat.le_of_ble_eq_true rfl)) dX12_twist_91 ⟨Nat.le_of_ble_eq_true rfl, Nat.le_of_ble_eq_true rfl⟩) (fun r12584 hr12584 => ?_)
                        refine lv_iadd hx hb dX12_twist_94 ?_
                        refine lv_topi (fun v12585 ev12585 => ?_)
                        refine lv_istore (lv' := [(5, .int v12585), (7, .int v12571), (6, .int x12562_6), (4, .int v11317), (3, .int x11312_3), (2, .int v4), (0, .ref h), (1, .int a)]) hx hb dX12_twist_95 hl (by decide) rfl (fun ls hl => ?_)
                        obtain ⟨v12586, ev12586⟩ : ∃ y : Int32, y = x12562_6 + 1 := ⟨_, rfl⟩
                        have tv12586 := z_add ev12586 rfl (by decide : (1 : Int32).toInt = 1) (by omega) (by omega)
                        refine lv_iinc (v := v12586) (lv' := [(6, .int v12586), (5, .int v12585), (7, .int v12571), (4, .int v11317), (3, .int x11312_3), (2, .int v4), (0, .ref h), (1, .int a)]) hx hb dX12_twist_97 hl (k := 2) rfl (by rw [ev12586]; rfl) (by decide) rfl (fun ls hl => ?_)
                        refine lv_goto (tgt := 44) hx hb dX12_twist_100 (by decide) ?_
                        exact ih12563 v12586 v12585 ⟨by omega, by omega⟩ (by omega) ls (lv_sub hl [0, 1, 3, 4, 5, 6, 7] rfl)
            exact lp12563 9 0 0 ⟨by decide, by decide⟩ (by first | decide | omega) ls (lv_sub hl [0, 1, 2, 3, 4, 5, 6] rfl)
      exact lp11313 9 0 ⟨by decide, by decide⟩ (by first | decide | omega) ls (lv_sub hl [0, 1, 2, 3] rfl)
    · exact absurd rfl c3
set_option maxHeartbeats 4000000 in
set_option maxRecDepth 100000 in
/-- X12_burnt -/
theorem c_X12_burnt (l : Launch) (dC : Nat → ClassId) (dI : Nat → Nat → Nat) (sz : Nat) (h : Nat) (g : Nat → Nat → Nat) (ca : Nat → Nat → ClassId) (iv : Nat → Nat → Int32) (lv : Nat → Nat → Int64) (fa : Nat → Nat → Nat → Int32) (la : Nat → Nat → Nat → Int64) (hI : IX iv fa) (a : Int32) (b : Int32) (d : Int32) (k : Int32) : Met l yX12_burnt (wc yX12_burnt cX12_burnt 5 (some .int)) ({ frames := 2, cells := 0, slots := 0, locals := 46 } : Room) (pW (dC, dI) classes (WM h g ca iv lv fa la) (TM ca) sz [.ref h, .int a, .int b, .int d, .int k]) (va_Qi (fun r (u : SS) => ∃ (na_12_55 : Nat → Int32) (na_12_56 : Nat → Int32), ((-100002) ≤ r.toInt ∧ r.toInt ≤ 1) ∧ u = (iv, lv, (u2 (u2 fa 12 55 na_12_55) 12 56 na_12_56), la)) (bM (dC, dI) h g ca (va_A (WM h g ca iv lv fa la) sz)) (va_A (WM h g ca iv lv fa la) sz)) 0 0 (va_A (WM h g ca iv lv fa la) sz) := by
  refine Met.ofW (cc := cX12_burnt) (maxL := 5) (ret := (some .int)) (by decide) rfl ?_
  intro p e s m args below meth c s₁ B hml hv
  obtain ⟨rfl, hsz, hP, hK, hD0⟩ := hv
  have hx := B.exec
  have hb := B.bytes
  have hr := B.returns
  have ht := tb_tl (atoms_spec (ws := wc yX12_burnt cX12_burnt 5 (some .int)) B.pre)
  have hown : s.vm.findClass RX12 = some m.cls := findClass_of_methodNamed B.named
  have hlocks := B.notSynchronized
  subst hsz
  have hD := hD0.self (sz := s.heap.size)
  generalize hAe : va_A (WM h g ca iv lv fa la) s.heap.size = A at hD ⊢
  have hA : ∀ q : Nat, s.heap.size ≤ q → A q := fun q h => by rw [← hAe]; exact Or.inr h
  have hS : va_S A s.heap s.heap [] := va_S.rf
  have hl := lv_entry [.ref h, .int a, .int b, .int d, .int k] (n := 5) (Nat.le_of_ble_eq_true rfl)
  rw [lg_entry_eq]
  generalize (lg_sl [.ref h, .int a, .int b, .int d, .int k] ++ List.replicate (5 - (lg_sl [.ref h, .int a, .int b, .int d, .int k]).length) Slot.unset).toArray = ls at hl ⊢
  have hl : lv_has ls 5 [(0, .ref h), (1, .int a), (2, .int b), (3, .int d), (4, .int k)] := hl
  refine lv_aload_n hx hb dX12_burnt_0 rfl (lv_at hl 0 rfl) ?_
  refine lv_iload_n hx hb dX12_burnt_1 rfl (lv_at hl 1 rfl) ?_
  refine vp_callSi (W.runV (As := [.int a]) (rest := []) ⟨hx, hb, hml, hown, ht⟩ (c_X12_noBale l dC dI h g ca iv lv fa la hI a) (kV 1 ht m_1385 m_1387 m_42 m_89 m_1388 rfl rfl hd_X12_noBale_v ⟨Nat.le_of_ble_eq_true rfl, Nat.le_of_ble_eq_true rfl⟩) (vR hP hK (rM_12 hK hP)) rfl rfl hl.1 rfl (lv_room (Nat.le_of_ble_eq_true rfl)) dX12_burnt_2 ⟨Nat.le_of_ble_eq_true rfl, Nat.le_of_ble_eq_true rfl⟩) (fun r1 hr1 => ?_)
  rcases hr1 with ⟨rfl, fr1⟩ | ⟨rfl, fr1⟩
  · skip
    have i_12_1 : 0 ≤ (iv 12 1).toInt ∧ (iv 12 1).toInt ≤ 10 := hI.1 12 1
    have fr1 : ¬ (0 ≤ (a : Int32).toInt ∧ (a : Int32).toInt < ((iv 12 1) : Int32).toInt) := fr1
    refine lv_if_eq (tgt := 11) hx hb dX12_burnt_5 (by decide) (fun c2 => ?_) (fun c2 => ?_)
    · exact absurd c2 (by decide)
    · skip
      refine lv_ldc hx hb hown (ht _ m_1389) dX12_burnt_8 ?_
      have hP9 : va_P (dC, dI) classes (WM h g ca iv lv (u2 (u2 fa 12 55 (fa 12 55)) 12 56 (fa 12 56)) la) s.heap := hP
      have hD9 : va_D A (WM h g ca iv lv (u2 (u2 fa 12 55 (fa 12 55)) 12 56 (fa 12 56)) la) := hD
      exact W.iret (v := (-100001)) hx hb hr (fun t ht9 hW => ⟨⟨(-100001), (iv, lv, (u2 (u2 fa 12 55 (fa 12 55)) 12 56 (fa 12 56)), la), rfl, ⟨(fa 12 55), (fa 12 56), ⟨by decide, by decide⟩, rfl⟩, by rw [ht9]; exact hP9, hD9⟩, hS.F ht9⟩) hS.2.2 dX12_burnt_10
  · skip
    have i_12_1 : 0 ≤ (iv 12 1).toInt ∧ (iv 12 1).toInt ≤ 10 := hI.1 12 1
    have fr1 : (0 ≤ (a : Int32).toInt ∧ (a : Int32).toInt < ((iv 12 1) : Int32).toInt) := Decidable.not_not.mp fr1
    refine lv_if_eq (tgt := 11) hx hb dX12_burnt_5 (by decide) (fun c3 => ?_) (fun c3 => ?_)
    · skip
      refine lv_iload_n hx hb dX12_burnt_11 rfl (lv_at hl 2 rfl) ?_
      refine lv_i2l (v := (b.toInt64)) hx hb dX12_burnt_12 rfl ?_
      refine lv_lconst (v := 0) hx hb dX12_burnt_13 (by decide) ?_
      refine lv_lconst (v := 1) hx hb dX12_burnt_14 (by decide) ?_
      refine vp_callSi (W.runS (As := [.long (b.toInt64), .long 0, .long 1]) (rest := []) ⟨hx, hb, hml, hown, ht⟩ (c_X12_in l dC dI (b.toInt64) 0 1 (b.toInt) (0) (1) ((Int32.toInt_toInt64 b).trans rfl) (by decide : (0 : Int64).toInt = 0) (by decide : (1 : Int64).toInt = 1)) (kS 3 ht m_1370 m_1371 m_89 m_1372 rfl rfl hd_X12_in_v ⟨Nat.le_of_ble_eq_true rfl, Nat.le_of_ble_eq_true rfl⟩) (sR noP (hK.sub (tys' := []) [] rfl)) rfl rfl hl.1 rfl (lv_room (Nat.le_of_ble_eq_true rfl)) dX12_burnt_15 ⟨Nat.le_of_ble_eq_true rfl, Nat.le_of_ble_eq_true rfl⟩) (fun r4 hr4 => ?_)
      rcases hr4 with ⟨rfl, fr4⟩ | ⟨rfl, fr4⟩
      · skip
        refine lv_if_eq (tgt := 41) hx hb dX12_burnt_18 (by decide) (fun c5 => ?_) (fun c5 => ?_)
        · exact absurd c5 (by decide)
        · skip
          refine lv_iload_n hx hb dX12_burnt_21 rfl (lv_at hl 3 rfl) ?_
          refine lv_i2l (v := (d.toInt64)) hx hb dX12_burnt_22 rfl ?_
          refine lv_lconst (v := 0) hx hb dX12_burnt_23 (by decide) ?_
          refine lv_iload hx hb dX12_burnt_24 (lv_at hl 4 rfl) ?_
          refine lv_i2l (v := (k.toInt64)) hx hb dX12_burnt_26 rfl ?_
          refine vp_callSi (W.runS (As := [.long (d.toInt64), .long 0, .long (k.toInt64)]) (rest := []) ⟨hx, hb, hml, hown, ht⟩ (c_X12_in l dC dI (d.toInt64) 0 (k.toInt64) (d.toInt) (0) (k.toInt) ((Int32.toInt_toInt64 d).trans rfl) (by decide : (0 : Int64).toInt = 0) ((Int32.toInt_toInt64 k).trans rfl)) (kS 3 ht m_1370 m_1371 m_89 m_1372 rfl rfl hd_X12_in_v ⟨Nat.le_of_ble_eq_true rfl, Nat.le_of_ble_eq_true rfl⟩) (sR noP (hK.sub (tys' := []) [] rfl)) rfl rfl hl.1 rfl (lv_room (Nat.le_of_ble_eq_true rfl)) dX12_burnt_27 ⟨Nat.le_of_ble_eq_true rfl, Nat.le_of_ble_eq_true rfl⟩) (fun r6 hr6 => ?_)
          rcases hr6 with ⟨rfl, fr6⟩ | ⟨rfl, fr6⟩
          · skip
            refine lv_if_eq (tgt := 41) hx hb dX12_burnt_30 (by decide) (fun c7 => ?_) (fun c7 => ?_)
            · exact absurd c7 (by decide)
            · skip
              refine lv_iload hx hb dX12_burnt_33 (lv_at hl 4 rfl) ?_
              refine lv_sipush (v := 999) hx hb dX12_burnt_35 (by decide) ?_
              refine lv_icmp_le (tgt := 44) hx hb dX12_burnt_38 (by decide) (fun c8 => ?_) (fun c8 => ?_)
              · have fc8 := z_le (rfl : (k).toInt = _) (by decide : (999 : Int32).toInt = 999) c8
                refine lv_iload_n hx hb dX12_burnt_44 rfl (lv_at hl 2 rfl) ?_
                refine lv_if_ne (tgt := 58) hx hb dX12_burnt_45 (by decide) (fun c9 => ?_) (fun c9 => ?_)
                · have fc9 := z_ne (rfl : (b).toInt = _) (by decide : (0 : Int32).toInt = 0) c9
                  refine lv_aload_n hx hb dX12_burnt_58 rfl (lv_at hl 0 rfl) ?_
                  refine gM_12_56 hx hb ht hown hK hP m_1195 dX12_burnt_59 ?_
                  refine lv_iload_n hx hb dX12_burnt_62 rfl (lv_at hl 1 rfl) ?_
                  refine lv_iload_n hx hb dX12_burnt_63 rfl (lv_at hl 3 rfl) ?_
                  refine tM_12_56 hx hb hK hP hD hS (f0 := (fa 12 56)) rfl (i := a) (x := d) (vp_in_iff.mpr ⟨by omega, by omega⟩) dX12_burnt_64 (fun f10 ef10 H locs hP hD hS => ?_)
                  have hf10 : ∀ j, inb (bA 12 56 j) (f10 j) := fun j => full_i _
                  refine lv_iconst (v := 1) hx hb dX12_burnt_65 (by decide) ?_
                  have hP9 : va_P (dC, dI) classes (WM h g ca iv lv (u2 (u2 fa 12 55 (fa 12 55)) 12 56 f10) la) H := hP
                  have hD9 : va_D A (WM h g ca iv lv (u2 (u2 fa 12 55 (fa 12 55)) 12 56 f10) la) := hD
                  exact W.iret (v := 1) hx hb hr (fun t ht9 hW => ⟨⟨1, (iv, lv, (u2 (u2 fa 12 55 (fa 12 55)) 12 56 f10), la), rfl, ⟨(fa 12 55), f10, ⟨by decide, by decide⟩, rfl⟩, by rw [ht9]; exact hP9, hD9⟩, hS.F ht9⟩) hS.2.2 dX12_burnt_66
                · have fc9 := z_eq (rfl : (b).toInt = _) (by decide : (0 : Int32).toInt = 0) c9
                  refine lv_aload_n hx hb dX12_burnt_48 rfl (lv_at hl 0 rfl) ?_
                  refine gM_12_55 hx hb ht hown hK hP m_1194 dX12_burnt_49 ?_
                  refine lv_iload_n hx hb dX12_burnt_52 rfl (lv_at hl 1 rfl) ?_
                  refine lv_iload_n hx hb dX12_burnt_53 rfl (lv_at hl 3 rfl) ?_
                  refine tM_12_55 hx hb hK hP hD hS (f0 := (fa 12 55)) rfl (i := a) (x := d) (vp_in_iff.mpr ⟨by omega, by omega⟩) dX12_burnt_54 (fun f11 ef11 H locs hP hD hS => ?_)
                  have hf11 : ∀ j, inb (bA 12 55 j) (f11 j) := fun j => full_i _
                  refine lv_goto (tgt := 65) hx hb dX12_burnt_55 (by decide) ?_
                  refine lv_iconst (v := 1) hx hb dX12_burnt_65 (by decide) ?_
                  have hP9 : va_P (dC, dI) classes (WM h g ca iv lv (u2 (u2 fa 12 55 f11) 12 56 (fa 12 56)) la) H := hP
                  have hD9 : va_D A (WM h g ca iv lv (u2 (u2 fa 12 55 f11) 12 56 (fa 12 56)) la) := hD
                  exact W.iret (v := 1) hx hb hr (fun t ht9 hW => ⟨⟨1, (iv, lv, (u2 (u2 fa 12 55 f11) 12 56 (fa 12 56)), la), rfl, ⟨f11, (fa 12 56), ⟨by decide, by decide⟩, rfl⟩, by rw [ht9]; exact hP9, hD9⟩, hS.F ht9⟩) hS.2.2 dX12_burnt_66
              · have fc8 := z_nle (rfl : (k).toInt = _) (by decide : (999 : Int32).toInt = 999) c8
                refine lv_ldc hx hb hown (ht _ m_1373) dX12_burnt_41 ?_
                have hP9 : va_P (dC, dI) classes (WM h g ca iv lv (u2 (u2 fa 12 55 (fa 12 55)) 12 56 (fa 12 56)) la) s.heap := hP
                have hD9 : va_D A (WM h g ca iv lv (u2 (u2 fa 12 55 (fa 12 55)) 12 56 (fa 12 56)) la) := hD
                exact W.iret (v := (-100002)) hx hb hr (fun t ht9 hW => ⟨⟨(-100002), (iv, lv, (u2 (u2 fa 12 55 (fa 12 55)) 12 56 (fa 12 56)), la), rfl, ⟨(fa 12 55), (fa 12 56), ⟨by decide, by decide⟩, rfl⟩, by rw [ht9]; exact hP9, hD9⟩, hS.F ht9⟩) hS.2.2 dX12_burnt_43
          · skip
            refine lv_if_eq (tgt := 41) hx hb dX12_burnt_30 (by decide) (fun c12 => ?_) (fun c12 => ?_)
            · skip
              refine lv_ldc hx hb hown (ht _ m_1373) dX12_burnt_41 ?_
              have hP9 : va_P (dC, dI) classes (WM h g ca iv lv (u2 (u2 fa 12 55 (fa 12 55)) 12 56 (fa 12 56)) la) s.heap := hP
              have hD9 : va_D A (WM h g ca iv lv (u2 (u2 fa 12 55 (fa 12 55)) 12 56 (fa 12 56)) la) := hD
              exact W.iret (v := (-100002)) hx hb hr (fun t ht9 hW => ⟨⟨(-100002), (iv, lv, (u2 (u2 fa 12 55 (fa 12 55)) 12 56 (fa 12 56)), la), rfl, ⟨(fa 12 55), (fa 12 56), ⟨by decide, by decide⟩, rfl⟩, by rw [ht9]; exact hP9, hD9⟩, hS.F ht9⟩) hS.2.2 dX12_burnt_43
            · exact absurd rfl c12
      · skip
        refine lv_if_eq (tgt := 41) hx hb dX12_burnt_18 (by decide) (fun c13 => ?_) (fun c13 => ?_)
        · skip
          refine lv_ldc hx hb hown (ht _ m_1373) dX12_burnt_41 ?_
          have hP9 : va_P (dC, dI) classes (WM h g ca iv lv (u2 (u2 fa 12 55 (fa 12 55)) 12 56 (fa 12 56)) la) s.heap := hP
          have hD9 : va_D A (WM h g ca iv lv (u2 (u2 fa 12 55 (fa 12 55)) 12 56 (fa 12 56)) la) := hD
          exact W.iret (v := (-100002)) hx hb hr (fun t ht9 hW => ⟨⟨(-100002), (iv, lv, (u2 (u2 fa 12 55 (fa 12 55)) 12 56 (fa 12 56)), la), rfl, ⟨(fa 12 55), (fa 12 56), ⟨by decide, by decide⟩, rfl⟩, by rw [ht9]; exact hP9, hD9⟩, hS.F ht9⟩) hS.2.2 dX12_burnt_43
        · exact absurd rfl c13
    · exact absurd rfl c3
set_option maxHeartbeats 4000000 in
set_option maxRecDepth 100000 in
/-- X12_load -/
theorem c_X12_load (l : Launch) (dC : Nat → ClassId) (dI : Nat → Nat → Nat) (sz : Nat) (h : Nat) (g : Nat → Nat → Nat) (ca : Nat → Nat → ClassId) (iv : Nat → Nat → Int32) (lv : Nat → Nat → Int64) (fa : Nat → Nat → Nat → Int32) (la : Nat → Nat → Nat → Int64) (hI : IX iv fa) (a : Int32) : Met l yX12_load (wc yX12_load cX12_load 2 (some .int)) ({ frames := 1, cells := 0, slots := 0, locals := 25 } : Room) (pW (dC, dI) classes (WM h g ca iv lv fa la) (TM ca) sz [.ref h, .int a]) (va_Qi (fun r (u : SS) => ∃ (na_12_58 : Nat → Int32) (ni_12_57 : Int32), inb (bI 12 57) ni_12_57 ∧ ((-100004) ≤ r.toInt ∧ r.toInt ≤ 8) ∧ u = ((u2 iv 12 57 ni_12_57), lv, (u2 fa 12 58 na_12_58), la)) (bM (dC, dI) h g ca (va_A (WM h g ca iv lv fa la) sz)) (va_A (WM h g ca iv lv fa la) sz)) 0 0 (va_A (WM h g ca iv lv fa la) sz) := by
  refine Met.ofW (cc := cX12_load) (maxL := 2) (ret := (some .int)) (by decide) rfl ?_
  intro p e s m args below meth c s₁ B hml hv
  obtain ⟨rfl, hsz, hP, hK, hD0⟩ := hv
  have hx := B.exec
  have hb := B.bytes
  have hr := B.returns
  have ht := tb_tl (atoms_spec (ws := wc yX12_load cX12_load 2 (some .int)) B.pre)
  have hown : s.vm.findClass RX12 = some m.cls := findClass_of_methodNamed B.named
  have hlocks := B.notSynchronized
  subst hsz
  have hD := hD0.self (sz := s.heap.size)
  generalize hAe : va_A (WM h g ca iv lv fa la) s.heap.size = A at hD ⊢
  have hA : ∀ q : Nat, s.heap.size ≤ q → A q := fun q h => by rw [← hAe]; exact Or.inr h
  have hS : va_S A s.heap s.heap [] := va_S.rf
  have hl := lv_entry [.ref h, .int a] (n := 2) (Nat.le_of_ble_eq_true rfl)
  rw [lg_entry_eq]
  generalize (lg_sl [.ref h, .int a] ++ List.replicate (2 - (lg_sl [.ref h, .int a]).length) Slot.unset).toArray = ls at hl ⊢
  have hl : lv_has ls 2 [(0, .ref h), (1, .int a)] := hl
  refine lv_iload_n hx hb dX12_load_0 rfl (lv_at hl 1 rfl) ?_
  refine lv_i2l (v := (a.toInt64)) hx hb dX12_load_1 rfl ?_
  refine lv_lconst (v := 1) hx hb dX12_load_2 (by decide) ?_
  refine lv_ldc2 hx hb hown (ht _ m_1369) dX12_load_3 ?_
  refine vp_callSi (W.runS (As := [.long (a.toInt64), .long 1, .long 999]) (rest := []) ⟨hx, hb, hml, hown, ht⟩ (c_X12_in l dC dI (a.toInt64) 1 999 (a.toInt) (1) (999) ((Int32.toInt_toInt64 a).trans rfl) (by decide : (1 : Int64).toInt = 1) (by decide : (999 : Int64).toInt = 999)) (kS 3 ht m_1370 m_1371 m_89 m_1372 rfl rfl hd_X12_in_v ⟨Nat.le_of_ble_eq_true rfl, Nat.le_of_ble_eq_true rfl⟩) (sR noP (hK.sub (tys' := []) [] rfl)) rfl rfl hl.1 rfl (lv_room (Nat.le_of_ble_eq_true rfl)) dX12_load_6 ⟨Nat.le_of_ble_eq_true rfl, Nat.le_of_ble_eq_true rfl⟩) (fun r1 hr1 => ?_)
  rcases hr1 with ⟨rfl, fr1⟩ | ⟨rfl, fr1⟩
  · skip
    refine lv_if_ne (tgt := 15) hx hb dX12_load_9 (by decide) (fun c2 => ?_) (fun c2 => ?_)
    · skip
      refine lv_aload_n hx hb dX12_load_15 rfl (lv_at hl 0 rfl) ?_
      have i_12_57 : 0 ≤ (iv 12 57).toInt ∧ (iv 12 57).toInt ≤ 8 := hI.1 12 57
      refine gM_12_57 hx hb ht hown hK hP m_1196 (v := (iv 12 57)) rfl dX12_load_16 ?_
      refine lv_bipush (v := 8) hx hb dX12_load_19 (by decide) ?_
      refine lv_icmp_ne (tgt := 27) hx hb dX12_load_21 (by decide) (fun c3 => ?_) (fun c3 => ?_)
      · have fc3 := z_ne (rfl : ((iv 12 57)).toInt = _) (by decide : (8 : Int32).toInt = 8) c3
        refine lv_aload_n hx hb dX12_load_27 rfl (lv_at hl 0 rfl) ?_
        refine gM_12_58 hx hb ht hown hK hP m_1197 dX12_load_28 ?_
        refine lv_aload_n hx hb dX12_load_31 rfl (lv_at hl 0 rfl) ?_
        refine gM_12_57 hx hb ht hown hK hP m_1196 (v := (iv 12 57)) rfl dX12_load_32 ?_
        refine lv_iload_n hx hb dX12_load_35 rfl (lv_at hl 1 rfl) ?_
        refine tM_12_58 hx hb hK hP hD hS (f0 := (fa 12 58)) rfl (i := (iv 12 57)) (x := a) (vp_in_iff.mpr ⟨by omega, by omega⟩) dX12_load_36 (fun f4 ef4 H locs hP hD hS => ?_)
        have hf4 : ∀ j, inb (bA 12 58 j) (f4 j) := fun j => full_i _
        refine lv_aload_n hx hb dX12_load_37 rfl (lv_at hl 0 rfl) ?_
        refine lv_dup hx hb dX12_load_38 rfl ?_
        refine gM_12_57 hx hb ht hown hK hP m_1196 (v := (iv 12 57)) rfl dX12_load_39 ?_
        refine lv_iconst (v := 1) hx hb dX12_load_42 (by decide) ?_
        refine lv_iadd hx hb dX12_load_43 ?_
        refine lv_topi (fun v5 ev5 => ?_)
        have tv5 := z_add ev5 (rfl : ((iv 12 57)).toInt = _) (by decide : (1 : Int32).toInt = 1) (by omega) (by omega)
        refine pM_12_57 (v := v5) hx hb ht hown hK hP hD hS m_1196 dX12_load_44 (fun H locs hP hD hS => ?_)
        refine lv_aload_n hx hb dX12_load_47 rfl (lv_at hl 0 rfl) ?_
        refine gM_12_57 hx hb ht hown hK hP m_1196 (v := v5) rfl dX12_load_48 ?_
        have hP9 : va_P (dC, dI) classes (WM h g ca (u2 iv 12 57 v5) lv (u2 fa 12 58 f4) la) H := hP
        have hD9 : va_D A (WM h g ca (u2 iv 12 57 v5) lv (u2 fa 12 58 f4) la) := hD
        exact W.iret (v := v5) hx hb hr (fun t ht9 hW => ⟨⟨v5, ((u2 iv 12 57 v5), lv, (u2 fa 12 58 f4), la), rfl, ⟨f4, v5, (show inb (0, 8) v5 from ⟨by omega, by omega⟩), ⟨by omega, by omega⟩, rfl⟩, by rw [ht9]; exact hP9, hD9⟩, hS.F ht9⟩) hS.2.2 dX12_load_51
      · have fc3 := z_eq (rfl : ((iv 12 57)).toInt = _) (by decide : (8 : Int32).toInt = 8) c3
        refine lv_ldc hx hb hown (ht _ m_1380) dX12_load_24 ?_
        have hP9 : va_P (dC, dI) classes (WM h g ca (u2 iv 12 57 (iv 12 57)) lv (u2 fa 12 58 (fa 12 58)) la) s.heap := hP
        have hD9 : va_D A (WM h g ca (u2 iv 12 57 (iv 12 57)) lv (u2 fa 12 58 (fa 12 58)) la) := hD
        exact W.iret (v := (-100004)) hx hb hr (fun t ht9 hW => ⟨⟨(-100004), ((u2 iv 12 57 (iv 12 57)), lv, (u2 fa 12 58 (fa 12 58)), la), rfl, ⟨(fa 12 58), (iv 12 57), (hI.1 12 57), ⟨by decide, by decide⟩, rfl⟩, by rw [ht9]; exact hP9, hD9⟩, hS.F ht9⟩) hS.2.2 dX12_load_26
    · exact absurd c2 (by decide)
  · skip
    refine lv_if_ne (tgt := 15) hx hb dX12_load_9 (by decide) (fun c6 => ?_) (fun c6 => ?_)
    · exact absurd rfl c6
    · skip
      refine lv_ldc hx hb hown (ht _ m_1373) dX12_load_12 ?_
      have hP9 : va_P (dC, dI) classes (WM h g ca (u2 iv 12 57 (iv 12 57)) lv (u2 fa 12 58 (fa 12 58)) la) s.heap := hP
      have hD9 : va_D A (WM h g ca (u2 iv 12 57 (iv 12 57)) lv (u2 fa 12 58 (fa 12 58)) la) := hD
      exact W.iret (v := (-100002)) hx hb hr (fun t ht9 hW => ⟨⟨(-100002), ((u2 iv 12 57 (iv 12 57)), lv, (u2 fa 12 58 (fa 12 58)), la), rfl, ⟨(fa 12 58), (iv 12 57), (hI.1 12 57), ⟨by decide, by decide⟩, rfl⟩, by rw [ht9]; exact hP9, hD9⟩, hS.F ht9⟩) hS.2.2 dX12_load_14
set_option maxHeartbeats 4000000 in
set_option maxRecDepth 100000 in
/-- X12_empty -/
theorem c_X12_empty (l : Launch) (dC : Nat → ClassId) (dI : Nat → Nat → Nat) (sz : Nat) (h : Nat) (g : Nat → Nat → Nat) (ca : Nat → Nat → ClassId) (iv : Nat → Nat → Int32) (lv : Nat → Nat → Int64) (fa : Nat → Nat → Nat → Int32) (la : Nat → Nat → Nat → Int64) (hI : IX iv fa) : Met l yX12_empty (wc yX12_empty cX12_empty 2 (some .int)) ({ frames := 0, cells := 0, slots := 0, locals := 0 } : Room) (pW (dC, dI) classes (WM h g ca iv lv fa la) (TM ca) sz [.ref h]) (va_Qi (fun r (u : SS) => ∃ (ni_12_57 : Int32), inb (bI 12 57) ni_12_57 ∧ (0 ≤ r.toInt ∧ r.toInt ≤ 8) ∧ u = ((u2 iv 12 57 ni_12_57), lv, fa, la)) (bM (dC, dI) h g ca (va_A (WM h g ca iv lv fa la) sz)) (va_A (WM h g ca iv lv fa la) sz)) 0 0 (va_A (WM h g ca iv lv fa la) sz) := by
  refine Met.ofW (cc := cX12_empty) (maxL := 2) (ret := (some .int)) (by decide) rfl ?_
  intro p e s m args below meth c s₁ B hml hv
  obtain ⟨rfl, hsz, hP, hK, hD0⟩ := hv
  have hx := B.exec
  have hb := B.bytes
  have hr := B.returns
  have ht := tb_tl (atoms_spec (ws := wc yX12_empty cX12_empty 2 (some .int)) B.pre)
  have hown : s.vm.findClass RX12 = some m.cls := findClass_of_methodNamed B.named
  have hlocks := B.notSynchronized
  subst hsz
  have hD := hD0.self (sz := s.heap.size)
  generalize hAe : va_A (WM h g ca iv lv fa la) s.heap.size = A at hD ⊢
  have hA : ∀ q : Nat, s.heap.size ≤ q → A q := fun q h => by rw [← hAe]; exact Or.inr h
  have hS : va_S A s.heap s.heap [] := va_S.rf
  have hl := lv_entry [.ref h] (n := 2) (Nat.le_of_ble_eq_true rfl)
  rw [lg_entry_eq]
  generalize (lg_sl [.ref h] ++ List.replicate (2 - (lg_sl [.ref h]).length) Slot.unset).toArray = ls at hl ⊢
  have hl : lv_has ls 2 [(0, .ref h)] := hl
  refine lv_aload_n hx hb dX12_empty_0 rfl (lv_at hl 0 rfl) ?_
  have i_12_57 : 0 ≤ (iv 12 57).toInt ∧ (iv 12 57).toInt ≤ 8 := hI.1 12 57
  refine gM_12_57 hx hb ht hown hK hP m_1196 (v := (iv 12 57)) rfl dX12_empty_1 ?_
  refine lv_istore_n (lv' := [(1, .int (iv 12 57)), (0, .ref h)]) hx hb dX12_empty_4 rfl hl (by decide) rfl (fun ls hl => ?_)
  refine lv_aload_n hx hb dX12_empty_5 rfl (lv_at hl 1 rfl) ?_
  refine lv_iconst (v := 0) hx hb dX12_empty_6 (by decide) ?_
  refine pM_12_57 (v := 0) hx hb ht hown hK hP hD hS m_1196 dX12_empty_7 (fun H locs hP hD hS => ?_)
  refine lv_iload_n hx hb dX12_empty_10 rfl (lv_at hl 0 rfl) ?_
  have hP9 : va_P (dC, dI) classes (WM h g ca (u2 iv 12 57 0) lv fa la) H := hP
  have hD9 : va_D A (WM h g ca (u2 iv 12 57 0) lv fa la) := hD
  exact W.iret (v := (iv 12 57)) hx hb hr (fun t ht9 hW => ⟨⟨(iv 12 57), ((u2 iv 12 57 0), lv, fa, la), rfl, ⟨0, (show inb (0, 8) 0 from ⟨by decide, by decide⟩), ⟨by omega, by omega⟩, rfl⟩, by rw [ht9]; exact hP9, hD9⟩, hS.F ht9⟩) hS.2.2 dX12_empty_11
/-! ===== m6 ===== -/
set_option maxRecDepth 100000 in
theorem m_72 : Cond.selects RX12 yX12_add yX12_add ∈ tb := tb_in 72 (by decide +kernel) rfl
set_option maxRecDepth 100000 in
theorem m_73 : Cond.selects RX12 yX12_noPaper yX12_noPaper ∈ tb := tb_in 73 (by decide +kernel) rfl
set_option maxRecDepth 100000 in
theorem m_74 : Cond.selects RX12 yX12_stands yX12_stands ∈ tb := tb_in 74 (by decide +kernel) rfl
theorem m_1201 : Cond.fieldLink RX12 417 "SilkHouseModel" "shared" "I" ∈ tb := mb_5_6 _ (List.mem_of_getElem? (i := 18) rfl)
theorem m_1202 : Cond.fieldLink RX12 133 "SilkHouseModel" "apartLow" "[I" ∈ tb := mb_5_6 _ (List.mem_of_getElem? (i := 19) rfl)
theorem m_1203 : Cond.fieldLink RX12 136 "SilkHouseModel" "apartHigh" "[I" ∈ tb := mb_5_6 _ (List.mem_of_getElem? (i := 20) rfl)
theorem m_1204 : Cond.fieldLink RX12 420 "SilkHouseModel" "spanLow" "I" ∈ tb := mb_5_6 _ (List.mem_of_getElem? (i := 21) rfl)
theorem m_1205 : Cond.fieldLink RX12 423 "SilkHouseModel" "spanHigh" "I" ∈ tb := mb_5_6 _ (List.mem_of_getElem? (i := 22) rfl)
theorem m_1207 : Cond.fieldLink RX12 139 "SilkHouseModel" "paperKind" "[I" ∈ tb := mb_5_7 _ (List.mem_of_getElem? (i := 0) rfl)
theorem m_1208 : Cond.fieldLink RX12 142 "SilkHouseModel" "paperBale" "[I" ∈ tb := mb_5_7 _ (List.mem_of_getElem? (i := 1) rfl)
theorem m_1209 : Cond.fieldLink RX12 145 "SilkHouseModel" "paperWorth" "[J" ∈ tb := mb_5_7 _ (List.mem_of_getElem? (i := 2) rfl)
theorem m_1210 : Cond.fieldLink RX12 148 "SilkHouseModel" "hangsOn" "[I" ∈ tb := mb_5_7 _ (List.mem_of_getElem? (i := 3) rfl)
theorem m_1211 : Cond.fieldLink RX12 151 "SilkHouseModel" "paperDay" "[I" ∈ tb := mb_5_7 _ (List.mem_of_getElem? (i := 4) rfl)
theorem m_1212 : Cond.fieldLink RX12 154 "SilkHouseModel" "undoneOn" "[I" ∈ tb := mb_5_7 _ (List.mem_of_getElem? (i := 5) rfl)
theorem m_1213 : Cond.fieldLink RX12 157 "SilkHouseModel" "feeOf" "[I" ∈ tb := mb_5_7 _ (List.mem_of_getElem? (i := 6) rfl)
theorem m_1676 : Cond.methodLink RX12 432 yX12_add ∈ tb := mb_7_6 _ (List.mem_of_getElem? (i := 1) rfl)
theorem m_1678 : Cond.instanceMethod yX12_add ∈ tb := mb_7_6 _ (List.mem_of_getElem? (i := 2) rfl)
theorem m_1679 : Cond.code yX12_add cX12_add 7 none ∈ tb := mb_7_6 _ (List.mem_of_getElem? (i := 3) rfl)
theorem m_1684 : Cond.methodLink RX12 436 yX12_noPaper ∈ tb := mb_7_6 _ (List.mem_of_getElem? (i := 8) rfl)
theorem m_1686 : Cond.instanceMethod yX12_noPaper ∈ tb := mb_7_6 _ (List.mem_of_getElem? (i := 9) rfl)
theorem m_1687 : Cond.code yX12_noPaper cX12_noPaper 2 (some .boolean) ∈ tb := mb_7_6 _ (List.mem_of_getElem? (i := 10) rfl)
theorem m_1688 : Cond.methodLink RX12 439 yX12_stands ∈ tb := mb_7_6 _ (List.mem_of_getElem? (i := 11) rfl)
theorem m_1690 : Cond.instanceMethod yX12_stands ∈ tb := mb_7_6 _ (List.mem_of_getElem? (i := 12) rfl)
theorem m_1691 : Cond.code yX12_stands cX12_stands 2 (some .boolean) ∈ tb := mb_7_6 _ (List.mem_of_getElem? (i := 13) rfl)
theorem hd_X12_add_v : yX12_add.cls = RX12 ∧ yX12_add.cls ≠ "java/lang/invoke/MethodHandle" ∧ yX12_add.cls ≠ "java/lang/invoke/VarHandle" ∧ (parseMethodDescriptor yX12_add.desc).map (fun d => d.parameters.length) = some 5 := by decide +kernel
theorem hd_X12_noPaper_v : yX12_noPaper.cls = RX12 ∧ yX12_noPaper.cls ≠ "java/lang/invoke/MethodHandle" ∧ yX12_noPaper.cls ≠ "java/lang/invoke/VarHandle" ∧ (parseMethodDescriptor yX12_noPaper.desc).map (fun d => d.parameters.length) = some 1 := by decide +kernel
theorem hd_X12_stands_v : yX12_stands.cls = RX12 ∧ yX12_stands.cls ≠ "java/lang/invoke/MethodHandle" ∧ yX12_stands.cls ≠ "java/lang/invoke/VarHandle" ∧ (parseMethodDescriptor yX12_stands.desc).map (fun d => d.parameters.length) = some 1 := by decide +kernel
set_option maxRecDepth 100000 in
theorem dvX12_add_0 : ([(0, .aload_n 0, 1), (1, .getfield 139, 3), (4, .aload_n 0, 1), (5, .getfield 429, 3), (8, .iload_n 1, 1), (9, .iastore, 1), (10, .aload_n 0, 1), (11, .getfield 142, 3), (14, .aload_n 0, 1), (15, .getfield 429, 3), (18, .iload_n 2, 1), (19, .iastore, 1), (20, .aload_n 0, 1), (21, .getfield 145, 3), (24, .aload_n 0, 1), (25, .getfield 429, 3), (28, .lload_n 3, 1), (29, .lastore, 1), (30, .aload_n 0, 1), (31, .getfield 148, 3), (34, .aload_n 0, 1), (35, .getfield 429, 3), (38, .iload 5, 2), (40, .iastore, 1)] : List (Nat × Instr × Nat)).all (fun q => decide (decode cX12_add q.1 = .ok (q.2.1, q.2.2))) = true := by decide +kernel
theorem dX12_add_0 : decode cX12_add 0 = .ok (.aload_n 0, 1) := all_at dvX12_add_0 0 rfl
theorem dX12_add_1 : decode cX12_add 1 = .ok (.getfield 139, 3) := all_at dvX12_add_0 1 rfl
theorem dX12_add_4 : decode cX12_add 4 = .ok (.aload_n 0, 1) := all_at dvX12_add_0 2 rfl
theorem dX12_add_5 : decode cX12_add 5 = .ok (.getfield 429, 3) := all_at dvX12_add_0 3 rfl
theorem dX12_add_8 : decode cX12_add 8 = .ok (.iload_n 1, 1) := all_at dvX12_add_0 4 rfl
theorem dX12_add_9 : decode cX12_add 9 = .ok (.iastore, 1) := all_at dvX12_add_0 5 rfl
theorem dX12_add_10 : decode cX12_add 10 = .ok (.aload_n 0, 1) := all_at dvX12_add_0 6 rfl
theorem dX12_add_11 : decode cX12_add 11 = .ok (.getfield 142, 3) := all_at dvX12_add_0 7 rfl
theorem dX12_add_14 : decode cX12_add 14 = .ok (.aload_n 0, 1) := all_at dvX12_add_0 8 rfl
theorem dX12_add_15 : decode cX12_add 15 = .ok (.getfield 429, 3) := all_at dvX12_add_0 9 rfl
theorem dX12_add_18 : decode cX12_add 18 = .ok (.iload_n 2, 1) := all_at dvX12_add_0 10 rfl
theorem dX12_add_19 : decode cX12_add 19 = .ok (.iastore, 1) := all_at dvX12_add_0 11 rfl
theorem dX12_add_20 : decode cX12_add 20 = .ok (.aload_n 0, 1) := all_at dvX12_add_0 12 rfl
theorem dX12_add_21 : decode cX12_add 21 = .ok (.getfield 145, 3) := all_at dvX12_add_0 13 rfl
theorem dX12_add_24 : decode cX12_add 24 = .ok (.aload_n 0, 1) := all_at dvX12_add_0 14 rfl
theorem dX12_add_25 : decode cX12_add 25 = .ok (.getfield 429, 3) := all_at dvX12_add_0 15 rfl
theorem dX12_add_28 : decode cX12_add 28 = .ok (.lload_n 3, 1) := all_at dvX12_add_0 16 rfl
theorem dX12_add_29 : decode cX12_add 29 = .ok (.lastore, 1) := all_at dvX12_add_0 17 rfl
theorem dX12_add_30 : decode cX12_add 30 = .ok (.aload_n 0, 1) := all_at dvX12_add_0 18 rfl
theorem dX12_add_31 : decode cX12_add 31 = .ok (.getfield 148, 3) := all_at dvX12_add_0 19 rfl
theorem dX12_add_34 : decode cX12_add 34 = .ok (.aload_n 0, 1) := all_at dvX12_add_0 20 rfl
theorem dX12_add_35 : decode cX12_add 35 = .ok (.getfield 429, 3) := all_at dvX12_add_0 21 rfl
theorem dX12_add_38 : decode cX12_add 38 = .ok (.iload 5, 2) := all_at dvX12_add_0 22 rfl
theorem dX12_add_40 : decode cX12_add 40 = .ok (.iastore, 1) := all_at dvX12_add_0 23 rfl
set_option maxRecDepth 100000 in
theorem dvX12_add_41 : ([(41, .aload_n 0, 1), (42, .getfield 151, 3), (45, .aload_n 0, 1), (46, .getfield 429, 3), (49, .aload_n 0, 1), (50, .getfield 171, 3), (53, .iastore, 1), (54, .aload_n 0, 1), (55, .getfield 154, 3), (58, .aload_n 0, 1), (59, .getfield 429, 3), (62, .iconst (-1), 1), (63, .iastore, 1), (64, .aload_n 0, 1), (65, .getfield 157, 3), (68, .aload_n 0, 1), (69, .getfield 429, 3), (72, .iload 6, 2), (74, .iastore, 1), (75, .aload_n 0, 1), (76, .dup, 1), (77, .getfield 429, 3), (80, .iconst 1, 1), (81, .iadd, 1)] : List (Nat × Instr × Nat)).all (fun q => decide (decode cX12_add q.1 = .ok (q.2.1, q.2.2))) = true := by decide +kernel
theorem dX12_add_41 : decode cX12_add 41 = .ok (.aload_n 0, 1) := all_at dvX12_add_41 0 rfl
theorem dX12_add_42 : decode cX12_add 42 = .ok (.getfield 151, 3) := all_at dvX12_add_41 1 rfl
theorem dX12_add_45 : decode cX12_add 45 = .ok (.aload_n 0, 1) := all_at dvX12_add_41 2 rfl
theorem dX12_add_46 : decode cX12_add 46 = .ok (.getfield 429, 3) := all_at dvX12_add_41 3 rfl
theorem dX12_add_49 : decode cX12_add 49 = .ok (.aload_n 0, 1) := all_at dvX12_add_41 4 rfl
theorem dX12_add_50 : decode cX12_add 50 = .ok (.getfield 171, 3) := all_at dvX12_add_41 5 rfl
theorem dX12_add_53 : decode cX12_add 53 = .ok (.iastore, 1) := all_at dvX12_add_41 6 rfl
theorem dX12_add_54 : decode cX12_add 54 = .ok (.aload_n 0, 1) := all_at dvX12_add_41 7 rfl
theorem dX12_add_55 : decode cX12_add 55 = .ok (.getfield 154, 3) := all_at dvX12_add_41 8 rfl
theorem dX12_add_58 : decode cX12_add 58 = .ok (.aload_n 0, 1) := all_at dvX12_add_41 9 rfl
theorem dX12_add_59 : decode cX12_add 59 = .ok (.getfield 429, 3) := all_at dvX12_add_41 10 rfl
theorem dX12_add_62 : decode cX12_add 62 = .ok (.iconst (-1), 1) := all_at dvX12_add_41 11 rfl
theorem dX12_add_63 : decode cX12_add 63 = .ok (.iastore, 1) := all_at dvX12_add_41 12 rfl
theorem dX12_add_64 : decode cX12_add 64 = .ok (.aload_n 0, 1) := all_at dvX12_add_41 13 rfl
theorem dX12_add_65 : decode cX12_add 65 = .ok (.getfield 157, 3) := all_at dvX12_add_41 14 rfl
theorem dX12_add_68 : decode cX12_add 68 = .ok (.aload_n 0, 1) := all_at dvX12_add_41 15 rfl
theorem dX12_add_69 : decode cX12_add 69 = .ok (.getfield 429, 3) := all_at dvX12_add_41 16 rfl
theorem dX12_add_72 : decode cX12_add 72 = .ok (.iload 6, 2) := all_at dvX12_add_41 17 rfl
theorem dX12_add_74 : decode cX12_add 74 = .ok (.iastore, 1) := all_at dvX12_add_41 18 rfl
theorem dX12_add_75 : decode cX12_add 75 = .ok (.aload_n 0, 1) := all_at dvX12_add_41 19 rfl
theorem dX12_add_76 : decode cX12_add 76 = .ok (.dup, 1) := all_at dvX12_add_41 20 rfl
theorem dX12_add_77 : decode cX12_add 77 = .ok (.getfield 429, 3) := all_at dvX12_add_41 21 rfl
theorem dX12_add_80 : decode cX12_add 80 = .ok (.iconst 1, 1) := all_at dvX12_add_41 22 rfl
theorem dX12_add_81 : decode cX12_add 81 = .ok (.iadd, 1) := all_at dvX12_add_41 23 rfl
theorem dX12_add_82 : decode cX12_add 82 = .ok (.putfield 429, 3) := by decide +kernel
theorem dX12_add_85 : decode cX12_add 85 = .ok (.return_, 1) := by decide +kernel
set_option maxRecDepth 100000 in
theorem dvX12_bill_0 : ([(0, .aload_n 0, 1), (1, .iload_n 1, 1), (2, .invokevirtual 436, 3), (5, .ifCond .eq 6, 3), (8, .ldc 187, 2), (10, .ireturn, 1), (11, .iload_n 2, 1), (12, .i2l, 1), (13, .lconst 0, 1), (14, .ldc2_w 176, 3), (17, .invokestatic 167, 3), (20, .ifCond .ne 6, 3), (23, .ldc 178, 2), (25, .ireturn, 1), (26, .aload_n 0, 1), (27, .iload_n 1, 1), (28, .invokevirtual 439, 3), (31, .ifCond .ne 6, 3), (34, .ldc 179, 2), (36, .ireturn, 1), (37, .aload_n 0, 1), (38, .getfield 429, 3), (41, .bipush 40, 2), (43, .if_icmp .ne 6, 3)] : List (Nat × Instr × Nat)).all (fun q => decide (decode cX12_bill q.1 = .ok (q.2.1, q.2.2))) = true := by decide +kernel
theorem dX12_bill_0 : decode cX12_bill 0 = .ok (.aload_n 0, 1) := all_at dvX12_bill_0 0 rfl
theorem dX12_bill_1 : decode cX12_bill 1 = .ok (.iload_n 1, 1) := all_at dvX12_bill_0 1 rfl
theorem dX12_bill_2 : decode cX12_bill 2 = .ok (.invokevirtual 436, 3) := all_at dvX12_bill_0 2 rfl
theorem dX12_bill_5 : decode cX12_bill 5 = .ok (.ifCond .eq 6, 3) := all_at dvX12_bill_0 3 rfl
theorem dX12_bill_8 : decode cX12_bill 8 = .ok (.ldc 187, 2) := all_at dvX12_bill_0 4 rfl
theorem dX12_bill_10 : decode cX12_bill 10 = .ok (.ireturn, 1) := all_at dvX12_bill_0 5 rfl
theorem dX12_bill_11 : decode cX12_bill 11 = .ok (.iload_n 2, 1) := all_at dvX12_bill_0 6 rfl
theorem dX12_bill_12 : decode cX12_bill 12 = .ok (.i2l, 1) := all_at dvX12_bill_0 7 rfl
theorem dX12_bill_13 : decode cX12_bill 13 = .ok (.lconst 0, 1) := all_at dvX12_bill_0 8 rfl
theorem dX12_bill_14 : decode cX12_bill 14 = .ok (.ldc2_w 176, 3) := all_at dvX12_bill_0 9 rfl
theorem dX12_bill_17 : decode cX12_bill 17 = .ok (.invokestatic 167, 3) := all_at dvX12_bill_0 10 rfl
theorem dX12_bill_20 : decode cX12_bill 20 = .ok (.ifCond .ne 6, 3) := all_at dvX12_bill_0 11 rfl
theorem dX12_bill_23 : decode cX12_bill 23 = .ok (.ldc 178, 2) := all_at dvX12_bill_0 12 rfl
theorem dX12_bill_25 : decode cX12_bill 25 = .ok (.ireturn, 1) := all_at dvX12_bill_0 13 rfl
theorem dX12_bill_26 : decode cX12_bill 26 = .ok (.aload_n 0, 1) := all_at dvX12_bill_0 14 rfl
theorem dX12_bill_27 : decode cX12_bill 27 = .ok (.iload_n 1, 1) := all_at dvX12_bill_0 15 rfl
theorem dX12_bill_28 : decode cX12_bill 28 = .ok (.invokevirtual 439, 3) := all_at dvX12_bill_0 16 rfl
theorem dX12_bill_31 : decode cX12_bill 31 = .ok (.ifCond .ne 6, 3) := all_at dvX12_bill_0 17 rfl
theorem dX12_bill_34 : decode cX12_bill 34 = .ok (.ldc 179, 2) := all_at dvX12_bill_0 18 rfl
theorem dX12_bill_36 : decode cX12_bill 36 = .ok (.ireturn, 1) := all_at dvX12_bill_0 19 rfl
theorem dX12_bill_37 : decode cX12_bill 37 = .ok (.aload_n 0, 1) := all_at dvX12_bill_0 20 rfl
theorem dX12_bill_38 : decode cX12_bill 38 = .ok (.getfield 429, 3) := all_at dvX12_bill_0 21 rfl
theorem dX12_bill_41 : decode cX12_bill 41 = .ok (.bipush 40, 2) := all_at dvX12_bill_0 22 rfl
theorem dX12_bill_43 : decode cX12_bill 43 = .ok (.if_icmp .ne 6, 3) := all_at dvX12_bill_0 23 rfl
set_option maxRecDepth 100000 in
theorem dvX12_bill_46 : ([(46, .ldc 182, 2), (48, .ireturn, 1), (49, .aload_n 0, 1), (50, .iconst 1, 1), (51, .aload_n 0, 1), (52, .getfield 142, 3), (55, .iload_n 1, 1), (56, .iaload, 1), (57, .aload_n 0, 1), (58, .getfield 145, 3), (61, .iload_n 1, 1), (62, .laload, 1), (63, .iload_n 2, 1), (64, .i2l, 1), (65, .lmul, 1), (66, .iload_n 1, 1), (67, .iconst 0, 1), (68, .invokevirtual 432, 3), (71, .aload_n 0, 1), (72, .getfield 429, 3), (75, .iconst 1, 1), (76, .isub, 1), (77, .ireturn, 1)] : List (Nat × Instr × Nat)).all (fun q => decide (decode cX12_bill q.1 = .ok (q.2.1, q.2.2))) = true := by decide +kernel
theorem dX12_bill_46 : decode cX12_bill 46 = .ok (.ldc 182, 2) := all_at dvX12_bill_46 0 rfl
theorem dX12_bill_48 : decode cX12_bill 48 = .ok (.ireturn, 1) := all_at dvX12_bill_46 1 rfl
theorem dX12_bill_49 : decode cX12_bill 49 = .ok (.aload_n 0, 1) := all_at dvX12_bill_46 2 rfl
theorem dX12_bill_50 : decode cX12_bill 50 = .ok (.iconst 1, 1) := all_at dvX12_bill_46 3 rfl
theorem dX12_bill_51 : decode cX12_bill 51 = .ok (.aload_n 0, 1) := all_at dvX12_bill_46 4 rfl
theorem dX12_bill_52 : decode cX12_bill 52 = .ok (.getfield 142, 3) := all_at dvX12_bill_46 5 rfl
theorem dX12_bill_55 : decode cX12_bill 55 = .ok (.iload_n 1, 1) := all_at dvX12_bill_46 6 rfl
theorem dX12_bill_56 : decode cX12_bill 56 = .ok (.iaload, 1) := all_at dvX12_bill_46 7 rfl
theorem dX12_bill_57 : decode cX12_bill 57 = .ok (.aload_n 0, 1) := all_at dvX12_bill_46 8 rfl
theorem dX12_bill_58 : decode cX12_bill 58 = .ok (.getfield 145, 3) := all_at dvX12_bill_46 9 rfl
theorem dX12_bill_61 : decode cX12_bill 61 = .ok (.iload_n 1, 1) := all_at dvX12_bill_46 10 rfl
theorem dX12_bill_62 : decode cX12_bill 62 = .ok (.laload, 1) := all_at dvX12_bill_46 11 rfl
theorem dX12_bill_63 : decode cX12_bill 63 = .ok (.iload_n 2, 1) := all_at dvX12_bill_46 12 rfl
theorem dX12_bill_64 : decode cX12_bill 64 = .ok (.i2l, 1) := all_at dvX12_bill_46 13 rfl
theorem dX12_bill_65 : decode cX12_bill 65 = .ok (.lmul, 1) := all_at dvX12_bill_46 14 rfl
theorem dX12_bill_66 : decode cX12_bill 66 = .ok (.iload_n 1, 1) := all_at dvX12_bill_46 15 rfl
theorem dX12_bill_67 : decode cX12_bill 67 = .ok (.iconst 0, 1) := all_at dvX12_bill_46 16 rfl
theorem dX12_bill_68 : decode cX12_bill 68 = .ok (.invokevirtual 432, 3) := all_at dvX12_bill_46 17 rfl
theorem dX12_bill_71 : decode cX12_bill 71 = .ok (.aload_n 0, 1) := all_at dvX12_bill_46 18 rfl
theorem dX12_bill_72 : decode cX12_bill 72 = .ok (.getfield 429, 3) := all_at dvX12_bill_46 19 rfl
theorem dX12_bill_75 : decode cX12_bill 75 = .ok (.iconst 1, 1) := all_at dvX12_bill_46 20 rfl
theorem dX12_bill_76 : decode cX12_bill 76 = .ok (.isub, 1) := all_at dvX12_bill_46 21 rfl
theorem dX12_bill_77 : decode cX12_bill 77 = .ok (.ireturn, 1) := all_at dvX12_bill_46 22 rfl
set_option maxRecDepth 100000 in
theorem dvX12_findSpan_0 : ([(0, .aload_n 0, 1), (1, .sipush (-20000), 3), (4, .putfield 420, 3), (7, .aload_n 0, 1), (8, .sipush 20000, 3), (11, .putfield 423, 3), (14, .iconst 0, 1), (15, .istore_n 2, 1), (16, .iload_n 2, 1), (17, .aload_n 0, 1), (18, .getfield 417, 3), (21, .if_icmp .ge 77, 3), (24, .iload_n 1, 1), (25, .iload_n 2, 1), (26, .ishr, 1), (27, .iconst 1, 1), (28, .iand, 1), (29, .ifCond .ne 63, 3), (32, .aload_n 0, 1), (33, .aload_n 0, 1), (34, .getfield 133, 3), (37, .iload_n 2, 1), (38, .iaload, 1), (39, .aload_n 0, 1)] : List (Nat × Instr × Nat)).all (fun q => decide (decode cX12_findSpan q.1 = .ok (q.2.1, q.2.2))) = true := by decide +kernel
theorem dX12_findSpan_0 : decode cX12_findSpan 0 = .ok (.aload_n 0, 1) := all_at dvX12_findSpan_0 0 rfl
theorem dX12_findSpan_1 : decode cX12_findSpan 1 = .ok (.sipush (-20000), 3) := all_at dvX12_findSpan_0 1 rfl
theorem dX12_findSpan_4 : decode cX12_findSpan 4 = .ok (.putfield 420, 3) := all_at dvX12_findSpan_0 2 rfl
theorem dX12_findSpan_7 : decode cX12_findSpan 7 = .ok (.aload_n 0, 1) := all_at dvX12_findSpan_0 3 rfl
theorem dX12_findSpan_8 : decode cX12_findSpan 8 = .ok (.sipush 20000, 3) := all_at dvX12_findSpan_0 4 rfl
theorem dX12_findSpan_11 : decode cX12_findSpan 11 = .ok (.putfield 423, 3) := all_at dvX12_findSpan_0 5 rfl
theorem dX12_findSpan_14 : decode cX12_findSpan 14 = .ok (.iconst 0, 1) := all_at dvX12_findSpan_0 6 rfl
theorem dX12_findSpan_15 : decode cX12_findSpan 15 = .ok (.istore_n 2, 1) := all_at dvX12_findSpan_0 7 rfl
theorem dX12_findSpan_16 : decode cX12_findSpan 16 = .ok (.iload_n 2, 1) := all_at dvX12_findSpan_0 8 rfl
theorem dX12_findSpan_17 : decode cX12_findSpan 17 = .ok (.aload_n 0, 1) := all_at dvX12_findSpan_0 9 rfl
theorem dX12_findSpan_18 : decode cX12_findSpan 18 = .ok (.getfield 417, 3) := all_at dvX12_findSpan_0 10 rfl
theorem dX12_findSpan_21 : decode cX12_findSpan 21 = .ok (.if_icmp .ge 77, 3) := all_at dvX12_findSpan_0 11 rfl
theorem dX12_findSpan_24 : decode cX12_findSpan 24 = .ok (.iload_n 1, 1) := all_at dvX12_findSpan_0 12 rfl
theorem dX12_findSpan_25 : decode cX12_findSpan 25 = .ok (.iload_n 2, 1) := all_at dvX12_findSpan_0 13 rfl
theorem dX12_findSpan_26 : decode cX12_findSpan 26 = .ok (.ishr, 1) := all_at dvX12_findSpan_0 14 rfl
theorem dX12_findSpan_27 : decode cX12_findSpan 27 = .ok (.iconst 1, 1) := all_at dvX12_findSpan_0 15 rfl
theorem dX12_findSpan_28 : decode cX12_findSpan 28 = .ok (.iand, 1) := all_at dvX12_findSpan_0 16 rfl
theorem dX12_findSpan_29 : decode cX12_findSpan 29 = .ok (.ifCond .ne 63, 3) := all_at dvX12_findSpan_0 17 rfl
theorem dX12_findSpan_32 : decode cX12_findSpan 32 = .ok (.aload_n 0, 1) := all_at dvX12_findSpan_0 18 rfl
theorem dX12_findSpan_33 : decode cX12_findSpan 33 = .ok (.aload_n 0, 1) := all_at dvX12_findSpan_0 19 rfl
theorem dX12_findSpan_34 : decode cX12_findSpan 34 = .ok (.getfield 133, 3) := all_at dvX12_findSpan_0 20 rfl
theorem dX12_findSpan_37 : decode cX12_findSpan 37 = .ok (.iload_n 2, 1) := all_at dvX12_findSpan_0 21 rfl
theorem dX12_findSpan_38 : decode cX12_findSpan 38 = .ok (.iaload, 1) := all_at dvX12_findSpan_0 22 rfl
theorem dX12_findSpan_39 : decode cX12_findSpan 39 = .ok (.aload_n 0, 1) := all_at dvX12_findSpan_0 23 rfl
set_option maxRecDepth 100000 in
theorem dvX12_findSpan_40 : ([(40, .getfield 420, 3), (43, .if_icmp .le 12, 3), (46, .aload_n 0, 1), (47, .getfield 133, 3), (50, .iload_n 2, 1), (51, .iaload, 1), (52, .goto 7, 3), (55, .aload_n 0, 1), (56, .getfield 420, 3), (59, .putfield 420, 3), (62, .aload_n 0, 1), (63, .aload_n 0, 1), (64, .getfield 136, 3), (67, .iload_n 2, 1), (68, .iaload, 1), (69, .aload_n 0, 1), (70, .getfield 423, 3), (73, .if_icmp .ge 12, 3), (76, .aload_n 0, 1), (77, .getfield 136, 3), (80, .iload_n 2, 1), (81, .iaload, 1), (82, .goto 7, 3), (85, .aload_n 0, 1)] : List (Nat × Instr × Nat)).all (fun q => decide (decode cX12_findSpan q.1 = .ok (q.2.1, q.2.2))) = true := by decide +kernel
theorem dX12_findSpan_40 : decode cX12_findSpan 40 = .ok (.getfield 420, 3) := all_at dvX12_findSpan_40 0 rfl
theorem dX12_findSpan_43 : decode cX12_findSpan 43 = .ok (.if_icmp .le 12, 3) := all_at dvX12_findSpan_40 1 rfl
theorem dX12_findSpan_46 : decode cX12_findSpan 46 = .ok (.aload_n 0, 1) := all_at dvX12_findSpan_40 2 rfl
theorem dX12_findSpan_47 : decode cX12_findSpan 47 = .ok (.getfield 133, 3) := all_at dvX12_findSpan_40 3 rfl
theorem dX12_findSpan_50 : decode cX12_findSpan 50 = .ok (.iload_n 2, 1) := all_at dvX12_findSpan_40 4 rfl
theorem dX12_findSpan_51 : decode cX12_findSpan 51 = .ok (.iaload, 1) := all_at dvX12_findSpan_40 5 rfl
theorem dX12_findSpan_52 : decode cX12_findSpan 52 = .ok (.goto 7, 3) := all_at dvX12_findSpan_40 6 rfl
theorem dX12_findSpan_55 : decode cX12_findSpan 55 = .ok (.aload_n 0, 1) := all_at dvX12_findSpan_40 7 rfl
theorem dX12_findSpan_56 : decode cX12_findSpan 56 = .ok (.getfield 420, 3) := all_at dvX12_findSpan_40 8 rfl
theorem dX12_findSpan_59 : decode cX12_findSpan 59 = .ok (.putfield 420, 3) := all_at dvX12_findSpan_40 9 rfl
theorem dX12_findSpan_62 : decode cX12_findSpan 62 = .ok (.aload_n 0, 1) := all_at dvX12_findSpan_40 10 rfl
theorem dX12_findSpan_63 : decode cX12_findSpan 63 = .ok (.aload_n 0, 1) := all_at dvX12_findSpan_40 11 rfl
theorem dX12_findSpan_64 : decode cX12_findSpan 64 = .ok (.getfield 136, 3) := all_at dvX12_findSpan_40 12 rfl
theorem dX12_findSpan_67 : decode cX12_findSpan 67 = .ok (.iload_n 2, 1) := all_at dvX12_findSpan_40 13 rfl
theorem dX12_findSpan_68 : decode cX12_findSpan 68 = .ok (.iaload, 1) := all_at dvX12_findSpan_40 14 rfl
theorem dX12_findSpan_69 : decode cX12_findSpan 69 = .ok (.aload_n 0, 1) := all_at dvX12_findSpan_40 15 rfl
theorem dX12_findSpan_70 : decode cX12_findSpan 70 = .ok (.getfield 423, 3) := all_at dvX12_findSpan_40 16 rfl
theorem dX12_findSpan_73 : decode cX12_findSpan 73 = .ok (.if_icmp .ge 12, 3) := all_at dvX12_findSpan_40 17 rfl
theorem dX12_findSpan_76 : decode cX12_findSpan 76 = .ok (.aload_n 0, 1) := all_at dvX12_findSpan_40 18 rfl
theorem dX12_findSpan_77 : decode cX12_findSpan 77 = .ok (.getfield 136, 3) := all_at dvX12_findSpan_40 19 rfl
theorem dX12_findSpan_80 : decode cX12_findSpan 80 = .ok (.iload_n 2, 1) := all_at dvX12_findSpan_40 20 rfl
theorem dX12_findSpan_81 : decode cX12_findSpan 81 = .ok (.iaload, 1) := all_at dvX12_findSpan_40 21 rfl
theorem dX12_findSpan_82 : decode cX12_findSpan 82 = .ok (.goto 7, 3) := all_at dvX12_findSpan_40 22 rfl
theorem dX12_findSpan_85 : decode cX12_findSpan 85 = .ok (.aload_n 0, 1) := all_at dvX12_findSpan_40 23 rfl
set_option maxRecDepth 100000 in
theorem dvX12_findSpan_86 : ([(86, .getfield 423, 3), (89, .putfield 423, 3), (92, .iinc 2 1, 3), (95, .goto (-79), 3), (98, .aload_n 0, 1), (99, .getfield 420, 3), (102, .aload_n 0, 1), (103, .getfield 423, 3), (106, .if_icmp .gt 7, 3), (109, .iconst 1, 1), (110, .goto 4, 3), (113, .iconst 0, 1), (114, .ireturn, 1)] : List (Nat × Instr × Nat)).all (fun q => decide (decode cX12_findSpan q.1 = .ok (q.2.1, q.2.2))) = true := by decide +kernel
theorem dX12_findSpan_86 : decode cX12_findSpan 86 = .ok (.getfield 423, 3) := all_at dvX12_findSpan_86 0 rfl
theorem dX12_findSpan_89 : decode cX12_findSpan 89 = .ok (.putfield 423, 3) := all_at dvX12_findSpan_86 1 rfl
theorem dX12_findSpan_92 : decode cX12_findSpan 92 = .ok (.iinc 2 1, 3) := all_at dvX12_findSpan_86 2 rfl
theorem dX12_findSpan_95 : decode cX12_findSpan 95 = .ok (.goto (-79), 3) := all_at dvX12_findSpan_86 3 rfl
theorem dX12_findSpan_98 : decode cX12_findSpan 98 = .ok (.aload_n 0, 1) := all_at dvX12_findSpan_86 4 rfl
theorem dX12_findSpan_99 : decode cX12_findSpan 99 = .ok (.getfield 420, 3) := all_at dvX12_findSpan_86 5 rfl
theorem dX12_findSpan_102 : decode cX12_findSpan 102 = .ok (.aload_n 0, 1) := all_at dvX12_findSpan_86 6 rfl
theorem dX12_findSpan_103 : decode cX12_findSpan 103 = .ok (.getfield 423, 3) := all_at dvX12_findSpan_86 7 rfl
theorem dX12_findSpan_106 : decode cX12_findSpan 106 = .ok (.if_icmp .gt 7, 3) := all_at dvX12_findSpan_86 8 rfl
theorem dX12_findSpan_109 : decode cX12_findSpan 109 = .ok (.iconst 1, 1) := all_at dvX12_findSpan_86 9 rfl
theorem dX12_findSpan_110 : decode cX12_findSpan 110 = .ok (.goto 4, 3) := all_at dvX12_findSpan_86 10 rfl
theorem dX12_findSpan_113 : decode cX12_findSpan 113 = .ok (.iconst 0, 1) := all_at dvX12_findSpan_86 11 rfl
theorem dX12_findSpan_114 : decode cX12_findSpan 114 = .ok (.ireturn, 1) := all_at dvX12_findSpan_86 12 rfl
set_option maxRecDepth 100000 in
theorem dvX12_ones_0 : ([(0, .iconst 0, 1), (1, .istore_n 1, 1), (2, .iconst 0, 1), (3, .istore_n 2, 1), (4, .iload_n 2, 1), (5, .bipush 16, 2), (7, .if_icmp .ge 17, 3), (10, .iload_n 1, 1), (11, .iload_n 0, 1), (12, .iload_n 2, 1), (13, .ishr, 1), (14, .iconst 1, 1), (15, .iand, 1), (16, .iadd, 1), (17, .istore_n 1, 1), (18, .iinc 2 1, 3), (21, .goto (-17), 3), (24, .iload_n 1, 1), (25, .ireturn, 1)] : List (Nat × Instr × Nat)).all (fun q => decide (decode cX12_ones q.1 = .ok (q.2.1, q.2.2))) = true := by decide +kernel
theorem dX12_ones_0 : decode cX12_ones 0 = .ok (.iconst 0, 1) := all_at dvX12_ones_0 0 rfl
theorem dX12_ones_1 : decode cX12_ones 1 = .ok (.istore_n 1, 1) := all_at dvX12_ones_0 1 rfl
theorem dX12_ones_2 : decode cX12_ones 2 = .ok (.iconst 0, 1) := all_at dvX12_ones_0 2 rfl
theorem dX12_ones_3 : decode cX12_ones 3 = .ok (.istore_n 2, 1) := all_at dvX12_ones_0 3 rfl
theorem dX12_ones_4 : decode cX12_ones 4 = .ok (.iload_n 2, 1) := all_at dvX12_ones_0 4 rfl
theorem dX12_ones_5 : decode cX12_ones 5 = .ok (.bipush 16, 2) := all_at dvX12_ones_0 5 rfl
theorem dX12_ones_7 : decode cX12_ones 7 = .ok (.if_icmp .ge 17, 3) := all_at dvX12_ones_0 6 rfl
theorem dX12_ones_10 : decode cX12_ones 10 = .ok (.iload_n 1, 1) := all_at dvX12_ones_0 7 rfl
theorem dX12_ones_11 : decode cX12_ones 11 = .ok (.iload_n 0, 1) := all_at dvX12_ones_0 8 rfl
theorem dX12_ones_12 : decode cX12_ones 12 = .ok (.iload_n 2, 1) := all_at dvX12_ones_0 9 rfl
theorem dX12_ones_13 : decode cX12_ones 13 = .ok (.ishr, 1) := all_at dvX12_ones_0 10 rfl
theorem dX12_ones_14 : decode cX12_ones 14 = .ok (.iconst 1, 1) := all_at dvX12_ones_0 11 rfl
theorem dX12_ones_15 : decode cX12_ones 15 = .ok (.iand, 1) := all_at dvX12_ones_0 12 rfl
theorem dX12_ones_16 : decode cX12_ones 16 = .ok (.iadd, 1) := all_at dvX12_ones_0 13 rfl
theorem dX12_ones_17 : decode cX12_ones 17 = .ok (.istore_n 1, 1) := all_at dvX12_ones_0 14 rfl
theorem dX12_ones_18 : decode cX12_ones 18 = .ok (.iinc 2 1, 3) := all_at dvX12_ones_0 15 rfl
theorem dX12_ones_21 : decode cX12_ones 21 = .ok (.goto (-17), 3) := all_at dvX12_ones_0 16 rfl
theorem dX12_ones_24 : decode cX12_ones 24 = .ok (.iload_n 1, 1) := all_at dvX12_ones_0 17 rfl
theorem dX12_ones_25 : decode cX12_ones 25 = .ok (.ireturn, 1) := all_at dvX12_ones_0 18 rfl
set_option maxRecDepth 100000 in
theorem dvX12_shared_0 : ([(0, .iload_n 1, 1), (1, .i2l, 1), (2, .lconst 1, 1), (3, .iload_n 2, 1), (4, .i2l, 1), (5, .invokestatic 167, 3), (8, .ifCond .eq 30, 3), (11, .iload_n 2, 1), (12, .sipush 9999, 3), (15, .if_icmp .gt 23, 3), (18, .iload_n 3, 1), (19, .i2l, 1), (20, .lconst 1, 1), (21, .iload 4, 2), (23, .i2l, 1), (24, .invokestatic 167, 3), (27, .ifCond .eq 11, 3), (30, .iload 4, 2), (32, .sipush 9999, 3), (35, .if_icmp .le 6, 3), (38, .ldc 178, 2), (40, .ireturn, 1), (41, .aload_n 0, 1), (42, .getfield 417, 3)] : List (Nat × Instr × Nat)).all (fun q => decide (decode cX12_shared q.1 = .ok (q.2.1, q.2.2))) = true := by decide +kernel
theorem dX12_shared_0 : decode cX12_shared 0 = .ok (.iload_n 1, 1) := all_at dvX12_shared_0 0 rfl
theorem dX12_shared_1 : decode cX12_shared 1 = .ok (.i2l, 1) := all_at dvX12_shared_0 1 rfl
theorem dX12_shared_2 : decode cX12_shared 2 = .ok (.lconst 1, 1) := all_at dvX12_shared_0 2 rfl
theorem dX12_shared_3 : decode cX12_shared 3 = .ok (.iload_n 2, 1) := all_at dvX12_shared_0 3 rfl
theorem dX12_shared_4 : decode cX12_shared 4 = .ok (.i2l, 1) := all_at dvX12_shared_0 4 rfl
theorem dX12_shared_5 : decode cX12_shared 5 = .ok (.invokestatic 167, 3) := all_at dvX12_shared_0 5 rfl
theorem dX12_shared_8 : decode cX12_shared 8 = .ok (.ifCond .eq 30, 3) := all_at dvX12_shared_0 6 rfl
theorem dX12_shared_11 : decode cX12_shared 11 = .ok (.iload_n 2, 1) := all_at dvX12_shared_0 7 rfl
theorem dX12_shared_12 : decode cX12_shared 12 = .ok (.sipush 9999, 3) := all_at dvX12_shared_0 8 rfl
theorem dX12_shared_15 : decode cX12_shared 15 = .ok (.if_icmp .gt 23, 3) := all_at dvX12_shared_0 9 rfl
theorem dX12_shared_18 : decode cX12_shared 18 = .ok (.iload_n 3, 1) := all_at dvX12_shared_0 10 rfl
theorem dX12_shared_19 : decode cX12_shared 19 = .ok (.i2l, 1) := all_at dvX12_shared_0 11 rfl
theorem dX12_shared_20 : decode cX12_shared 20 = .ok (.lconst 1, 1) := all_at dvX12_shared_0 12 rfl
theorem dX12_shared_21 : decode cX12_shared 21 = .ok (.iload 4, 2) := all_at dvX12_shared_0 13 rfl
theorem dX12_shared_23 : decode cX12_shared 23 = .ok (.i2l, 1) := all_at dvX12_shared_0 14 rfl
theorem dX12_shared_24 : decode cX12_shared 24 = .ok (.invokestatic 167, 3) := all_at dvX12_shared_0 15 rfl
theorem dX12_shared_27 : decode cX12_shared 27 = .ok (.ifCond .eq 11, 3) := all_at dvX12_shared_0 16 rfl
theorem dX12_shared_30 : decode cX12_shared 30 = .ok (.iload 4, 2) := all_at dvX12_shared_0 17 rfl
theorem dX12_shared_32 : decode cX12_shared 32 = .ok (.sipush 9999, 3) := all_at dvX12_shared_0 18 rfl
theorem dX12_shared_35 : decode cX12_shared 35 = .ok (.if_icmp .le 6, 3) := all_at dvX12_shared_0 19 rfl
theorem dX12_shared_38 : decode cX12_shared 38 = .ok (.ldc 178, 2) := all_at dvX12_shared_0 20 rfl
theorem dX12_shared_40 : decode cX12_shared 40 = .ok (.ireturn, 1) := all_at dvX12_shared_0 21 rfl
theorem dX12_shared_41 : decode cX12_shared 41 = .ok (.aload_n 0, 1) := all_at dvX12_shared_0 22 rfl
theorem dX12_shared_42 : decode cX12_shared 42 = .ok (.getfield 417, 3) := all_at dvX12_shared_0 23 rfl
set_option maxRecDepth 100000 in
theorem dvX12_shared_45 : ([(45, .bipush 8, 2), (47, .if_icmp .ne 6, 3), (50, .ldc 182, 2), (52, .ireturn, 1), (53, .aload_n 0, 1), (54, .getfield 133, 3), (57, .aload_n 0, 1), (58, .getfield 417, 3), (61, .iload_n 1, 1), (62, .iload 4, 2), (64, .isub, 1), (65, .iastore, 1), (66, .aload_n 0, 1), (67, .getfield 136, 3), (70, .aload_n 0, 1), (71, .getfield 417, 3), (74, .iload_n 2, 1), (75, .iload_n 3, 1), (76, .isub, 1), (77, .iastore, 1), (78, .aload_n 0, 1), (79, .dup, 1), (80, .getfield 417, 3), (83, .iconst 1, 1)] : List (Nat × Instr × Nat)).all (fun q => decide (decode cX12_shared q.1 = .ok (q.2.1, q.2.2))) = true := by decide +kernel
theorem dX12_shared_45 : decode cX12_shared 45 = .ok (.bipush 8, 2) := all_at dvX12_shared_45 0 rfl
theorem dX12_shared_47 : decode cX12_shared 47 = .ok (.if_icmp .ne 6, 3) := all_at dvX12_shared_45 1 rfl
theorem dX12_shared_50 : decode cX12_shared 50 = .ok (.ldc 182, 2) := all_at dvX12_shared_45 2 rfl
theorem dX12_shared_52 : decode cX12_shared 52 = .ok (.ireturn, 1) := all_at dvX12_shared_45 3 rfl
theorem dX12_shared_53 : decode cX12_shared 53 = .ok (.aload_n 0, 1) := all_at dvX12_shared_45 4 rfl
theorem dX12_shared_54 : decode cX12_shared 54 = .ok (.getfield 133, 3) := all_at dvX12_shared_45 5 rfl
theorem dX12_shared_57 : decode cX12_shared 57 = .ok (.aload_n 0, 1) := all_at dvX12_shared_45 6 rfl
theorem dX12_shared_58 : decode cX12_shared 58 = .ok (.getfield 417, 3) := all_at dvX12_shared_45 7 rfl
theorem dX12_shared_61 : decode cX12_shared 61 = .ok (.iload_n 1, 1) := all_at dvX12_shared_45 8 rfl
theorem dX12_shared_62 : decode cX12_shared 62 = .ok (.iload 4, 2) := all_at dvX12_shared_45 9 rfl
theorem dX12_shared_64 : decode cX12_shared 64 = .ok (.isub, 1) := all_at dvX12_shared_45 10 rfl
theorem dX12_shared_65 : decode cX12_shared 65 = .ok (.iastore, 1) := all_at dvX12_shared_45 11 rfl
theorem dX12_shared_66 : decode cX12_shared 66 = .ok (.aload_n 0, 1) := all_at dvX12_shared_45 12 rfl
theorem dX12_shared_67 : decode cX12_shared 67 = .ok (.getfield 136, 3) := all_at dvX12_shared_45 13 rfl
theorem dX12_shared_70 : decode cX12_shared 70 = .ok (.aload_n 0, 1) := all_at dvX12_shared_45 14 rfl
theorem dX12_shared_71 : decode cX12_shared 71 = .ok (.getfield 417, 3) := all_at dvX12_shared_45 15 rfl
theorem dX12_shared_74 : decode cX12_shared 74 = .ok (.iload_n 2, 1) := all_at dvX12_shared_45 16 rfl
theorem dX12_shared_75 : decode cX12_shared 75 = .ok (.iload_n 3, 1) := all_at dvX12_shared_45 17 rfl
theorem dX12_shared_76 : decode cX12_shared 76 = .ok (.isub, 1) := all_at dvX12_shared_45 18 rfl
theorem dX12_shared_77 : decode cX12_shared 77 = .ok (.iastore, 1) := all_at dvX12_shared_45 19 rfl
theorem dX12_shared_78 : decode cX12_shared 78 = .ok (.aload_n 0, 1) := all_at dvX12_shared_45 20 rfl
theorem dX12_shared_79 : decode cX12_shared 79 = .ok (.dup, 1) := all_at dvX12_shared_45 21 rfl
theorem dX12_shared_80 : decode cX12_shared 80 = .ok (.getfield 417, 3) := all_at dvX12_shared_45 22 rfl
theorem dX12_shared_83 : decode cX12_shared 83 = .ok (.iconst 1, 1) := all_at dvX12_shared_45 23 rfl
set_option maxRecDepth 100000 in
theorem dvX12_shared_84 : ([(84, .iadd, 1), (85, .putfield 417, 3), (88, .aload_n 0, 1), (89, .getfield 417, 3), (92, .ireturn, 1)] : List (Nat × Instr × Nat)).all (fun q => decide (decode cX12_shared q.1 = .ok (q.2.1, q.2.2))) = true := by decide +kernel
theorem dX12_shared_84 : decode cX12_shared 84 = .ok (.iadd, 1) := all_at dvX12_shared_84 0 rfl
theorem dX12_shared_85 : decode cX12_shared 85 = .ok (.putfield 417, 3) := all_at dvX12_shared_84 1 rfl
theorem dX12_shared_88 : decode cX12_shared 88 = .ok (.aload_n 0, 1) := all_at dvX12_shared_84 2 rfl
theorem dX12_shared_89 : decode cX12_shared 89 = .ok (.getfield 417, 3) := all_at dvX12_shared_84 3 rfl
theorem dX12_shared_92 : decode cX12_shared 92 = .ok (.ireturn, 1) := all_at dvX12_shared_84 4 rfl
set_option maxRecDepth 100000 in
theorem dvX12_stands_0 : ([(0, .aload_n 0, 1), (1, .getfield 139, 3), (4, .iload_n 1, 1), (5, .iaload, 1), (6, .ifCond .ne 16, 3), (9, .aload_n 0, 1), (10, .getfield 154, 3), (13, .iload_n 1, 1), (14, .iaload, 1), (15, .ifCond .ge 7, 3), (18, .iconst 1, 1), (19, .goto 4, 3), (22, .iconst 0, 1), (23, .ireturn, 1)] : List (Nat × Instr × Nat)).all (fun q => decide (decode cX12_stands q.1 = .ok (q.2.1, q.2.2))) = true := by decide +kernel
theorem dX12_stands_0 : decode cX12_stands 0 = .ok (.aload_n 0, 1) := all_at dvX12_stands_0 0 rfl
theorem dX12_stands_1 : decode cX12_stands 1 = .ok (.getfield 139, 3) := all_at dvX12_stands_0 1 rfl
theorem dX12_stands_4 : decode cX12_stands 4 = .ok (.iload_n 1, 1) := all_at dvX12_stands_0 2 rfl
theorem dX12_stands_5 : decode cX12_stands 5 = .ok (.iaload, 1) := all_at dvX12_stands_0 3 rfl
theorem dX12_stands_6 : decode cX12_stands 6 = .ok (.ifCond .ne 16, 3) := all_at dvX12_stands_0 4 rfl
theorem dX12_stands_9 : decode cX12_stands 9 = .ok (.aload_n 0, 1) := all_at dvX12_stands_0 5 rfl
theorem dX12_stands_10 : decode cX12_stands 10 = .ok (.getfield 154, 3) := all_at dvX12_stands_0 6 rfl
theorem dX12_stands_13 : decode cX12_stands 13 = .ok (.iload_n 1, 1) := all_at dvX12_stands_0 7 rfl
theorem dX12_stands_14 : decode cX12_stands 14 = .ok (.iaload, 1) := all_at dvX12_stands_0 8 rfl
theorem dX12_stands_15 : decode cX12_stands 15 = .ok (.ifCond .ge 7, 3) := all_at dvX12_stands_0 9 rfl
theorem dX12_stands_18 : decode cX12_stands 18 = .ok (.iconst 1, 1) := all_at dvX12_stands_0 10 rfl
theorem dX12_stands_19 : decode cX12_stands 19 = .ok (.goto 4, 3) := all_at dvX12_stands_0 11 rfl
theorem dX12_stands_22 : decode cX12_stands 22 = .ok (.iconst 0, 1) := all_at dvX12_stands_0 12 rfl
theorem dX12_stands_23 : decode cX12_stands 23 = .ok (.ireturn, 1) := all_at dvX12_stands_0 13 rfl
set_option maxHeartbeats 4000000 in
set_option maxRecDepth 100000 in
/-- X12_shared -/
theorem c_X12_shared (l : Launch) (dC : Nat → ClassId) (dI : Nat → Nat → Nat) (sz : Nat) (h : Nat) (g : Nat → Nat → Nat) (ca : Nat → Nat → ClassId) (iv : Nat → Nat → Int32) (lv : Nat → Nat → Int64) (fa : Nat → Nat → Nat → Int32) (la : Nat → Nat → Nat → Int64) (hI : IX iv fa) (a : Int32) (b : Int32) (d : Int32) (k : Int32) : Met l yX12_shared (wc yX12_shared cX12_shared 5 (some .int)) ({ frames := 1, cells := 0, slots := 0, locals := 25 } : Room) (pW (dC, dI) classes (WM h g ca iv lv fa la) (TM ca) sz [.ref h, .int a, .int b, .int d, .int k]) (va_Qi (fun r (u : SS) => ∃ (na_12_63 : Nat → Int32) (na_12_64 : Nat → Int32) (ni_12_62 : Int32), inb (bI 12 62) ni_12_62 ∧ ((-100004) ≤ r.toInt ∧ r.toInt ≤ 8) ∧ u = ((u2 iv 12 62 ni_12_62), lv, (u2 (u2 fa 12 63 na_12_63) 12 64 na_12_64), la)) (bM (dC, dI) h g ca (va_A (WM h g ca iv lv fa la) sz)) (va_A (WM h g ca iv lv fa la) sz)) 0 0 (va_A (WM h g ca iv lv fa la) sz) := by
  refine Met.ofW (cc := cX12_shared) (maxL := 5) (ret := (some .int)) (by decide) rfl ?_
  intro p e s m args below meth c s₁ B hml hv
  obtain ⟨rfl, hsz, hP, hK, hD0⟩ := hv
  have hx := B.exec
  have hb := B.bytes
  have hr := B.returns
  have ht := tb_tl (atoms_spec (ws := wc yX12_shared cX12_shared 5 (some .int)) B.pre)
  have hown : s.vm.findClass RX12 = some m.cls := findClass_of_methodNamed B.named
  have hlocks := B.notSynchronized
  subst hsz
  have hD := hD0.self (sz := s.heap.size)
  generalize hAe : va_A (WM h g ca iv lv fa la) s.heap.size = A at hD ⊢
  have hA : ∀ q : Nat, s.heap.size ≤ q → A q := fun q h => by rw [← hAe]; exact Or.inr h
  have hS : va_S A s.heap s.heap [] := va_S.rf
  have hl := lv_entry [.ref h, .int a, .int b, .int d, .int k] (n := 5) (Nat.le_of_ble_eq_true rfl)
  rw [lg_entry_eq]
  generalize (lg_sl [.ref h, .int a, .int b, .int d, .int k] ++ List.replicate (5 - (lg_sl [.ref h, .int a, .int b, .int d, .int k]).length) Slot.unset).toArray = ls at hl ⊢
  have hl : lv_has ls 5 [(0, .ref h), (1, .int a), (2, .int b), (3, .int d), (4, .int k)] := hl
  refine lv_iload_n hx hb dX12_shared_0 rfl (lv_at hl 1 rfl) ?_
  refine lv_i2l (v := (a.toInt64)) hx hb dX12_shared_1 rfl ?_
  refine lv_lconst (v := 1) hx hb dX12_shared_2 (by decide) ?_
  refine lv_iload_n hx hb dX12_shared_3 rfl (lv_at hl 2 rfl) ?_
  refine lv_i2l (v := (b.toInt64)) hx hb dX12_shared_4 rfl ?_
  refine vp_callSi (W.runS (As := [.long (a.toInt64), .long 1, .long (b.toInt64)]) (rest := []) ⟨hx, hb, hml, hown, ht⟩ (c_X12_in l dC dI (a.toInt64) 1 (b.toInt64) (a.toInt) (1) (b.toInt) ((Int32.toInt_toInt64 a).trans rfl) (by decide : (1 : Int64).toInt = 1) ((Int32.toInt_toInt64 b).trans rfl)) (kS 3 ht m_1370 m_1371 m_89 m_1372 rfl rfl hd_X12_in_v ⟨Nat.le_of_ble_eq_true rfl, Nat.le_of_ble_eq_true rfl⟩) (sR noP (hK.sub (tys' := []) [] rfl)) rfl rfl hl.1 rfl (lv_room (Nat.le_of_ble_eq_true rfl)) dX12_shared_5 ⟨Nat.le_of_ble_eq_true rfl, Nat.le_of_ble_eq_true rfl⟩) (fun r1 hr1 => ?_)
  rcases hr1 with ⟨rfl, fr1⟩ | ⟨rfl, fr1⟩
  · skip
    refine lv_if_eq (tgt := 38) hx hb dX12_shared_8 (by decide) (fun c2 => ?_) (fun c2 => ?_)
    · exact absurd c2 (by decide)
    · skip
      refine lv_iload_n hx hb dX12_shared_11 rfl (lv_at hl 2 rfl) ?_
      refine lv_sipush (v := 9999) hx hb dX12_shared_12 (by decide) ?_
      refine lv_icmp_gt (tgt := 38) hx hb dX12_shared_15 (by decide) (fun c3 => ?_) (fun c3 => ?_)
      · have fc3 := z_lt (by decide : (9999 : Int32).toInt = 9999) (rfl : (b).toInt = _) c3
        refine lv_ldc hx hb hown (ht _ m_1373) dX12_shared_38 ?_
        have hP9 : va_P (dC, dI) classes (WM h g ca (u2 iv 12 62 (iv 12 62)) lv (u2 (u2 fa 12 63 (fa 12 63)) 12 64 (fa 12 64)) la) s.heap := hP
        have hD9 : va_D A (WM h g ca (u2 iv 12 62 (iv 12 62)) lv (u2 (u2 fa 12 63 (fa 12 63)) 12 64 (fa 12 64)) la) := hD
        exact W.iret (v := (-100002)) hx hb hr (fun t ht9 hW => ⟨⟨(-100002), ((u2 iv 12 62 (iv 12 62)), lv, (u2 (u2 fa 12 63 (fa 12 63)) 12 64 (fa 12 64)), la), rfl, ⟨(fa 12 63), (fa 12 64), (iv 12 62), (hI.1 12 62), ⟨by decide, by decide⟩, rfl⟩, by rw [ht9]; exact hP9, hD9⟩, hS.F ht9⟩) hS.2.2 dX12_shared_40
      · have fc3 := z_nlt (by decide : (9999 : Int32).toInt = 9999) (rfl : (b).toInt = _) c3
        refine lv_iload_n hx hb dX12_shared_18 rfl (lv_at hl 3 rfl) ?_
        refine lv_i2l (v := (d.toInt64)) hx hb dX12_shared_19 rfl ?_
        refine lv_lconst (v := 1) hx hb dX12_shared_20 (by decide) ?_
        refine lv_iload hx hb dX12_shared_21 (lv_at hl 4 rfl) ?_
        refine lv_i2l (v := (k.toInt64)) hx hb dX12_shared_23 rfl ?_
        refine vp_callSi (W.runS (As := [.long (d.toInt64), .long 1, .long (k.toInt64)]) (rest := []) ⟨hx, hb, hml, hown, ht⟩ (c_X12_in l dC dI (d.toInt64) 1 (k.toInt64) (d.toInt) (1) (k.toInt) ((Int32.toInt_toInt64 d).trans rfl) (by decide : (1 : Int64).toInt = 1) ((Int32.toInt_toInt64 k).trans rfl)) (kS 3 ht m_1370 m_1371 m_89 m_1372 rfl rfl hd_X12_in_v ⟨Nat.le_of_ble_eq_true rfl, Nat.le_of_ble_eq_true rfl⟩) (sR noP (hK.sub (tys' := []) [] rfl)) rfl rfl hl.1 rfl (lv_room (Nat.le_of_ble_eq_true rfl)) dX12_shared_24 ⟨Nat.le_of_ble_eq_true rfl, Nat.le_of_ble_eq_true rfl⟩) (fun r4 hr4 => ?_)
        rcases hr4 with ⟨rfl, fr4⟩ | ⟨rfl, fr4⟩
        · skip
          refine lv_if_eq (tgt := 38) hx hb dX12_shared_27 (by decide) (fun c5 => ?_) (fun c5 => ?_)
          · exact absurd c5 (by decide)
          · skip
            refine lv_iload hx hb dX12_shared_30 (lv_at hl 4 rfl) ?_
            refine lv_sipush (v := 9999) hx hb dX12_shared_32 (by decide) ?_
            refine lv_icmp_le (tgt := 41) hx hb dX12_shared_35 (by decide) (fun c6 => ?_) (fun c6 => ?_)
            · have fc6 := z_le (rfl : (k).toInt = _) (by decide : (9999 : Int32).toInt = 9999) c6
              refine lv_aload_n hx hb dX12_shared_41 rfl (lv_at hl 0 rfl) ?_
              have i_12_62 : 0 ≤ (iv 12 62).toInt ∧ (iv 12 62).toInt ≤ 8 := hI.1 12 62
              refine gM_12_62 hx hb ht hown hK hP m_1201 (v := (iv 12 62)) rfl dX12_shared_42 ?_
              refine lv_bipush (v := 8) hx hb dX12_shared_45 (by decide) ?_
              refine lv_icmp_ne (tgt := 53) hx hb dX12_shared_47 (by decide) (fun c7 => ?_) (fun c7 => ?_)
              · have fc7 := z_ne (rfl : ((iv 12 62)).toInt = _) (by decide : (8 : Int32).toInt = 8) c7
                refine lv_aload_n hx hb dX12_shared_53 rfl (lv_at hl 0 rfl) ?_
                refine gM_12_63 hx hb ht hown hK hP m_1202 dX12_shared_54 ?_
                refine lv_aload_n hx hb dX12_shared_57 rfl (lv_at hl 0 rfl) ?_
                refine gM_12_62 hx hb ht hown hK hP m_1201 (v := (iv 12 62)) rfl dX12_shared_58 ?_
                refine lv_iload_n hx hb dX12_shared_61 rfl (lv_at hl 1 rfl) ?_
                refine lv_iload hx hb dX12_shared_62 (lv_at hl 4 rfl) ?_
                refine lv_isub hx hb dX12_shared_64 ?_
                refine lv_topi (fun v8 ev8 => ?_)
                have tv8 := z_sub ev8 (rfl : (a).toInt = _) (rfl : (k).toInt = _) (by omega) (by omega)
                refine tM_12_63 hx hb hK hP hD hS (f0 := (fa 12 63)) rfl (i := (iv 12 62)) (x := v8) (vp_in_iff.mpr ⟨by omega, by omega⟩) dX12_shared_65 (fun f9 ef9 H locs hP hD hS => ?_)
                have hf9 : ∀ j, inb (bA 12 63 j) (f9 j) := fun j => full_i _
                refine lv_aload_n hx hb dX12_shared_66 rfl (lv_at hl 0 rfl) ?_
                refine gM_12_64 hx hb ht hown hK hP m_1203 dX12_shared_67 ?_
                refine lv_aload_n hx hb dX12_shared_70 rfl (lv_at hl 0 rfl) ?_
                refine gM_12_62 hx hb ht hown hK hP m_1201 (v := (iv 12 62)) rfl dX12_shared_71 ?_
                refine lv_iload_n hx hb dX12_shared_74 rfl (lv_at hl 2 rfl) ?_
                refine lv_iload_n hx hb dX12_shared_75 rfl (lv_at hl 3 rfl) ?_
                refine lv_isub hx hb dX12_shared_76 ?_
                refine lv_topi (fun v10 ev10 => ?_)
                have tv10 := z_sub ev10 (rfl : (b).toInt = _) (rfl : (d).toInt = _) (by omega) (by omega)
                refine tM_12_64 hx hb hK hP hD hS (f0 := (fa 12 64)) rfl (i := (iv 12 62)) (x := v10) (vp_in_iff.mpr ⟨by omega, by omega⟩) dX12_shared_77 (fun f11 ef11 H locs hP hD hS => ?_)
                have hf11 : ∀ j, inb (bA 12 64 j) (f11 j) := fun j => full_i _
                refine lv_aload_n hx hb dX12_shared_78 rfl (lv_at hl 0 rfl) ?_
                refine lv_dup hx hb dX12_shared_79 rfl ?_
                refine gM_12_62 hx hb ht hown hK hP m_1201 (v := (iv 12 62)) rfl dX12_shared_80 ?_
                refine lv_iconst (v := 1) hx hb dX12_shared_83 (by decide) ?_
                refine lv_iadd hx hb dX12_shared_84 ?_
                refine lv_topi (fun v12 ev12 => ?_)
                have tv12 := z_add ev12 (rfl : ((iv 12 62)).toInt = _) (by decide : (1 : Int32).toInt = 1) (by omega) (by omega)
                refine pM_12_62 (v := v12) hx hb ht hown hK hP hD hS m_1201 dX12_shared_85 (fun H locs hP hD hS => ?_)
                refine lv_aload_n hx hb dX12_shared_88 rfl (lv_at hl 0 rfl) ?_
                refine gM_12_62 hx hb ht hown hK hP m_1201 (v := v12) rfl dX12_shared_89 ?_
                have hP9 : va_P (dC, dI) classes (WM h g ca (u2 iv 12 62 v12) lv (u2 (u2 fa 12 63 f9) 12 64 f11) la) H := hP
                have hD9 : va_D A (WM h g ca (u2 iv 12 62 v12) lv (u2 (u2 fa 12 63 f9) 12 64 f11) la) := hD
                exact W.iret (v := v12) hx hb hr (fun t ht9 hW => ⟨⟨v12, ((u2 iv 12 62 v12), lv, (u2 (u2 fa 12 63 f9) 12 64 f11), la), rfl, ⟨f9, f11, v12, (show inb (0, 8) v12 from ⟨by omega, by omega⟩), ⟨by omega, by omega⟩, rfl⟩, by rw [ht9]; exact hP9, hD9⟩, hS.F ht9⟩) hS.2.2 dX12_shared_92
              · have fc7 := z_eq (rfl : ((iv 12 62)).toInt = _) (by decide : (8 : Int32).toInt = 8) c7
                refine lv_ldc hx hb hown (ht _ m_1380) dX12_shared_50 ?_
                have hP9 : va_P (dC, dI) classes (WM h g ca (u2 iv 12 62 (iv 12 62)) lv (u2 (u2 fa 12 63 (fa 12 63)) 12 64 (fa 12 64)) la) s.heap := hP
                have hD9 : va_D A (WM h g ca (u2 iv 12 62 (iv 12 62)) lv (u2 (u2 fa 12 63 (fa 12 63)) 12 64 (fa 12 64)) la) := hD
                exact W.iret (v := (-100004)) hx hb hr (fun t ht9 hW => ⟨⟨(-100004), ((u2 iv 12 62 (iv 12 62)), lv, (u2 (u2 fa 12 63 (fa 12 63)) 12 64 (fa 12 64)), la), rfl, ⟨(fa 12 63), (fa 12 64), (iv 12 62), (hI.1 12 62), ⟨by decide, by decide⟩, rfl⟩, by rw [ht9]; exact hP9, hD9⟩, hS.F ht9⟩) hS.2.2 dX12_shared_52
            · have fc6 := z_nle (rfl : (k).toInt = _) (by decide : (9999 : Int32).toInt = 9999) c6
              refine lv_ldc hx hb hown (ht _ m_1373) dX12_shared_38 ?_
              have hP9 : va_P (dC, dI) classes (WM h g ca (u2 iv 12 62 (iv 12 62)) lv (u2 (u2 fa 12 63 (fa 12 63)) 12 64 (fa 12 64)) la) s.heap := hP
              have hD9 : va_D A (WM h g ca (u2 iv 12 62 (iv 12 62)) lv (u2 (u2 fa 12 63 (fa 12 63)) 12 64 (fa 12 64)) la) := hD
              exact W.iret (v := (-100002)) hx hb hr (fun t ht9 hW => ⟨⟨(-100002), ((u2 iv 12 62 (iv 12 62)), lv, (u2 (u2 fa 12 63 (fa 12 63)) 12 64 (fa 12 64)), la), rfl, ⟨(fa 12 63), (fa 12 64), (iv 12 62), (hI.1 12 62), ⟨by decide, by decide⟩, rfl⟩, by rw [ht9]; exact hP9, hD9⟩, hS.F ht9⟩) hS.2.2 dX12_shared_40
        · skip
          refine lv_if_eq (tgt := 38) hx hb dX12_shared_27 (by decide) (fun c13 => ?_) (fun c13 => ?_)
          · skip
            refine lv_ldc hx hb hown (ht _ m_1373) dX12_shared_38 ?_
            have hP9 : va_P (dC, dI) classes (WM h g ca (u2 iv 12 62 (iv 12 62)) lv (u2 (u2 fa 12 63 (fa 12 63)) 12 64 (fa 12 64)) la) s.heap := hP
            have hD9 : va_D A (WM h g ca (u2 iv 12 62 (iv 12 62)) lv (u2 (u2 fa 12 63 (fa 12 63)) 12 64 (fa 12 64)) la) := hD
            exact W.iret (v := (-100002)) hx hb hr (fun t ht9 hW => ⟨⟨(-100002), ((u2 iv 12 62 (iv 12 62)), lv, (u2 (u2 fa 12 63 (fa 12 63)) 12 64 (fa 12 64)), la), rfl, ⟨(fa 12 63), (fa 12 64), (iv 12 62), (hI.1 12 62), ⟨by decide, by decide⟩, rfl⟩, by rw [ht9]; exact hP9, hD9⟩, hS.F ht9⟩) hS.2.2 dX12_shared_40
          · exact absurd rfl c13
  · skip
    refine lv_if_eq (tgt := 38) hx hb dX12_shared_8 (by decide) (fun c14 => ?_) (fun c14 => ?_)
    · skip
      refine lv_ldc hx hb hown (ht _ m_1373) dX12_shared_38 ?_
      have hP9 : va_P (dC, dI) classes (WM h g ca (u2 iv 12 62 (iv 12 62)) lv (u2 (u2 fa 12 63 (fa 12 63)) 12 64 (fa 12 64)) la) s.heap := hP
      have hD9 : va_D A (WM h g ca (u2 iv 12 62 (iv 12 62)) lv (u2 (u2 fa 12 63 (fa 12 63)) 12 64 (fa 12 64)) la) := hD
      exact W.iret (v := (-100002)) hx hb hr (fun t ht9 hW => ⟨⟨(-100002), ((u2 iv 12 62 (iv 12 62)), lv, (u2 (u2 fa 12 63 (fa 12 63)) 12 64 (fa 12 64)), la), rfl, ⟨(fa 12 63), (fa 12 64), (iv 12 62), (hI.1 12 62), ⟨by decide, by decide⟩, rfl⟩, by rw [ht9]; exact hP9, hD9⟩, hS.F ht9⟩) hS.2.2 dX12_shared_40
    · exact absurd rfl c14
set_option maxHeartbeats 4000000 in
set_option maxRecDepth 100000 in
/-- X12_findSpan -/
theorem c_X12_findSpan (l : Launch) (dC : Nat → ClassId) (dI : Nat → Nat → Nat) (sz : Nat) (h : Nat) (g : Nat → Nat → Nat) (ca : Nat → Nat → ClassId) (iv : Nat → Nat → Int32) (lv : Nat → Nat → Int64) (fa : Nat → Nat → Nat → Int32) (la : Nat → Nat → Nat → Int64) (hI : IX iv fa) (a : Int32) : Met l yX12_findSpan (wc yX12_findSpan cX12_findSpan 3 (some .boolean)) ({ frames := 0, cells := 0, slots := 0, locals := 0 } : Room) (pW (dC, dI) classes (WM h g ca iv lv fa la) (TM ca) sz [.ref h, .int a]) (va_Qi (fun r (u : SS) => ∃ (ni_12_65 : Int32) (ni_12_66 : Int32), (0 ≤ r.toInt ∧ r.toInt ≤ 1) ∧ u = ((u2 (u2 iv 12 65 ni_12_65) 12 66 ni_12_66), lv, fa, la)) (bM (dC, dI) h g ca (va_A (WM h g ca iv lv fa la) sz)) (va_A (WM h g ca iv lv fa la) sz)) 0 0 (va_A (WM h g ca iv lv fa la) sz) := by
  refine Met.ofW (cc := cX12_findSpan) (maxL := 3) (ret := (some .boolean)) (by decide) rfl ?_
  intro p e s m args below meth c s₁ B hml hv
  obtain ⟨rfl, hsz, hP, hK, hD0⟩ := hv
  have hx := B.exec
  have hb := B.bytes
  have hr := B.returns
  have ht := tb_tl (atoms_spec (ws := wc yX12_findSpan cX12_findSpan 3 (some .boolean)) B.pre)
  have hown : s.vm.findClass RX12 = some m.cls := findClass_of_methodNamed B.named
  have hlocks := B.notSynchronized
  subst hsz
  have hD := hD0.self (sz := s.heap.size)
  generalize hAe : va_A (WM h g ca iv lv fa la) s.heap.size = A at hD ⊢
  have hA : ∀ q : Nat, s.heap.size ≤ q → A q := fun q h => by rw [← hAe]; exact Or.inr h
  have hS : va_S A s.heap s.heap [] := va_S.rf
  have hl := lv_entry [.ref h, .int a] (n := 3) (Nat.le_of_ble_eq_true rfl)
  rw [lg_entry_eq]
  generalize (lg_sl [.ref h, .int a] ++ List.replicate (3 - (lg_sl [.ref h, .int a]).length) Slot.unset).toArray = ls at hl ⊢
  have hl : lv_has ls 3 [(0, .ref h), (1, .int a)] := hl
  refine lv_aload_n hx hb dX12_findSpan_0 rfl (lv_at hl 0 rfl) ?_
  refine lv_sipush (v := (-20000)) hx hb dX12_findSpan_1 (by decide) ?_
  refine pM_12_65 (v := (-20000)) hx hb ht hown hK hP hD hS m_1204 dX12_findSpan_4 (fun H locs hP hD hS => ?_)
  refine lv_aload_n hx hb dX12_findSpan_7 rfl (lv_at hl 0 rfl) ?_
  refine lv_sipush (v := 20000) hx hb dX12_findSpan_8 (by decide) ?_
  refine pM_12_66 (v := 20000) hx hb ht hown hK hP hD hS m_1205 dX12_findSpan_11 (fun H locs hP hD hS => ?_)
  refine lv_iconst (v := 0) hx hb dX12_findSpan_14 (by decide) ?_
  refine lv_istore_n (lv' := [(2, .int 0), (0, .ref h), (1, .int a)]) hx hb dX12_findSpan_15 rfl hl (by decide) rfl (fun ls hl => ?_)
  have lp182 : ∀ (nn182 : Nat) (x181_2 : Int32) (w181_i_12_66 : Int32) (w181_i_12_65 : Int32), 0 ≤ x181_2.toInt ∧ x181_2.toInt ≤ 8 → 8 - x181_2.toInt < (nn182 : Int) → ∀ (H : Heap) (locs : List Loc), ∀ (ls : Array Slot), va_P (dC, dI) classes (WM h g ca (u2 (u2 iv 12 65 w181_i_12_65) 12 66 w181_i_12_66) lv fa la) H → va_D A (WM h g ca (u2 (u2 iv 12 65 w181_i_12_65) 12 66 w181_i_12_66) lv fa la) → va_S A s.heap H locs → lv_has ls 3 [(2, .int x181_2), (0, .ref h), (1, .int a)] → W p l e ({ frames := 0, cells := 0, slots := 0, locals := 0 } : Room) s m ([.ref h, .int a] : List Value).toArray below meth c H locs 0 0 (MQ below (va_Qi (fun r (u : SS) => ∃ (ni_12_65 : Int32) (ni_12_66 : Int32), (0 ≤ r.toInt ∧ r.toInt ≤ 1) ∧ u = ((u2 (u2 iv 12 65 ni_12_65) 12 66 ni_12_66), lv, fa, la)) (bM (dC, dI) h g ca A) A) ([.ref h, .int a] : List Value).toArray s 0 0 A) (F0 m 16 ls []) := by
    intro nn182
    induction nn182 with
    | zero => intro x181_2 w181_i_12_66 w181_i_12_65 hx181_2 hm182; exfalso; omega
    | succ nn182 ih182 =>
      intro x181_2 w181_i_12_66 w181_i_12_65 hx181_2 hm182 H locs ls hP hD hS hl
      refine lv_iload_n hx hb dX12_findSpan_16 rfl (lv_at hl 0 rfl) ?_
      refine lv_aload_n hx hb dX12_findSpan_17 rfl (lv_at hl 1 rfl) ?_
      have i_12_62 : 0 ≤ (iv 12 62).toInt ∧ (iv 12 62).toInt ≤ 8 := hI.1 12 62
      refine gM_12_62 hx hb ht hown hK hP m_1201 (v := (iv 12 62)) rfl dX12_findSpan_18 ?_
      refine lv_icmp_ge (tgt := 98) hx hb dX12_findSpan_21 (by decide) (fun c183 => ?_) (fun c183 => ?_)
      · have fc183 := z_le (rfl : ((iv 12 62)).toInt = _) (rfl : (x181_2).toInt = _) c183
        refine lv_aload_n hx hb dX12_findSpan_98 rfl (lv_at hl 1 rfl) ?_
        refine gM_12_65 hx hb ht hown hK hP m_1204 (v := w181_i_12_65) rfl dX12_findSpan_99 ?_
        refine lv_aload_n hx hb dX12_findSpan_102 rfl (lv_at hl 1 rfl) ?_
        refine gM_12_66 hx hb ht hown hK hP m_1205 (v := w181_i_12_66) rfl dX12_findSpan_103 ?_
        refine lv_icmp_gt (tgt := 113) hx hb dX12_findSpan_106 (by decide) (fun c184 => ?_) (fun c184 => ?_)
        · have fc184 := z_lt (rfl : (w181_i_12_66).toInt = _) (rfl : (w181_i_12_65).toInt = _) c184
          refine lv_iconst (v := 0) hx hb dX12_findSpan_113 (by decide) ?_
          have hP9 : va_P (dC, dI) classes (WM h g ca (u2 (u2 iv 12 65 w181_i_12_65) 12 66 w181_i_12_66) lv fa la) H := hP
          have hD9 : va_D A (WM h g ca (u2 (u2 iv 12 65 w181_i_12_65) 12 66 w181_i_12_66) lv fa la) := hD
          exact W.zret (v := 0) hx hb hr rfl (fun t ht9 hW => ⟨⟨0, ((u2 (u2 iv 12 65 w181_i_12_65) 12 66 w181_i_12_66), lv, fa, la), rfl, ⟨w181_i_12_65, w181_i_12_66, ⟨by decide, by decide⟩, rfl⟩, by rw [ht9]; exact hP9, hD9⟩, hS.F ht9⟩) hS.2.2 dX12_findSpan_114
        · have fc184 := z_nlt (rfl : (w181_i_12_66).toInt = _) (rfl : (w181_i_12_65).toInt = _) c184
          refine lv_iconst (v := 1) hx hb dX12_findSpan_109 (by decide) ?_
          refine lv_goto (tgt := 114) hx hb dX12_findSpan_110 (by decide) ?_
          have hP9 : va_P (dC, dI) classes (WM h g ca (u2 (u2 iv 12 65 w181_i_12_65) 12 66 w181_i_12_66) lv fa la) H := hP
          have hD9 : va_D A (WM h g ca (u2 (u2 iv 12 65 w181_i_12_65) 12 66 w181_i_12_66) lv fa la) := hD
          exact W.zret (v := 1) hx hb hr rfl (fun t ht9 hW => ⟨⟨1, ((u2 (u2 iv 12 65 w181_i_12_65) 12 66 w181_i_12_66), lv, fa, la), rfl, ⟨w181_i_12_65, w181_i_12_66, ⟨by decide, by decide⟩, rfl⟩, by rw [ht9]; exact hP9, hD9⟩, hS.F ht9⟩) hS.2.2 dX12_findSpan_114
      · have fc183 := z_nle (rfl : ((iv 12 62)).toInt = _) (rfl : (x181_2).toInt = _) c183
        refine lv_iload_n hx hb dX12_findSpan_24 rfl (lv_at hl 2 rfl) ?_
        refine lv_iload_n hx hb dX12_findSpan_25 rfl (lv_at hl 0 rfl) ?_
        refine lv_ishr hx hb dX12_findSpan_26 ?_
        refine lv_topi (fun v185 ev185 => ?_)
        refine lv_iconst (v := 1) hx hb dX12_findSpan_27 (by decide) ?_
        refine lv_iand hx hb dX12_findSpan_28 ?_
        refine lv_topi (fun v186 ev186 => ?_)
        refine lv_if_ne (tgt := 92) hx hb dX12_findSpan_29 (by decide) (fun c187 => ?_) (fun c187 => ?_)
        · have fc187 := z_ne (rfl : (v186).toInt = _) (by decide : (0 : Int32).toInt = 0) c187
          obtain ⟨v188, ev188⟩ : ∃ y : Int32, y = x181_2 + 1 := ⟨_, rfl⟩
          have tv188 := z_add ev188 rfl (by decide : (1 : Int32).toInt = 1) (by omega) (by omega)
          refine lv_iinc (v := v188) (lv' := [(2, .int v188), (0, .ref h), (1, .int a)]) hx hb dX12_findSpan_92 hl (k := 0) rfl (by rw [ev188]; rfl) (by decide) rfl (fun ls hl => ?_)
          refine lv_goto (tgt := 16) hx hb dX12_findSpan_95 (by decide) ?_
          exact ih182 v188 w181_i_12_66 w181_i_12_65 ⟨by omega, by omega⟩ (by omega) _ _ ls hP hD hS (lv_sub hl [0, 1, 2] rfl)
        · have fc187 := z_eq (rfl : (v186).toInt = _) (by decide : (0 : Int32).toInt = 0) c187
          refine lv_aload_n hx hb dX12_findSpan_32 rfl (lv_at hl 1 rfl) ?_
          refine lv_aload_n hx hb dX12_findSpan_33 rfl (lv_at hl 1 rfl) ?_
          refine gM_12_63 hx hb ht hown hK hP m_1202 dX12_findSpan_34 ?_
          refine lv_iload_n hx hb dX12_findSpan_37 rfl (lv_at hl 0 rfl) ?_
          refine lM_12_63 hx hb hK hP (f := (fa 12 63)) rfl (vp_in_iff.mpr ⟨by omega, by omega⟩) dX12_findSpan_38 ?_
          refine lv_topi (fun v189 ev189 => ?_)
          refine lv_aload_n hx hb dX12_findSpan_39 rfl (lv_at hl 1 rfl) ?_
          refine gM_12_65 hx hb ht hown hK hP m_1204 (v := w181_i_12_65) rfl dX12_findSpan_40 ?_
          refine lv_icmp_le (tgt := 55) hx hb dX12_findSpan_43 (by decide) (fun c190 => ?_) (fun c190 => ?_)
          · have fc190 := z_le (rfl : (v189).toInt = _) (rfl : (w181_i_12_65).toInt = _) c190
            refine lv_aload_n hx hb dX12_findSpan_55 rfl (lv_at hl 1 rfl) ?_
            refine gM_12_65 hx hb ht hown hK hP m_1204 (v := w181_i_12_65) rfl dX12_findSpan_56 ?_
            refine pM_12_65 (v := w181_i_12_65) hx hb ht hown hK hP hD hS m_1204 dX12_findSpan_59 (fun H locs hP hD hS => ?_)
            have hP : va_P (dC, dI) classes (WM h g ca (u2 (u2 iv 12 65 w181_i_12_65) 12 66 w181_i_12_66) lv fa la) H := hP
            have hD : va_D A (WM h g ca (u2 (u2 iv 12 65 w181_i_12_65) 12 66 w181_i_12_66) lv fa la) := hD
            refine lv_aload_n hx hb dX12_findSpan_62 rfl (lv_at hl 1 rfl) ?_
            refine lv_aload_n hx hb dX12_findSpan_63 rfl (lv_at hl 1 rfl) ?_
            refine gM_12_64 hx hb ht hown hK hP m_1203 dX12_findSpan_64 ?_
            refine lv_iload_n hx hb dX12_findSpan_67 rfl (lv_at hl 0 rfl) ?_
            refine lM_12_64 hx hb hK hP (f := (fa 12 64)) rfl (vp_in_iff.mpr ⟨by omega, by omega⟩) dX12_findSpan_68 ?_
            refine lv_topi (fun v191 ev191 => ?_)
            refine lv_aload_n hx hb dX12_findSpan_69 rfl (lv_at hl 1 rfl) ?_
            refine gM_12_66 hx hb ht hown hK hP m_1205 (v := w181_i_12_66) rfl dX12_findSpan_70 ?_
            refine lv_icmp_ge (tgt := 85) hx hb dX12_findSpan_73 (by decide) (fun c192 => ?_) (fun c192 => ?_)
            · have fc192 := z_le (rfl : (w181_i_12_66).toInt = _) (rfl : (v191).toInt = _) c192
              refine lv_aload_n hx hb dX12_findSpan_85 rfl (lv_at hl 1 rfl) ?_
              refine gM_12_66 hx hb ht hown hK hP m_1205 (v := w181_i_12_66) rfl dX12_findSpan_86 ?_
              refine pM_12_66 (v := w181_i_12_66) hx hb ht hown hK hP hD hS m_1205 dX12_findSpan_89 (fun H locs hP hD hS => ?_)
              have hP : va_P (dC, dI) classes (WM h g ca (u2 (u2 iv 12 65 w181_i_12_65) 12 66 w181_i_12_66) lv fa la) H := hP
              have hD : va_D A (WM h g ca (u2 (u2 iv 12 65 w181_i_12_65) 12 66 w181_i_12_66) lv fa la) := hD
              obtain ⟨v193, ev193⟩ : ∃ y : Int32, y = x181_2 + 1 := ⟨_, rfl⟩
              have tv193 := z_add ev193 rfl (by decide : (1 : Int32).toInt = 1) (by omega) (by omega)
              refine lv_iinc (v := v193) (lv' := [(2, .int v193), (0, .ref h), (1, .int a)]) hx hb dX12_findSpan_92 hl (k := 0) rfl (by rw [ev193]; rfl) (by decide) rfl (fun ls hl => ?_)
              refine lv_goto (tgt := 16) hx hb dX12_findSpan_95 (by decide) ?_
              exact ih182 v193 w181_i_12_66 w181_i_12_65 ⟨by omega, by omega⟩ (by omega) _ _ ls hP hD hS (lv_sub hl [0, 1, 2] rfl)
            · have fc192 := z_nle (rfl : (w181_i_12_66).toInt = _) (rfl : (v191).toInt = _) c192
              refine lv_aload_n hx hb dX12_findSpan_76 rfl (lv_at hl 1 rfl) ?_
              refine gM_12_64 hx hb ht hown hK hP m_1203 dX12_findSpan_77 ?_
              refine lv_iload_n hx hb dX12_findSpan_80 rfl (lv_at hl 0 rfl) ?_
              refine lM_12_64 hx hb hK hP (f := (fa 12 64)) rfl (vp_in_iff.mpr ⟨by omega, by omega⟩) dX12_findSpan_81 ?_
              refine lv_topi (fun v194 ev194 => ?_)
              obtain rfl : v191 = v194 := ev191.trans ev194.symm
              refine lv_goto (tgt := 89) hx hb dX12_findSpan_82 (by decide) ?_
              refine pM_12_66 (v := v191) hx hb ht hown hK hP hD hS m_1205 dX12_findSpan_89 (fun H locs hP hD hS => ?_)
              have hP : va_P (dC, dI) classes (WM h g ca (u2 (u2 iv 12 65 w181_i_12_65) 12 66 v191) lv fa la) H := hP
              have hD : va_D A (WM h g ca (u2 (u2 iv 12 65 w181_i_12_65) 12 66 v191) lv fa la) := hD
              obtain ⟨v195, ev195⟩ : ∃ y : Int32, y = x181_2 + 1 := ⟨_, rfl⟩
              have tv195 := z_add ev195 rfl (by decide : (1 : Int32).toInt = 1) (by omega) (by omega)
              refine lv_iinc (v := v195) (lv' := [(2, .int v195), (0, .ref h), (1, .int a)]) hx hb dX12_findSpan_92 hl (k := 0) rfl (by rw [ev195]; rfl) (by decide) rfl (fun ls hl => ?_)
              refine lv_goto (tgt := 16) hx hb dX12_findSpan_95 (by decide) ?_
              exact ih182 v195 v191 w181_i_12_65 ⟨by omega, by omega⟩ (by omega) _ _ ls hP hD hS (lv_sub hl [0, 1, 2] rfl)
          · have fc190 := z_nle (rfl : (v189).toInt = _) (rfl : (w181_i_12_65).toInt = _) c190
            refine lv_aload_n hx hb dX12_findSpan_46 rfl (lv_at hl 1 rfl) ?_
            refine gM_12_63 hx hb ht hown hK hP m_1202 dX12_findSpan_47 ?_
            refine lv_iload_n hx hb dX12_findSpan_50 rfl (lv_at hl 0 rfl) ?_
            refine lM_12_63 hx hb hK hP (f := (fa 12 63)) rfl (vp_in_iff.mpr ⟨by omega, by omega⟩) dX12_findSpan_51 ?_
            refine lv_topi (fun v196 ev196 => ?_)
            obtain rfl : v189 = v196 := ev189.trans ev196.symm
            refine lv_goto (tgt := 59) hx hb dX12_findSpan_52 (by decide) ?_
            refine pM_12_65 (v := v189) hx hb ht hown hK hP hD hS m_1204 dX12_findSpan_59 (fun H locs hP hD hS => ?_)
            have hP : va_P (dC, dI) classes (WM h g ca (u2 (u2 iv 12 65 v189) 12 66 w181_i_12_66) lv fa la) H := hP
            have hD : va_D A (WM h g ca (u2 (u2 iv 12 65 v189) 12 66 w181_i_12_66) lv fa la) := hD
            refine lv_aload_n hx hb dX12_findSpan_62 rfl (lv_at hl 1 rfl) ?_
            refine lv_aload_n hx hb dX12_findSpan_63 rfl (lv_at hl 1 rfl) ?_
            refine gM_12_64 hx hb ht hown hK hP m_1203 dX12_findSpan_64 ?_
            refine lv_iload_n hx hb dX12_findSpan_67 rfl (lv_at hl 0 rfl) ?_
            refine lM_12_64 hx hb hK hP (f := (fa 12 64)) rfl (vp_in_iff.mpr ⟨by omega, by omega⟩) dX12_findSpan_68 ?_
            refine lv_topi (fun v197 ev197 => ?_)
            refine lv_aload_n hx hb dX12_findSpan_69 rfl (lv_at hl 1 rfl) ?_
            refine gM_12_66 hx hb ht hown hK hP m_1205 (v := w181_i_12_66) rfl dX12_findSpan_70 ?_
            refine lv_icmp_ge (tgt := 85) hx hb dX12_findSpan_73 (by decide) (fun c198 => ?_) (fun c198 => ?_)
            · have fc198 := z_le (rfl : (w181_i_12_66).toInt = _) (rfl : (v197).toInt = _) c198
              refine lv_aload_n hx hb dX12_findSpan_85 rfl (lv_at hl 1 rfl) ?_
              refine gM_12_66 hx hb ht hown hK hP m_1205 (v := w181_i_12_66) rfl dX12_findSpan_86 ?_
              refine pM_12_66 (v := w181_i_12_66) hx hb ht hown hK hP hD hS m_1205 dX12_findSpan_89 (fun H locs hP hD hS => ?_)
              have hP : va_P (dC, dI) classes (WM h g ca (u2 (u2 iv 12 65 v189) 12 66 w181_i_12_66) lv fa la) H := hP
              have hD : va_D A (WM h g ca (u2 (u2 iv 12 65 v189) 12 66 w181_i_12_66) lv fa la) := hD
              obtain ⟨v199, ev199⟩ : ∃ y : Int32, y = x181_2 + 1 := ⟨_, rfl⟩
              have tv199 := z_add ev199 rfl (by decide : (1 : Int32).toInt = 1) (by omega) (by omega)
              refine lv_iinc (v := v199) (lv' := [(2, .int v199), (0, .ref h), (1, .int a)]) hx hb dX12_findSpan_92 hl (k := 0) rfl (by rw [ev199]; rfl) (by decide) rfl (fun ls hl => ?_)
              refine lv_goto (tgt := 16) hx hb dX12_findSpan_95 (by decide) ?_
              exact ih182 v199 w181_i_12_66 v189 ⟨by omega, by omega⟩ (by omega) _ _ ls hP hD hS (lv_sub hl [0, 1, 2] rfl)
            · have fc198 := z_nle (rfl : (w181_i_12_66).toInt = _) (rfl : (v197).toInt = _) c198
              refine lv_aload_n hx hb dX12_findSpan_76 rfl (lv_at hl 1 rfl) ?_
              refine gM_12_64 hx hb ht hown hK hP m_1203 dX12_findSpan_77 ?_
              refine lv_iload_n hx hb dX12_findSpan_80 rfl (lv_at hl 0 rfl) ?_
              refine lM_12_64 hx hb hK hP (f := (fa 12 64)) rfl (vp_in_iff.mpr ⟨by omega, by omega⟩) dX12_findSpan_81 ?_
              refine lv_topi (fun v200 ev200 => ?_)
              obtain rfl : v197 = v200 := ev197.trans ev200.symm
              refine lv_goto (tgt := 89) hx hb dX12_findSpan_82 (by decide) ?_
              refine pM_12_66 (v := v197) hx hb ht hown hK hP hD hS m_1205 dX12_findSpan_89 (fun H locs hP hD hS => ?_)
              have hP : va_P (dC, dI) classes (WM h g ca (u2 (u2 iv 12 65 v189) 12 66 v197) lv fa la) H := hP
              have hD : va_D A (WM h g ca (u2 (u2 iv 12 65 v189) 12 66 v197) lv fa la) := hD
              obtain ⟨v201, ev201⟩ : ∃ y : Int32, y = x181_2 + 1 := ⟨_, rfl⟩
              have tv201 := z_add ev201 rfl (by decide : (1 : Int32).toInt = 1) (by omega) (by omega)
              refine lv_iinc (v := v201) (lv' := [(2, .int v201), (0, .ref h), (1, .int a)]) hx hb dX12_findSpan_92 hl (k := 0) rfl (by rw [ev201]; rfl) (by decide) rfl (fun ls hl => ?_)
              refine lv_goto (tgt := 16) hx hb dX12_findSpan_95 (by decide) ?_
              exact ih182 v201 v197 v189 ⟨by omega, by omega⟩ (by omega) _ _ ls hP hD hS (lv_sub hl [0, 1, 2] rfl)
  exact lp182 9 0 20000 (-20000) ⟨by decide, by decide⟩ (by first | decide | omega) _ _ ls hP hD hS (lv_sub hl [0, 1, 2] rfl)
set_option maxHeartbeats 4000000 in
set_option maxRecDepth 100000 in
/-- X12_ones -/
theorem c_X12_ones (l : Launch) (dC : Nat → ClassId) (dI : Nat → Nat → Nat) (a : Int32) : Met l yX12_ones (wc yX12_ones cX12_ones 3 (some .int)) ({ frames := 0, cells := 0, slots := 0, locals := 0 } : Room) (pR (dC, dI) classes [] [] [.int a]) (vp_Si (fun r => True)) 0 0 (fun _ => False) := by
  refine Met.ofW (cc := cX12_ones) (maxL := 3) (ret := (some .int)) (by decide) rfl ?_
  intro p e s m args below meth c s₁ B hml hv
  obtain ⟨rfl, hP, hK⟩ := hv
  have hx := B.exec
  have hb := B.bytes
  have hr := B.returns
  have ht := tb_tl (atoms_spec (ws := wc yX12_ones cX12_ones 3 (some .int)) B.pre)
  have hown : s.vm.findClass RX12 = some m.cls := findClass_of_methodNamed B.named
  have hlocks := B.notSynchronized
  have hl := lv_entry [.int a] (n := 3) (Nat.le_of_ble_eq_true rfl)
  rw [lg_entry_eq]
  generalize (lg_sl [.int a] ++ List.replicate (3 - (lg_sl [.int a]).length) Slot.unset).toArray = ls at hl ⊢
  have hl : lv_has ls 3 [(0, .int a)] := hl
  refine lv_iconst (v := 0) hx hb dX12_ones_0 (by decide) ?_
  refine lv_istore_n (lv' := [(1, .int 0), (0, .int a)]) hx hb dX12_ones_1 rfl hl (by decide) rfl (fun ls hl => ?_)
  refine lv_iconst (v := 0) hx hb dX12_ones_2 (by decide) ?_
  refine lv_istore_n (lv' := [(2, .int 0), (1, .int 0), (0, .int a)]) hx hb dX12_ones_3 rfl hl (by decide) rfl (fun ls hl => ?_)
  have lp92 : ∀ (nn92 : Nat) (x91_2 : Int32) (x91_1 : Int32), 0 ≤ x91_2.toInt ∧ x91_2.toInt ≤ 19 → 19 - x91_2.toInt < (nn92 : Int) → ∀ (ls : Array Slot), lv_has ls 3 [(2, .int x91_2), (1, .int x91_1), (0, .int a)] → W p l e ({ frames := 0, cells := 0, slots := 0, locals := 0 } : Room) s m ([.int a] : List Value).toArray below meth c s.heap [] 0 0 (MQ below (vp_Si (fun r => True)) ([.int a] : List Value).toArray s 0 0 (fun _ => False)) (F0 m 4 ls []) := by
    intro nn92
    induction nn92 with
    | zero => intro x91_2 x91_1 hx91_2 hm92; exfalso; omega
    | succ nn92 ih92 =>
      intro x91_2 x91_1 hx91_2 hm92 ls hl
      refine lv_iload_n hx hb dX12_ones_4 rfl (lv_at hl 0 rfl) ?_
      refine lv_bipush (v := 16) hx hb dX12_ones_5 (by decide) ?_
      refine lv_icmp_ge (tgt := 24) hx hb dX12_ones_7 (by decide) (fun c93 => ?_) (fun c93 => ?_)
      · have fc93 := z_le (by decide : (16 : Int32).toInt = 16) (rfl : (x91_2).toInt = _) c93
        refine lv_iload_n hx hb dX12_ones_24 rfl (lv_at hl 1 rfl) ?_
        exact W.iret (v := x91_1) hx hb hr (fun t ht9 hW => ⟨x91_1, rfl, trivial, ht9⟩) (fun q hq => by cases hq) dX12_ones_25
      · have fc93 := z_nle (by decide : (16 : Int32).toInt = 16) (rfl : (x91_2).toInt = _) c93
        refine lv_iload_n hx hb dX12_ones_10 rfl (lv_at hl 1 rfl) ?_
        refine lv_iload_n hx hb dX12_ones_11 rfl (lv_at hl 2 rfl) ?_
        refine lv_iload_n hx hb dX12_ones_12 rfl (lv_at hl 0 rfl) ?_
        refine lv_ishr hx hb dX12_ones_13 ?_
        refine lv_topi (fun v94 ev94 => ?_)
        refine lv_iconst (v := 1) hx hb dX12_ones_14 (by decide) ?_
        refine lv_iand hx hb dX12_ones_15 ?_
        refine lv_topi (fun v95 ev95 => ?_)
        refine lv_iadd hx hb dX12_ones_16 ?_
        refine lv_topi (fun v96 ev96 => ?_)
        refine lv_istore_n (lv' := [(1, .int v96), (2, .int x91_2), (0, .int a)]) hx hb dX12_ones_17 rfl hl (by decide) rfl (fun ls hl => ?_)
        obtain ⟨v97, ev97⟩ : ∃ y : Int32, y = x91_2 + 1 := ⟨_, rfl⟩
        have tv97 := z_add ev97 rfl (by decide : (1 : Int32).toInt = 1) (by omega) (by omega)
        refine lv_iinc (v := v97) (lv' := [(2, .int v97), (1, .int v96), (0, .int a)]) hx hb dX12_ones_18 hl (k := 1) rfl (by rw [ev97]; rfl) (by decide) rfl (fun ls hl => ?_)
        refine lv_goto (tgt := 4) hx hb dX12_ones_21 (by decide) ?_
        exact ih92 v97 v96 ⟨by omega, by omega⟩ (by omega) ls (lv_sub hl [0, 1, 2] rfl)
  exact lp92 20 0 0 ⟨by decide, by decide⟩ (by first | decide | omega) ls (lv_sub hl [0, 1, 2] rfl)
set_option maxHeartbeats 4000000 in
set_option maxRecDepth 100000 in
/-- X12_add -/
theorem c_X12_add (l : Launch) (dC : Nat → ClassId) (dI : Nat → Nat → Nat) (sz : Nat) (h : Nat) (g : Nat → Nat → Nat) (ca : Nat → Nat → ClassId) (iv : Nat → Nat → Int32) (lv : Nat → Nat → Int64) (fa : Nat → Nat → Nat → Int32) (la : Nat → Nat → Nat → Int64) (hI : IX iv fa) (a : Int32) (b : Int32) (d : Int64) (k : Int32) (n : Int32) (q_12_67 : 0 ≤ (iv 12 67).toInt ∧ (iv 12 67).toInt ≤ 39) (h_k : (-1) ≤ k.toInt ∧ k.toInt ≤ 39) : Met l yX12_add (wc yX12_add cX12_add 7 none) ({ frames := 0, cells := 0, slots := 0, locals := 0 } : Room) (pW (dC, dI) classes (WM h g ca iv lv fa la) (TM ca) sz [.ref h, .int a, .int b, .long d, .int k, .int n]) (va_Qv (fun (u : SS) => ∃ (na_12_68 : Nat → Int32) (na_12_69 : Nat → Int32) (na_12_71 : Nat → Int32) (na_12_72 : Nat → Int32) (na_12_73 : Nat → Int32) (na_12_74 : Nat → Int32) (nb_12_70 : Nat → Int64) (ni_12_67 : Int32), (∀ j, inb (bA 12 71 j) (na_12_71 j)) ∧ inb (bI 12 67) ni_12_67 ∧ ni_12_67.toInt = (iv 12 67).toInt + 1 ∧ u = ((u2 iv 12 67 ni_12_67), lv, (u2 (u2 (u2 (u2 (u2 (u2 fa 12 68 na_12_68) 12 69 na_12_69) 12 71 na_12_71) 12 72 na_12_72) 12 73 na_12_73) 12 74 na_12_74), (u2 la 12 70 nb_12_70))) (bM (dC, dI) h g ca (va_A (WM h g ca iv lv fa la) sz)) (va_A (WM h g ca iv lv fa la) sz)) 0 0 (va_A (WM h g ca iv lv fa la) sz) := by
  refine Met.ofW (cc := cX12_add) (maxL := 7) (ret := none) (by decide) rfl ?_
  intro p e s m args below meth c s₁ B hml hv
  obtain ⟨rfl, hsz, hP, hK, hD0⟩ := hv
  have hx := B.exec
  have hb := B.bytes
  have hr := B.returns
  have ht := tb_tl (atoms_spec (ws := wc yX12_add cX12_add 7 none) B.pre)
  have hown : s.vm.findClass RX12 = some m.cls := findClass_of_methodNamed B.named
  have hlocks := B.notSynchronized
  subst hsz
  have hD := hD0.self (sz := s.heap.size)
  generalize hAe : va_A (WM h g ca iv lv fa la) s.heap.size = A at hD ⊢
  have hA : ∀ q : Nat, s.heap.size ≤ q → A q := fun q h => by rw [← hAe]; exact Or.inr h
  have hS : va_S A s.heap s.heap [] := va_S.rf
  have hl := lv_entry [.ref h, .int a, .int b, .long d, .int k, .int n] (n := 7) (Nat.le_of_ble_eq_true rfl)
  rw [lg_entry_eq]
  generalize (lg_sl [.ref h, .int a, .int b, .long d, .int k, .int n] ++ List.replicate (7 - (lg_sl [.ref h, .int a, .int b, .long d, .int k, .int n]).length) Slot.unset).toArray = ls at hl ⊢
  have hl : lv_has ls 7 [(0, .ref h), (1, .int a), (2, .int b), (3, .long d), (5, .int k), (6, .int n)] := hl
  refine lv_aload_n hx hb dX12_add_0 rfl (lv_at hl 0 rfl) ?_
  refine gM_12_68 hx hb ht hown hK hP m_1207 dX12_add_1 ?_
  refine lv_aload_n hx hb dX12_add_4 rfl (lv_at hl 0 rfl) ?_
  have i_12_67 : 0 ≤ (iv 12 67).toInt ∧ (iv 12 67).toInt ≤ 40 := hI.1 12 67
  refine gM_12_67 hx hb ht hown hK hP m_1206 (v := (iv 12 67)) rfl dX12_add_5 ?_
  refine lv_iload_n hx hb dX12_add_8 rfl (lv_at hl 1 rfl) ?_
  refine tM_12_68 hx hb hK hP hD hS (f0 := (fa 12 68)) rfl (i := (iv 12 67)) (x := a) (vp_in_iff.mpr ⟨by omega, by omega⟩) dX12_add_9 (fun f1 ef1 H locs hP hD hS => ?_)
  have hf1 : ∀ j, inb (bA 12 68 j) (f1 j) := fun j => full_i _
  refine lv_aload_n hx hb dX12_add_10 rfl (lv_at hl 0 rfl) ?_
  refine gM_12_69 hx hb ht hown hK hP m_1208 dX12_add_11 ?_
  refine lv_aload_n hx hb dX12_add_14 rfl (lv_at hl 0 rfl) ?_
  refine gM_12_67 hx hb ht hown hK hP m_1206 (v := (iv 12 67)) rfl dX12_add_15 ?_
  refine lv_iload_n hx hb dX12_add_18 rfl (lv_at hl 2 rfl) ?_
  refine tM_12_69 hx hb hK hP hD hS (f0 := (fa 12 69)) rfl (i := (iv 12 67)) (x := b) (vp_in_iff.mpr ⟨by omega, by omega⟩) dX12_add_19 (fun f2 ef2 H locs hP hD hS => ?_)
  have hf2 : ∀ j, inb (bA 12 69 j) (f2 j) := fun j => full_i _
  refine lv_aload_n hx hb dX12_add_20 rfl (lv_at hl 0 rfl) ?_
  refine gM_12_70 hx hb ht hown hK hP m_1209 dX12_add_21 ?_
  refine lv_aload_n hx hb dX12_add_24 rfl (lv_at hl 0 rfl) ?_
  refine gM_12_67 hx hb ht hown hK hP m_1206 (v := (iv 12 67)) rfl dX12_add_25 ?_
  refine lv_lload_n hx hb dX12_add_28 rfl (lv_at hl 3 rfl) ?_
  refine tM_12_70 hx hb hK hP hD hS (f0 := (la 12 70)) rfl (i := (iv 12 67)) (x := d) (vp_in_iff.mpr ⟨by omega, by omega⟩) dX12_add_29 (fun f3 ef3 H locs hP hD hS => ?_)
  refine lv_aload_n hx hb dX12_add_30 rfl (lv_at hl 0 rfl) ?_
  refine gM_12_71 hx hb ht hown hK hP m_1210 dX12_add_31 ?_
  refine lv_aload_n hx hb dX12_add_34 rfl (lv_at hl 0 rfl) ?_
  refine gM_12_67 hx hb ht hown hK hP m_1206 (v := (iv 12 67)) rfl dX12_add_35 ?_
  refine lv_iload hx hb dX12_add_38 (lv_at hl 4 rfl) ?_
  refine tM_12_71 hx hb hK hP hD hS (f0 := (fa 12 71)) rfl (i := (iv 12 67)) (x := k) (vp_in_iff.mpr ⟨by omega, by omega⟩) dX12_add_40 (fun f4 ef4 H locs hP hD hS => ?_)
  have hf4 : ∀ j, inb (bA 12 71 j) (f4 j) := by rw [ef4]; exact upd_b (b := bA 12 71) (hI.2 12 71) (show inb ((-1), 39) k from ⟨by omega, by omega⟩)
  refine lv_aload_n hx hb dX12_add_41 rfl (lv_at hl 0 rfl) ?_
  refine gM_12_72 hx hb ht hown hK hP m_1211 dX12_add_42 ?_
  refine lv_aload_n hx hb dX12_add_45 rfl (lv_at hl 0 rfl) ?_
  refine gM_12_67 hx hb ht hown hK hP m_1206 (v := (iv 12 67)) rfl dX12_add_46 ?_
  refine lv_aload_n hx hb dX12_add_49 rfl (lv_at hl 0 rfl) ?_
  have i_12_0 : 0 ≤ (iv 12 0).toInt ∧ (iv 12 0).toInt ≤ 3000 := hI.1 12 0
  refine gM_12_0 hx hb ht hown hK hP m_1139 (v := (iv 12 0)) rfl dX12_add_50 ?_
  refine tM_12_72 hx hb hK hP hD hS (f0 := (fa 12 72)) rfl (i := (iv 12 67)) (x := (iv 12 0)) (vp_in_iff.mpr ⟨by omega, by omega⟩) dX12_add_53 (fun f5 ef5 H locs hP hD hS => ?_)
  have hf5 : ∀ j, inb (bA 12 72 j) (f5 j) := fun j => full_i _
  refine lv_aload_n hx hb dX12_add_54 rfl (lv_at hl 0 rfl) ?_
  refine gM_12_73 hx hb ht hown hK hP m_1212 dX12_add_55 ?_
  refine lv_aload_n hx hb dX12_add_58 rfl (lv_at hl 0 rfl) ?_
  refine gM_12_67 hx hb ht hown hK hP m_1206 (v := (iv 12 67)) rfl dX12_add_59 ?_
  refine lv_iconst (v := (-1)) hx hb dX12_add_62 (by decide) ?_
  refine tM_12_73 hx hb hK hP hD hS (f0 := (fa 12 73)) rfl (i := (iv 12 67)) (x := (-1)) (vp_in_iff.mpr ⟨by omega, by omega⟩) dX12_add_63 (fun f6 ef6 H locs hP hD hS => ?_)
  have hf6 : ∀ j, inb (bA 12 73 j) (f6 j) := fun j => full_i _
  refine lv_aload_n hx hb dX12_add_64 rfl (lv_at hl 0 rfl) ?_
  refine gM_12_74 hx hb ht hown hK hP m_1213 dX12_add_65 ?_
  refine lv_aload_n hx hb dX12_add_68 rfl (lv_at hl 0 rfl) ?_
  refine gM_12_67 hx hb ht hown hK hP m_1206 (v := (iv 12 67)) rfl dX12_add_69 ?_
  refine lv_iload hx hb dX12_add_72 (lv_at hl 5 rfl) ?_
  refine tM_12_74 hx hb hK hP hD hS (f0 := (fa 12 74)) rfl (i := (iv 12 67)) (x := n) (vp_in_iff.mpr ⟨by omega, by omega⟩) dX12_add_74 (fun f7 ef7 H locs hP hD hS => ?_)
  have hf7 : ∀ j, inb (bA 12 74 j) (f7 j) := fun j => full_i _
  refine lv_aload_n hx hb dX12_add_75 rfl (lv_at hl 0 rfl) ?_
  refine lv_dup hx hb dX12_add_76 rfl ?_
  refine gM_12_67 hx hb ht hown hK hP m_1206 (v := (iv 12 67)) rfl dX12_add_77 ?_
  refine lv_iconst (v := 1) hx hb dX12_add_80 (by decide) ?_
  refine lv_iadd hx hb dX12_add_81 ?_
  refine lv_topi (fun v8 ev8 => ?_)
  have tv8 := z_add ev8 (rfl : ((iv 12 67)).toInt = _) (by decide : (1 : Int32).toInt = 1) (by omega) (by omega)
  refine pM_12_67 (v := v8) hx hb ht hown hK hP hD hS m_1206 dX12_add_82 (fun H locs hP hD hS => ?_)
  have hP9 : va_P (dC, dI) classes (WM h g ca (u2 iv 12 67 v8) lv (u2 (u2 (u2 (u2 (u2 (u2 fa 12 68 f1) 12 69 f2) 12 71 f4) 12 72 f5) 12 73 f6) 12 74 f7) (u2 la 12 70 f3)) H := hP
  have hD9 : va_D A (WM h g ca (u2 iv 12 67 v8) lv (u2 (u2 (u2 (u2 (u2 (u2 fa 12 68 f1) 12 69 f2) 12 71 f4) 12 72 f5) 12 73 f6) 12 74 f7) (u2 la 12 70 f3)) := hD
  exact W.vret hx hb hr (fun t ht9 hW => ⟨⟨((u2 iv 12 67 v8), lv, (u2 (u2 (u2 (u2 (u2 (u2 fa 12 68 f1) 12 69 f2) 12 71 f4) 12 72 f5) 12 73 f6) 12 74 f7), (u2 la 12 70 f3)), rfl, ⟨f1, f2, f4, f5, f6, f7, f3, v8, hf4, (show inb (0, 40) v8 from ⟨by omega, by omega⟩), (by omega), rfl⟩, by rw [ht9]; exact hP9, hD9⟩, hS.F ht9⟩) hS.2.2 dX12_add_85
set_option maxHeartbeats 4000000 in
set_option maxRecDepth 100000 in
/-- X12_stands -/
theorem c_X12_stands (l : Launch) (dC : Nat → ClassId) (dI : Nat → Nat → Nat) (h : Nat) (g : Nat → Nat → Nat) (ca : Nat → Nat → ClassId) (iv : Nat → Nat → Int32) (lv : Nat → Nat → Int64) (fa : Nat → Nat → Nat → Int32) (la : Nat → Nat → Nat → Int64) (hI : IX iv fa) (a : Int32) (h_a : 0 ≤ a.toInt ∧ a.toInt ≤ 39) : Met l yX12_stands (wc yX12_stands cX12_stands 2 (some .boolean)) ({ frames := 0, cells := 0, slots := 0, locals := 0 } : Room) (pR (dC, dI) classes (WM h g ca iv lv fa la) (TM ca) [.ref h, .int a]) (vp_Si (fun r => 0 ≤ r.toInt ∧ r.toInt ≤ 1)) 0 0 (fun _ => False) := by
  refine Met.ofW (cc := cX12_stands) (maxL := 2) (ret := (some .boolean)) (by decide) rfl ?_
  intro p e s m args below meth c s₁ B hml hv
  obtain ⟨rfl, hP, hK⟩ := hv
  have hx := B.exec
  have hb := B.bytes
  have hr := B.returns
  have ht := tb_tl (atoms_spec (ws := wc yX12_stands cX12_stands 2 (some .boolean)) B.pre)
  have hown : s.vm.findClass RX12 = some m.cls := findClass_of_methodNamed B.named
  have hlocks := B.notSynchronized
  have hl := lv_entry [.ref h, .int a] (n := 2) (Nat.le_of_ble_eq_true rfl)
  rw [lg_entry_eq]
  generalize (lg_sl [.ref h, .int a] ++ List.replicate (2 - (lg_sl [.ref h, .int a]).length) Slot.unset).toArray = ls at hl ⊢
  have hl : lv_has ls 2 [(0, .ref h), (1, .int a)] := hl
  refine lv_aload_n hx hb dX12_stands_0 rfl (lv_at hl 0 rfl) ?_
  refine gM_12_68 hx hb ht hown hK hP m_1207 dX12_stands_1 ?_
  refine lv_iload_n hx hb dX12_stands_4 rfl (lv_at hl 1 rfl) ?_
  refine lM_12_68 hx hb hK hP (f := (fa 12 68)) rfl (vp_in_iff.mpr ⟨by omega, by omega⟩) dX12_stands_5 ?_
  refine lv_topi (fun v1 ev1 => ?_)
  refine lv_if_ne (tgt := 22) hx hb dX12_stands_6 (by decide) (fun c2 => ?_) (fun c2 => ?_)
  · have fc2 := z_ne (rfl : (v1).toInt = _) (by decide : (0 : Int32).toInt = 0) c2
    refine lv_iconst (v := 0) hx hb dX12_stands_22 (by decide) ?_
    exact W.zret (v := 0) hx hb hr rfl (fun t ht9 hW => ⟨0, rfl, ⟨by decide, by decide⟩, ht9⟩) (fun q hq => by cases hq) dX12_stands_23
  · have fc2 := z_eq (rfl : (v1).toInt = _) (by decide : (0 : Int32).toInt = 0) c2
    refine lv_aload_n hx hb dX12_stands_9 rfl (lv_at hl 0 rfl) ?_
    refine gM_12_73 hx hb ht hown hK hP m_1212 dX12_stands_10 ?_
    refine lv_iload_n hx hb dX12_stands_13 rfl (lv_at hl 1 rfl) ?_
    refine lM_12_73 hx hb hK hP (f := (fa 12 73)) rfl (vp_in_iff.mpr ⟨by omega, by omega⟩) dX12_stands_14 ?_
    refine lv_topi (fun v3 ev3 => ?_)
    refine lv_if_ge (tgt := 22) hx hb dX12_stands_15 (by decide) (fun c4 => ?_) (fun c4 => ?_)
    · have fc4 := z_le (by decide : (0 : Int32).toInt = 0) (rfl : (v3).toInt = _) c4
      refine lv_iconst (v := 0) hx hb dX12_stands_22 (by decide) ?_
      exact W.zret (v := 0) hx hb hr rfl (fun t ht9 hW => ⟨0, rfl, ⟨by decide, by decide⟩, ht9⟩) (fun q hq => by cases hq) dX12_stands_23
    · have fc4 := z_nle (by decide : (0 : Int32).toInt = 0) (rfl : (v3).toInt = _) c4
      refine lv_iconst (v := 1) hx hb dX12_stands_18 (by decide) ?_
      refine lv_goto (tgt := 23) hx hb dX12_stands_19 (by decide) ?_
      exact W.zret (v := 1) hx hb hr rfl (fun t ht9 hW => ⟨1, rfl, ⟨by decide, by decide⟩, ht9⟩) (fun q hq => by cases hq) dX12_stands_23
set_option maxHeartbeats 4000000 in
set_option maxRecDepth 100000 in
/-- X12_bill -/
theorem c_X12_bill (l : Launch) (dC : Nat → ClassId) (dI : Nat → Nat → Nat) (sz : Nat) (h : Nat) (g : Nat → Nat → Nat) (ca : Nat → Nat → ClassId) (iv : Nat → Nat → Int32) (lv : Nat → Nat → Int64) (fa : Nat → Nat → Nat → Int32) (la : Nat → Nat → Nat → Int64) (hI : IX iv fa) (a : Int32) (b : Int32) : Met l yX12_bill (wc yX12_bill cX12_bill 3 (some .int)) ({ frames := 2, cells := 0, slots := 0, locals := 46 } : Room) (pW (dC, dI) classes (WM h g ca iv lv fa la) (TM ca) sz [.ref h, .int a, .int b]) (va_Qi (fun r (u : SS) => ∃ (na_12_68 : Nat → Int32) (na_12_69 : Nat → Int32) (na_12_71 : Nat → Int32) (na_12_72 : Nat → Int32) (na_12_73 : Nat → Int32) (na_12_74 : Nat → Int32) (nb_12_70 : Nat → Int64) (ni_12_67 : Int32), (∀ j, inb (bA 12 71 j) (na_12_71 j)) ∧ inb (bI 12 67) ni_12_67 ∧ ((-100004) ≤ r.toInt ∧ r.toInt ≤ 39) ∧ u = ((u2 iv 12 67 ni_12_67), lv, (u2 (u2 (u2 (u2 (u2 (u2 fa 12 68 na_12_68) 12 69 na_12_69) 12 71 na_12_71) 12 72 na_12_72) 12 73 na_12_73) 12 74 na_12_74), (u2 la 12 70 nb_12_70))) (bM (dC, dI) h g ca (va_A (WM h g ca iv lv fa la) sz)) (va_A (WM h g ca iv lv fa la) sz)) 0 0 (va_A (WM h g ca iv lv fa la) sz) := by
  refine Met.ofW (cc := cX12_bill) (maxL := 3) (ret := (some .int)) (by decide) rfl ?_
  intro p e s m args below meth c s₁ B hml hv
  obtain ⟨rfl, hsz, hP, hK, hD0⟩ := hv
  have hx := B.exec
  have hb := B.bytes
  have hr := B.returns
  have ht := tb_tl (atoms_spec (ws := wc yX12_bill cX12_bill 3 (some .int)) B.pre)
  have hown : s.vm.findClass RX12 = some m.cls := findClass_of_methodNamed B.named
  have hlocks := B.notSynchronized
  subst hsz
  have hD := hD0.self (sz := s.heap.size)
  generalize hAe : va_A (WM h g ca iv lv fa la) s.heap.size = A at hD ⊢
  have hA : ∀ q : Nat, s.heap.size ≤ q → A q := fun q h => by rw [← hAe]; exact Or.inr h
  have hS : va_S A s.heap s.heap [] := va_S.rf
  have hl := lv_entry [.ref h, .int a, .int b] (n := 3) (Nat.le_of_ble_eq_true rfl)
  rw [lg_entry_eq]
  generalize (lg_sl [.ref h, .int a, .int b] ++ List.replicate (3 - (lg_sl [.ref h, .int a, .int b]).length) Slot.unset).toArray = ls at hl ⊢
  have hl : lv_has ls 3 [(0, .ref h), (1, .int a), (2, .int b)] := hl
  refine lv_aload_n hx hb dX12_bill_0 rfl (lv_at hl 0 rfl) ?_
  refine lv_iload_n hx hb dX12_bill_1 rfl (lv_at hl 1 rfl) ?_
  refine vp_callSi (W.runV (As := [.int a]) (rest := []) ⟨hx, hb, hml, hown, ht⟩ (c_X12_noPaper l dC dI h g ca iv lv fa la hI a) (kV 1 ht m_1684 m_1686 m_73 m_89 m_1687 rfl rfl hd_X12_noPaper_v ⟨Nat.le_of_ble_eq_true rfl, Nat.le_of_ble_eq_true rfl⟩) (vR hP hK (rM_12 hK hP)) rfl rfl hl.1 rfl (lv_room (Nat.le_of_ble_eq_true rfl)) dX12_bill_2 ⟨Nat.le_of_ble_eq_true rfl, Nat.le_of_ble_eq_true rfl⟩) (fun r1 hr1 => ?_)
  rcases hr1 with ⟨rfl, fr1⟩ | ⟨rfl, fr1⟩
  · skip
    have i_12_67 : 0 ≤ (iv 12 67).toInt ∧ (iv 12 67).toInt ≤ 40 := hI.1 12 67
    have fr1 : ¬ (0 ≤ (a : Int32).toInt ∧ (a : Int32).toInt < ((iv 12 67) : Int32).toInt) := fr1
    refine lv_if_eq (tgt := 11) hx hb dX12_bill_5 (by decide) (fun c2 => ?_) (fun c2 => ?_)
    · exact absurd c2 (by decide)
    · skip
      refine lv_ldc hx hb hown (ht _ m_1389) dX12_bill_8 ?_
      have hP9 : va_P (dC, dI) classes (WM h g ca (u2 iv 12 67 (iv 12 67)) lv (u2 (u2 (u2 (u2 (u2 (u2 fa 12 68 (fa 12 68)) 12 69 (fa 12 69)) 12 71 (fa 12 71)) 12 72 (fa 12 72)) 12 73 (fa 12 73)) 12 74 (fa 12 74)) (u2 la 12 70 (la 12 70))) s.heap := hP
      have hD9 : va_D A (WM h g ca (u2 iv 12 67 (iv 12 67)) lv (u2 (u2 (u2 (u2 (u2 (u2 fa 12 68 (fa 12 68)) 12 69 (fa 12 69)) 12 71 (fa 12 71)) 12 72 (fa 12 72)) 12 73 (fa 12 73)) 12 74 (fa 12 74)) (u2 la 12 70 (la 12 70))) := hD
      exact W.iret (v := (-100001)) hx hb hr (fun t ht9 hW => ⟨⟨(-100001), ((u2 iv 12 67 (iv 12 67)), lv, (u2 (u2 (u2 (u2 (u2 (u2 fa 12 68 (fa 12 68)) 12 69 (fa 12 69)) 12 71 (fa 12 71)) 12 72 (fa 12 72)) 12 73 (fa 12 73)) 12 74 (fa 12 74)), (u2 la 12 70 (la 12 70))), rfl, ⟨(fa 12 68), (fa 12 69), (fa 12 71), (fa 12 72), (fa 12 73), (fa 12 74), (la 12 70), (iv 12 67), (hI.2 12 71), (hI.1 12 67), ⟨by decide, by decide⟩, rfl⟩, by rw [ht9]; exact hP9, hD9⟩, hS.F ht9⟩) hS.2.2 dX12_bill_10
  · skip
    have i_12_67 : 0 ≤ (iv 12 67).toInt ∧ (iv 12 67).toInt ≤ 40 := hI.1 12 67
    have fr1 : (0 ≤ (a : Int32).toInt ∧ (a : Int32).toInt < ((iv 12 67) : Int32).toInt) := Decidable.not_not.mp fr1
    refine lv_if_eq (tgt := 11) hx hb dX12_bill_5 (by decide) (fun c3 => ?_) (fun c3 => ?_)
    · skip
      refine lv_iload_n hx hb dX12_bill_11 rfl (lv_at hl 2 rfl) ?_
      refine lv_i2l (v := (b.toInt64)) hx hb dX12_bill_12 rfl ?_
      refine lv_lconst (v := 0) hx hb dX12_bill_13 (by decide) ?_
      refine lv_ldc2 hx hb hown (ht _ m_1369) dX12_bill_14 ?_
      refine vp_callSi (W.runS (As := [.long (b.toInt64), .long 0, .long 999]) (rest := []) ⟨hx, hb, hml, hown, ht⟩ (c_X12_in l dC dI (b.toInt64) 0 999 (b.toInt) (0) (999) ((Int32.toInt_toInt64 b).trans rfl) (by decide : (0 : Int64).toInt = 0) (by decide : (999 : Int64).toInt = 999)) (kS 3 ht m_1370 m_1371 m_89 m_1372 rfl rfl hd_X12_in_v ⟨Nat.le_of_ble_eq_true rfl, Nat.le_of_ble_eq_true rfl⟩) (sR noP (hK.sub (tys' := []) [] rfl)) rfl rfl hl.1 rfl (lv_room (Nat.le_of_ble_eq_true rfl)) dX12_bill_17 ⟨Nat.le_of_ble_eq_true rfl, Nat.le_of_ble_eq_true rfl⟩) (fun r4 hr4 => ?_)
      rcases hr4 with ⟨rfl, fr4⟩ | ⟨rfl, fr4⟩
      · skip
        refine lv_if_ne (tgt := 26) hx hb dX12_bill_20 (by decide) (fun c5 => ?_) (fun c5 => ?_)
        · skip
          refine lv_aload_n hx hb dX12_bill_26 rfl (lv_at hl 0 rfl) ?_
          refine lv_iload_n hx hb dX12_bill_27 rfl (lv_at hl 1 rfl) ?_
          refine vp_callSi (W.runV (As := [.int a]) (rest := []) ⟨hx, hb, hml, hown, ht⟩ (c_X12_stands l dC dI h g ca iv lv fa la hI a ⟨by omega, by omega⟩) (kV 1 ht m_1688 m_1690 m_74 m_89 m_1691 rfl rfl hd_X12_stands_v ⟨Nat.le_of_ble_eq_true rfl, Nat.le_of_ble_eq_true rfl⟩) (vR hP hK (rM_12 hK hP)) rfl rfl hl.1 rfl (lv_room (Nat.le_of_ble_eq_true rfl)) dX12_bill_28 ⟨Nat.le_of_ble_eq_true rfl, Nat.le_of_ble_eq_true rfl⟩) (fun r6 hr6 => ?_)
          refine lv_if_ne (tgt := 37) hx hb dX12_bill_31 (by decide) (fun c7 => ?_) (fun c7 => ?_)
          · have fc7 := z_ne (rfl : (r6).toInt = _) (by decide : (0 : Int32).toInt = 0) c7
            refine lv_aload_n hx hb dX12_bill_37 rfl (lv_at hl 0 rfl) ?_
            refine gM_12_67 hx hb ht hown hK hP m_1206 (v := (iv 12 67)) rfl dX12_bill_38 ?_
            refine lv_bipush (v := 40) hx hb dX12_bill_41 (by decide) ?_
            refine lv_icmp_ne (tgt := 49) hx hb dX12_bill_43 (by decide) (fun c8 => ?_) (fun c8 => ?_)
            · have fc8 := z_ne (rfl : ((iv 12 67)).toInt = _) (by decide : (40 : Int32).toInt = 40) c8
              refine lv_aload_n hx hb dX12_bill_49 rfl (lv_at hl 0 rfl) ?_
              refine lv_iconst (v := 1) hx hb dX12_bill_50 (by decide) ?_
              refine lv_aload_n hx hb dX12_bill_51 rfl (lv_at hl 0 rfl) ?_
              refine gM_12_69 hx hb ht hown hK hP m_1208 dX12_bill_52 ?_
              refine lv_iload_n hx hb dX12_bill_55 rfl (lv_at hl 1 rfl) ?_
              refine lM_12_69 hx hb hK hP (f := (fa 12 69)) rfl (vp_in_iff.mpr ⟨by omega, by omega⟩) dX12_bill_56 ?_
              refine lv_topi (fun v9 ev9 => ?_)
              refine lv_aload_n hx hb dX12_bill_57 rfl (lv_at hl 0 rfl) ?_
              refine gM_12_70 hx hb ht hown hK hP m_1209 dX12_bill_58 ?_
              refine lv_iload_n hx hb dX12_bill_61 rfl (lv_at hl 1 rfl) ?_
              refine lM_12_70 hx hb hK hP (f := (la 12 70)) rfl (vp_in_iff.mpr ⟨by omega, by omega⟩) dX12_bill_62 ?_
              refine lv_topl (fun w10 ew10 => ?_)
              refine lv_iload_n hx hb dX12_bill_63 rfl (lv_at hl 2 rfl) ?_
              refine lv_i2l (v := (b.toInt64)) hx hb dX12_bill_64 rfl ?_
              refine lv_lmul hx hb dX12_bill_65 ?_
              refine lv_topl (fun w11 ew11 => ?_)
              refine lv_iload_n hx hb dX12_bill_66 rfl (lv_at hl 1 rfl) ?_
              refine lv_iconst (v := 0) hx hb dX12_bill_67 (by decide) ?_
              have hFc := free_all hD hS hA
              refine va_callv (va_runV (As := [.int 1, .int v9, .long w11, .int a, .int 0]) (rest := []) ⟨hx, hb, hml, hown, ht⟩ (c_X12_add l dC dI s.heap.size h g ca iv lv fa la hI 1 v9 w11 a 0 (show 0 ≤ ((iv 12 67) : Int32).toInt ∧ ((iv 12 67) : Int32).toInt ≤ 39 from ⟨by omega, by omega⟩) ⟨by omega, by omega⟩) (kV 5 ht m_1676 m_1678 m_72 m_89 m_1679 rfl rfl hd_X12_add_v ⟨Nat.le_of_ble_eq_true rfl, Nat.le_of_ble_eq_true rfl⟩) (vW hP hK hD (rM_12 hK hP)) rfl rfl hl.1 rfl (lv_room (Nat.le_of_ble_eq_true rfl)) dX12_bill_68 ⟨Nat.le_of_ble_eq_true rfl, Nat.le_of_ble_eq_true rfl⟩) hS (fun q _ h => hFc q h) hFc (fun u t H1 locs ht9 hvm hr12 hB hz1 hk1 hS => ?_)
              obtain ⟨n13, n14, n15, n16, n17, n18, n19, n20, hn15, hn20, dn20, rfl⟩ := hr12
              have hn13 : ∀ j, inb (bA 12 68 j) (n13 j) := fun j => full_i _
              have hn14 : ∀ j, inb (bA 12 69 j) (n14 j) := fun j => full_i _
              have hn16 : ∀ j, inb (bA 12 72 j) (n16 j) := fun j => full_i _
              have hn17 : ∀ j, inb (bA 12 73 j) (n17 j) := fun j => full_i _
              have hn18 : ∀ j, inb (bA 12 74 j) (n18 j) := fun j => full_i _
              have dn20 : n20.toInt = ((iv 12 67) : Int32).toInt + 1 := dn20
              have hn20 : 0 ≤ n20.toInt ∧ n20.toInt ≤ 40 := hn20
              obtain ⟨hP, hD⟩ := hB
              rw [ht9] at hP
              generalize H1 = H at hP hS ⊢
              have hP : va_P (dC, dI) classes (WM h g ca (u2 iv 12 67 n20) lv (u2 (u2 (u2 (u2 (u2 (u2 fa 12 68 n13) 12 69 n14) 12 71 n15) 12 72 n16) 12 73 n17) 12 74 n18) (u2 la 12 70 n19)) H := hP
              have hD : va_D A (WM h g ca (u2 iv 12 67 n20) lv (u2 (u2 (u2 (u2 (u2 (u2 fa 12 68 n13) 12 69 n14) 12 71 n15) 12 72 n16) 12 73 n17) 12 74 n18) (u2 la 12 70 n19)) := (show va_D _ (WM h g ca (u2 iv 12 67 n20) lv (u2 (u2 (u2 (u2 (u2 (u2 fa 12 68 n13) 12 69 n14) 12 71 n15) 12 72 n16) 12 73 n17) 12 74 n18) (u2 la 12 70 n19)) from hD).weaken (fun _ _ _ h => hFc _ h)
              refine lv_aload_n hx hb dX12_bill_71 rfl (lv_at hl 0 rfl) ?_
              refine gM_12_67 hx hb ht hown hK hP m_1206 (v := n20) rfl dX12_bill_72 ?_
              refine lv_iconst (v := 1) hx hb dX12_bill_75 (by decide) ?_
              refine lv_isub hx hb dX12_bill_76 ?_
              refine lv_topi (fun v21 ev21 => ?_)
              have tv21 := z_sub ev21 (rfl : (n20).toInt = _) (by decide : (1 : Int32).toInt = 1) (by omega) (by omega)
              have hP9 : va_P (dC, dI) classes (WM h g ca (u2 iv 12 67 n20) lv (u2 (u2 (u2 (u2 (u2 (u2 fa 12 68 n13) 12 69 n14) 12 71 n15) 12 72 n16) 12 73 n17) 12 74 n18) (u2 la 12 70 n19)) H := hP
              have hD9 : va_D A (WM h g ca (u2 iv 12 67 n20) lv (u2 (u2 (u2 (u2 (u2 (u2 fa 12 68 n13) 12 69 n14) 12 71 n15) 12 72 n16) 12 73 n17) 12 74 n18) (u2 la 12 70 n19)) := hD
              exact W.iret (v := v21) hx hb hr (fun t ht9 hW => ⟨⟨v21, ((u2 iv 12 67 n20), lv, (u2 (u2 (u2 (u2 (u2 (u2 fa 12 68 n13) 12 69 n14) 12 71 n15) 12 72 n16) 12 73 n17) 12 74 n18), (u2 la 12 70 n19)), rfl, ⟨n13, n14, n15, n16, n17, n18, n19, n20, hn15, (show inb (0, 40) n20 from ⟨by omega, by omega⟩), ⟨by omega, by omega⟩, rfl⟩, by rw [ht9]; exact hP9, hD9⟩, hS.F ht9⟩) hS.2.2 dX12_bill_77
            · have fc8 := z_eq (rfl : ((iv 12 67)).toInt = _) (by decide : (40 : Int32).toInt = 40) c8
              refine lv_ldc hx hb hown (ht _ m_1380) dX12_bill_46 ?_
              have hP9 : va_P (dC, dI) classes (WM h g ca (u2 iv 12 67 (iv 12 67)) lv (u2 (u2 (u2 (u2 (u2 (u2 fa 12 68 (fa 12 68)) 12 69 (fa 12 69)) 12 71 (fa 12 71)) 12 72 (fa 12 72)) 12 73 (fa 12 73)) 12 74 (fa 12 74)) (u2 la 12 70 (la 12 70))) s.heap := hP
              have hD9 : va_D A (WM h g ca (u2 iv 12 67 (iv 12 67)) lv (u2 (u2 (u2 (u2 (u2 (u2 fa 12 68 (fa 12 68)) 12 69 (fa 12 69)) 12 71 (fa 12 71)) 12 72 (fa 12 72)) 12 73 (fa 12 73)) 12 74 (fa 12 74)) (u2 la 12 70 (la 12 70))) := hD
              exact W.iret (v := (-100004)) hx hb hr (fun t ht9 hW => ⟨⟨(-100004), ((u2 iv 12 67 (iv 12 67)), lv, (u2 (u2 (u2 (u2 (u2 (u2 fa 12 68 (fa 12 68)) 12 69 (fa 12 69)) 12 71 (fa 12 71)) 12 72 (fa 12 72)) 12 73 (fa 12 73)) 12 74 (fa 12 74)), (u2 la 12 70 (la 12 70))), rfl, ⟨(fa 12 68), (fa 12 69), (fa 12 71), (fa 12 72), (fa 12 73), (fa 12 74), (la 12 70), (iv 12 67), (hI.2 12 71), (hI.1 12 67), ⟨by decide, by decide⟩, rfl⟩, by rw [ht9]; exact hP9, hD9⟩, hS.F ht9⟩) hS.2.2 dX12_bill_48
          · have fc7 := z_eq (rfl : (r6).toInt = _) (by decide : (0 : Int32).toInt = 0) c7
            refine lv_ldc hx hb hown (ht _ m_1374) dX12_bill_34 ?_
            have hP9 : va_P (dC, dI) classes (WM h g ca (u2 iv 12 67 (iv 12 67)) lv (u2 (u2 (u2 (u2 (u2 (u2 fa 12 68 (fa 12 68)) 12 69 (fa 12 69)) 12 71 (fa 12 71)) 12 72 (fa 12 72)) 12 73 (fa 12 73)) 12 74 (fa 12 74)) (u2 la 12 70 (la 12 70))) s.heap := hP
            have hD9 : va_D A (WM h g ca (u2 iv 12 67 (iv 12 67)) lv (u2 (u2 (u2 (u2 (u2 (u2 fa 12 68 (fa 12 68)) 12 69 (fa 12 69)) 12 71 (fa 12 71)) 12 72 (fa 12 72)) 12 73 (fa 12 73)) 12 74 (fa 12 74)) (u2 la 12 70 (la 12 70))) := hD
            exact W.iret (v := (-100003)) hx hb hr (fun t ht9 hW => ⟨⟨(-100003), ((u2 iv 12 67 (iv 12 67)), lv, (u2 (u2 (u2 (u2 (u2 (u2 fa 12 68 (fa 12 68)) 12 69 (fa 12 69)) 12 71 (fa 12 71)) 12 72 (fa 12 72)) 12 73 (fa 12 73)) 12 74 (fa 12 74)), (u2 la 12 70 (la 12 70))), rfl, ⟨(fa 12 68), (fa 12 69), (fa 12 71), (fa 12 72), (fa 12 73), (fa 12 74), (la 12 70), (iv 12 67), (hI.2 12 71), (hI.1 12 67), ⟨by decide, by decide⟩, rfl⟩, by rw [ht9]; exact hP9, hD9⟩, hS.F ht9⟩) hS.2.2 dX12_bill_36
        · exact absurd c5 (by decide)
      · skip
        refine lv_if_ne (tgt := 26) hx hb dX12_bill_20 (by decide) (fun c22 => ?_) (fun c22 => ?_)
        · exact absurd rfl c22
        · skip
          refine lv_ldc hx hb hown (ht _ m_1373) dX12_bill_23 ?_
          have hP9 : va_P (dC, dI) classes (WM h g ca (u2 iv 12 67 (iv 12 67)) lv (u2 (u2 (u2 (u2 (u2 (u2 fa 12 68 (fa 12 68)) 12 69 (fa 12 69)) 12 71 (fa 12 71)) 12 72 (fa 12 72)) 12 73 (fa 12 73)) 12 74 (fa 12 74)) (u2 la 12 70 (la 12 70))) s.heap := hP
          have hD9 : va_D A (WM h g ca (u2 iv 12 67 (iv 12 67)) lv (u2 (u2 (u2 (u2 (u2 (u2 fa 12 68 (fa 12 68)) 12 69 (fa 12 69)) 12 71 (fa 12 71)) 12 72 (fa 12 72)) 12 73 (fa 12 73)) 12 74 (fa 12 74)) (u2 la 12 70 (la 12 70))) := hD
          exact W.iret (v := (-100002)) hx hb hr (fun t ht9 hW => ⟨⟨(-100002), ((u2 iv 12 67 (iv 12 67)), lv, (u2 (u2 (u2 (u2 (u2 (u2 fa 12 68 (fa 12 68)) 12 69 (fa 12 69)) 12 71 (fa 12 71)) 12 72 (fa 12 72)) 12 73 (fa 12 73)) 12 74 (fa 12 74)), (u2 la 12 70 (la 12 70))), rfl, ⟨(fa 12 68), (fa 12 69), (fa 12 71), (fa 12 72), (fa 12 73), (fa 12 74), (la 12 70), (iv 12 67), (hI.2 12 71), (hI.1 12 67), ⟨by decide, by decide⟩, rfl⟩, by rw [ht9]; exact hP9, hD9⟩, hS.F ht9⟩) hS.2.2 dX12_bill_25
    · exact absurd rfl c3
