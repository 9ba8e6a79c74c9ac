/-! ===== m3 ===== -/
set_option maxRecDepth 100000 in
theorem m_47 : Cond.selects RX12 yX12_here yX12_here ∈ tb := tb_in 47 (by decide +kernel) rfl
theorem m_1171 : Cond.fieldLink RX12 83 "SilkHouseModel" "text" "[I" ∈ tb := mb_5_5 _ (List.mem_of_getElem? (i := 12) rfl)
theorem m_1172 : Cond.fieldLink RX12 249 "SilkHouseModel" "textSize" "I" ∈ tb := mb_5_5 _ (List.mem_of_getElem? (i := 13) rfl)
theorem m_1173 : Cond.fieldLink RX12 254 "SilkHouseModel" "at" "I" ∈ tb := mb_5_5 _ (List.mem_of_getElem? (i := 14) rfl)
theorem m_1174 : Cond.fieldLink RX12 257 "SilkHouseModel" "faultOf" "I" ∈ tb := mb_5_5 _ (List.mem_of_getElem? (i := 15) rfl)
theorem m_1175 : Cond.fieldLink RX12 86 "SilkHouseModel" "place" "I" ∈ tb := mb_5_5 _ (List.mem_of_getElem? (i := 16) rfl)
theorem m_1176 : Cond.fieldLink RX12 264 "SilkHouseModel" "from" "I" ∈ tb := mb_5_5 _ (List.mem_of_getElem? (i := 17) rfl)
theorem m_1452 : Cond.constantLong RX12 247 (8) ∈ tb := mb_6_3 _ (List.mem_of_getElem? (i := 10) rfl)
theorem m_1453 : Cond.constantLong RX12 252 (255) ∈ tb := mb_6_3 _ (List.mem_of_getElem? (i := 11) rfl)
theorem m_1458 : Cond.methodLink RX12 260 yX12_here ∈ tb := mb_6_3 _ (List.mem_of_getElem? (i := 16) rfl)
theorem m_1460 : Cond.instanceMethod yX12_here ∈ tb := mb_6_3 _ (List.mem_of_getElem? (i := 17) rfl)
theorem m_1461 : Cond.code yX12_here cX12_here 1 (some .int) ∈ tb := mb_6_3 _ (List.mem_of_getElem? (i := 18) rfl)
theorem hd_X12_here_v : yX12_here.cls = RX12 ∧ yX12_here.cls ≠ "java/lang/invoke/MethodHandle" ∧ yX12_here.cls ≠ "java/lang/invoke/VarHandle" ∧ (parseMethodDescriptor yX12_here.desc).map (fun d => d.parameters.length) = some 0 := by decide +kernel
set_option maxRecDepth 100000 in
theorem dvX12_atFirst_0 : ([(0, .iload_n 0, 1), (1, .tableswitch 47 0 4 #[35, 38, 40, 42, 44], 35), (36, .bipush 110, 2), (38, .ireturn, 1), (39, .iconst 3, 1), (40, .ireturn, 1), (41, .iconst 5, 1), (42, .ireturn, 1), (43, .iconst 2, 1), (44, .ireturn, 1), (45, .bipush 10, 2), (47, .ireturn, 1), (48, .iconst 0, 1), (49, .ireturn, 1)] : List (Nat × Instr × Nat)).all (fun q => decide (decode cX12_atFirst q.1 = .ok (q.2.1, q.2.2))) = true := by decide +kernel
theorem dX12_atFirst_0 : decode cX12_atFirst 0 = .ok (.iload_n 0, 1) := all_at dvX12_atFirst_0 0 rfl
theorem dX12_atFirst_1 : decode cX12_atFirst 1 = .ok (.tableswitch 47 0 4 #[35, 38, 40, 42, 44], 35) := all_at dvX12_atFirst_0 1 rfl
theorem dX12_atFirst_36 : decode cX12_atFirst 36 = .ok (.bipush 110, 2) := all_at dvX12_atFirst_0 2 rfl
theorem dX12_atFirst_38 : decode cX12_atFirst 38 = .ok (.ireturn, 1) := all_at dvX12_atFirst_0 3 rfl
theorem dX12_atFirst_39 : decode cX12_atFirst 39 = .ok (.iconst 3, 1) := all_at dvX12_atFirst_0 4 rfl
theorem dX12_atFirst_40 : decode cX12_atFirst 40 = .ok (.ireturn, 1) := all_at dvX12_atFirst_0 5 rfl
theorem dX12_atFirst_41 : decode cX12_atFirst 41 = .ok (.iconst 5, 1) := all_at dvX12_atFirst_0 6 rfl
theorem dX12_atFirst_42 : decode cX12_atFirst 42 = .ok (.ireturn, 1) := all_at dvX12_atFirst_0 7 rfl
theorem dX12_atFirst_43 : decode cX12_atFirst 43 = .ok (.iconst 2, 1) := all_at dvX12_atFirst_0 8 rfl
theorem dX12_atFirst_44 : decode cX12_atFirst 44 = .ok (.ireturn, 1) := all_at dvX12_atFirst_0 9 rfl
theorem dX12_atFirst_45 : decode cX12_atFirst 45 = .ok (.bipush 10, 2) := all_at dvX12_atFirst_0 10 rfl
theorem dX12_atFirst_47 : decode cX12_atFirst 47 = .ok (.ireturn, 1) := all_at dvX12_atFirst_0 11 rfl
theorem dX12_atFirst_48 : decode cX12_atFirst 48 = .ok (.iconst 0, 1) := all_at dvX12_atFirst_0 12 rfl
theorem dX12_atFirst_49 : decode cX12_atFirst 49 = .ok (.ireturn, 1) := all_at dvX12_atFirst_0 13 rfl
theorem dX12_fault_0 : decode cX12_fault 0 = .ok (.aload_n 0, 1) := by decide +kernel
theorem dX12_fault_1 : decode cX12_fault 1 = .ok (.getfield 86, 3) := by decide +kernel
theorem dX12_fault_4 : decode cX12_fault 4 = .ok (.ireturn, 1) := by decide +kernel
set_option maxRecDepth 100000 in
theorem dvX12_feed_0 : ([(0, .iload_n 1, 1), (1, .i2l, 1), (2, .lconst 1, 1), (3, .ldc2_w 247, 3), (6, .invokestatic 167, 3), (9, .ifCond .ne 6, 3), (15, .aload_n 0, 1), (16, .getfield 249, 3), (19, .iload_n 1, 1), (20, .iadd, 1), (21, .sipush 200, 3), (24, .if_icmp .le 6, 3), (30, .iload_n 1, 1), (31, .iconst 1, 1), (32, .isub, 1), (33, .istore 4, 2), (35, .iload 4, 2), (37, .ifCond .lt 40, 3), (40, .aload_n 0, 1), (41, .getfield 83, 3), (44, .aload_n 0, 1), (45, .getfield 249, 3), (48, .lload_n 2, 1), (49, .bipush 8, 2)] : List (Nat × Instr × Nat)).all (fun q => decide (decode cX12_feed q.1 = .ok (q.2.1, q.2.2))) = true := by decide +kernel
theorem dX12_feed_0 : decode cX12_feed 0 = .ok (.iload_n 1, 1) := all_at dvX12_feed_0 0 rfl
theorem dX12_feed_1 : decode cX12_feed 1 = .ok (.i2l, 1) := all_at dvX12_feed_0 1 rfl
theorem dX12_feed_2 : decode cX12_feed 2 = .ok (.lconst 1, 1) := all_at dvX12_feed_0 2 rfl
theorem dX12_feed_3 : decode cX12_feed 3 = .ok (.ldc2_w 247, 3) := all_at dvX12_feed_0 3 rfl
theorem dX12_feed_6 : decode cX12_feed 6 = .ok (.invokestatic 167, 3) := all_at dvX12_feed_0 4 rfl
theorem dX12_feed_9 : decode cX12_feed 9 = .ok (.ifCond .ne 6, 3) := all_at dvX12_feed_0 5 rfl
theorem dX12_feed_15 : decode cX12_feed 15 = .ok (.aload_n 0, 1) := all_at dvX12_feed_0 6 rfl
theorem dX12_feed_16 : decode cX12_feed 16 = .ok (.getfield 249, 3) := all_at dvX12_feed_0 7 rfl
theorem dX12_feed_19 : decode cX12_feed 19 = .ok (.iload_n 1, 1) := all_at dvX12_feed_0 8 rfl
theorem dX12_feed_20 : decode cX12_feed 20 = .ok (.iadd, 1) := all_at dvX12_feed_0 9 rfl
theorem dX12_feed_21 : decode cX12_feed 21 = .ok (.sipush 200, 3) := all_at dvX12_feed_0 10 rfl
theorem dX12_feed_24 : decode cX12_feed 24 = .ok (.if_icmp .le 6, 3) := all_at dvX12_feed_0 11 rfl
theorem dX12_feed_30 : decode cX12_feed 30 = .ok (.iload_n 1, 1) := all_at dvX12_feed_0 12 rfl
theorem dX12_feed_31 : decode cX12_feed 31 = .ok (.iconst 1, 1) := all_at dvX12_feed_0 13 rfl
theorem dX12_feed_32 : decode cX12_feed 32 = .ok (.isub, 1) := all_at dvX12_feed_0 14 rfl
theorem dX12_feed_33 : decode cX12_feed 33 = .ok (.istore 4, 2) := all_at dvX12_feed_0 15 rfl
theorem dX12_feed_35 : decode cX12_feed 35 = .ok (.iload 4, 2) := all_at dvX12_feed_0 16 rfl
theorem dX12_feed_37 : decode cX12_feed 37 = .ok (.ifCond .lt 40, 3) := all_at dvX12_feed_0 17 rfl
theorem dX12_feed_40 : decode cX12_feed 40 = .ok (.aload_n 0, 1) := all_at dvX12_feed_0 18 rfl
theorem dX12_feed_41 : decode cX12_feed 41 = .ok (.getfield 83, 3) := all_at dvX12_feed_0 19 rfl
theorem dX12_feed_44 : decode cX12_feed 44 = .ok (.aload_n 0, 1) := all_at dvX12_feed_0 20 rfl
theorem dX12_feed_45 : decode cX12_feed 45 = .ok (.getfield 249, 3) := all_at dvX12_feed_0 21 rfl
theorem dX12_feed_48 : decode cX12_feed 48 = .ok (.lload_n 2, 1) := all_at dvX12_feed_0 22 rfl
theorem dX12_feed_49 : decode cX12_feed 49 = .ok (.bipush 8, 2) := all_at dvX12_feed_0 23 rfl
set_option maxRecDepth 100000 in
theorem dvX12_feed_51 : ([(51, .iload 4, 2), (53, .imul, 1), (54, .lshr, 1), (55, .ldc2_w 252, 3), (58, .land, 1), (59, .l2i, 1), (60, .iastore, 1)] : List (Nat × Instr × Nat)).all (fun q => decide (decode cX12_feed q.1 = .ok (q.2.1, q.2.2))) = true := by decide +kernel
theorem dX12_feed_51 : decode cX12_feed 51 = .ok (.iload 4, 2) := all_at dvX12_feed_51 0 rfl
theorem dX12_feed_53 : decode cX12_feed 53 = .ok (.imul, 1) := all_at dvX12_feed_51 1 rfl
theorem dX12_feed_54 : decode cX12_feed 54 = .ok (.lshr, 1) := all_at dvX12_feed_51 2 rfl
theorem dX12_feed_55 : decode cX12_feed 55 = .ok (.ldc2_w 252, 3) := all_at dvX12_feed_51 3 rfl
theorem dX12_feed_58 : decode cX12_feed 58 = .ok (.land, 1) := all_at dvX12_feed_51 4 rfl
theorem dX12_feed_59 : decode cX12_feed 59 = .ok (.l2i, 1) := all_at dvX12_feed_51 5 rfl
theorem dX12_feed_60 : decode cX12_feed 60 = .ok (.iastore, 1) := all_at dvX12_feed_51 6 rfl
set_option maxRecDepth 100000 in
theorem dvX12_here_0 : ([(0, .aload_n 0, 1), (1, .getfield 254, 3), (4, .aload_n 0, 1), (5, .getfield 249, 3), (8, .if_icmp .ge 30, 3), (11, .aload_n 0, 1), (12, .getfield 83, 3), (15, .aload_n 0, 1), (16, .getfield 254, 3), (19, .iaload, 1), (20, .bipush 32, 2), (22, .if_icmp .ne 16, 3), (25, .aload_n 0, 1), (26, .dup, 1), (27, .getfield 254, 3), (30, .iconst 1, 1), (31, .iadd, 1), (32, .putfield 254, 3), (35, .goto (-35), 3), (38, .aload_n 0, 1), (39, .getfield 254, 3), (42, .aload_n 0, 1), (43, .getfield 249, 3), (46, .if_icmp .ge 15, 3)] : List (Nat × Instr × Nat)).all (fun q => decide (decode cX12_here q.1 = .ok (q.2.1, q.2.2))) = true := by decide +kernel
theorem dX12_here_0 : decode cX12_here 0 = .ok (.aload_n 0, 1) := all_at dvX12_here_0 0 rfl
theorem dX12_here_1 : decode cX12_here 1 = .ok (.getfield 254, 3) := all_at dvX12_here_0 1 rfl
theorem dX12_here_4 : decode cX12_here 4 = .ok (.aload_n 0, 1) := all_at dvX12_here_0 2 rfl
theorem dX12_here_5 : decode cX12_here 5 = .ok (.getfield 249, 3) := all_at dvX12_here_0 3 rfl
theorem dX12_here_8 : decode cX12_here 8 = .ok (.if_icmp .ge 30, 3) := all_at dvX12_here_0 4 rfl
theorem dX12_here_11 : decode cX12_here 11 = .ok (.aload_n 0, 1) := all_at dvX12_here_0 5 rfl
theorem dX12_here_12 : decode cX12_here 12 = .ok (.getfield 83, 3) := all_at dvX12_here_0 6 rfl
theorem dX12_here_15 : decode cX12_here 15 = .ok (.aload_n 0, 1) := all_at dvX12_here_0 7 rfl
theorem dX12_here_16 : decode cX12_here 16 = .ok (.getfield 254, 3) := all_at dvX12_here_0 8 rfl
theorem dX12_here_19 : decode cX12_here 19 = .ok (.iaload, 1) := all_at dvX12_here_0 9 rfl
theorem dX12_here_20 : decode cX12_here 20 = .ok (.bipush 32, 2) := all_at dvX12_here_0 10 rfl
theorem dX12_here_22 : decode cX12_here 22 = .ok (.if_icmp .ne 16, 3) := all_at dvX12_here_0 11 rfl
theorem dX12_here_25 : decode cX12_here 25 = .ok (.aload_n 0, 1) := all_at dvX12_here_0 12 rfl
theorem dX12_here_26 : decode cX12_here 26 = .ok (.dup, 1) := all_at dvX12_here_0 13 rfl
theorem dX12_here_27 : decode cX12_here 27 = .ok (.getfield 254, 3) := all_at dvX12_here_0 14 rfl
theorem dX12_here_30 : decode cX12_here 30 = .ok (.iconst 1, 1) := all_at dvX12_here_0 15 rfl
theorem dX12_here_31 : decode cX12_here 31 = .ok (.iadd, 1) := all_at dvX12_here_0 16 rfl
theorem dX12_here_32 : decode cX12_here 32 = .ok (.putfield 254, 3) := all_at dvX12_here_0 17 rfl
theorem dX12_here_35 : decode cX12_here 35 = .ok (.goto (-35), 3) := all_at dvX12_here_0 18 rfl
theorem dX12_here_38 : decode cX12_here 38 = .ok (.aload_n 0, 1) := all_at dvX12_here_0 19 rfl
theorem dX12_here_39 : decode cX12_here 39 = .ok (.getfield 254, 3) := all_at dvX12_here_0 20 rfl
theorem dX12_here_42 : decode cX12_here 42 = .ok (.aload_n 0, 1) := all_at dvX12_here_0 21 rfl
theorem dX12_here_43 : decode cX12_here 43 = .ok (.getfield 249, 3) := all_at dvX12_here_0 22 rfl
theorem dX12_here_46 : decode cX12_here 46 = .ok (.if_icmp .ge 15, 3) := all_at dvX12_here_0 23 rfl
set_option maxRecDepth 100000 in
theorem dvX12_here_49 : ([(49, .aload_n 0, 1), (50, .getfield 83, 3), (53, .aload_n 0, 1), (54, .getfield 254, 3), (57, .iaload, 1), (58, .goto 4, 3), (61, .iconst (-1), 1), (62, .ireturn, 1)] : List (Nat × Instr × Nat)).all (fun q => decide (decode cX12_here q.1 = .ok (q.2.1, q.2.2))) = true := by decide +kernel
theorem dX12_here_49 : decode cX12_here 49 = .ok (.aload_n 0, 1) := all_at dvX12_here_49 0 rfl
theorem dX12_here_50 : decode cX12_here 50 = .ok (.getfield 83, 3) := all_at dvX12_here_49 1 rfl
theorem dX12_here_53 : decode cX12_here 53 = .ok (.aload_n 0, 1) := all_at dvX12_here_49 2 rfl
theorem dX12_here_54 : decode cX12_here 54 = .ok (.getfield 254, 3) := all_at dvX12_here_49 3 rfl
theorem dX12_here_57 : decode cX12_here 57 = .ok (.iaload, 1) := all_at dvX12_here_49 4 rfl
theorem dX12_here_58 : decode cX12_here 58 = .ok (.goto 4, 3) := all_at dvX12_here_49 5 rfl
theorem dX12_here_61 : decode cX12_here 61 = .ok (.iconst (-1), 1) := all_at dvX12_here_49 6 rfl
theorem dX12_here_62 : decode cX12_here 62 = .ok (.ireturn, 1) := all_at dvX12_here_49 7 rfl
set_option maxRecDepth 100000 in
theorem dvX12_leastOf_0 : ([(0, .iload_n 0, 1), (1, .iconst 1, 1), (2, .if_icmp .eq 8, 3), (5, .iload_n 0, 1), (6, .iconst 3, 1), (7, .if_icmp .ne 7, 3), (10, .iconst 1, 1), (11, .goto 4, 3), (14, .iconst 0, 1), (15, .ireturn, 1)] : List (Nat × Instr × Nat)).all (fun q => decide (decode cX12_leastOf q.1 = .ok (q.2.1, q.2.2))) = true := by decide +kernel
theorem dX12_leastOf_0 : decode cX12_leastOf 0 = .ok (.iload_n 0, 1) := all_at dvX12_leastOf_0 0 rfl
theorem dX12_leastOf_1 : decode cX12_leastOf 1 = .ok (.iconst 1, 1) := all_at dvX12_leastOf_0 1 rfl
theorem dX12_leastOf_2 : decode cX12_leastOf 2 = .ok (.if_icmp .eq 8, 3) := all_at dvX12_leastOf_0 2 rfl
theorem dX12_leastOf_5 : decode cX12_leastOf 5 = .ok (.iload_n 0, 1) := all_at dvX12_leastOf_0 3 rfl
theorem dX12_leastOf_6 : decode cX12_leastOf 6 = .ok (.iconst 3, 1) := all_at dvX12_leastOf_0 4 rfl
theorem dX12_leastOf_7 : decode cX12_leastOf 7 = .ok (.if_icmp .ne 7, 3) := all_at dvX12_leastOf_0 5 rfl
theorem dX12_leastOf_10 : decode cX12_leastOf 10 = .ok (.iconst 1, 1) := all_at dvX12_leastOf_0 6 rfl
theorem dX12_leastOf_11 : decode cX12_leastOf 11 = .ok (.goto 4, 3) := all_at dvX12_leastOf_0 7 rfl
theorem dX12_leastOf_14 : decode cX12_leastOf 14 = .ok (.iconst 0, 1) := all_at dvX12_leastOf_0 8 rfl
theorem dX12_leastOf_15 : decode cX12_leastOf 15 = .ok (.ireturn, 1) := all_at dvX12_leastOf_0 9 rfl
set_option maxRecDepth 100000 in
theorem dvX12_mostOf_0 : ([(0, .iload_n 0, 1), (1, .tableswitch 44 0 3 #[31, 35, 38, 42], 31), (32, .sipush 300, 3), (35, .ireturn, 1), (36, .bipush 9, 2), (38, .ireturn, 1), (39, .sipush 200, 3), (42, .ireturn, 1), (43, .iconst 2, 1), (44, .ireturn, 1), (45, .sipush 999, 3), (48, .ireturn, 1)] : List (Nat × Instr × Nat)).all (fun q => decide (decode cX12_mostOf q.1 = .ok (q.2.1, q.2.2))) = true := by decide +kernel
theorem dX12_mostOf_0 : decode cX12_mostOf 0 = .ok (.iload_n 0, 1) := all_at dvX12_mostOf_0 0 rfl
theorem dX12_mostOf_1 : decode cX12_mostOf 1 = .ok (.tableswitch 44 0 3 #[31, 35, 38, 42], 31) := all_at dvX12_mostOf_0 1 rfl
theorem dX12_mostOf_32 : decode cX12_mostOf 32 = .ok (.sipush 300, 3) := all_at dvX12_mostOf_0 2 rfl
theorem dX12_mostOf_35 : decode cX12_mostOf 35 = .ok (.ireturn, 1) := all_at dvX12_mostOf_0 3 rfl
theorem dX12_mostOf_36 : decode cX12_mostOf 36 = .ok (.bipush 9, 2) := all_at dvX12_mostOf_0 4 rfl
theorem dX12_mostOf_38 : decode cX12_mostOf 38 = .ok (.ireturn, 1) := all_at dvX12_mostOf_0 5 rfl
theorem dX12_mostOf_39 : decode cX12_mostOf 39 = .ok (.sipush 200, 3) := all_at dvX12_mostOf_0 6 rfl
theorem dX12_mostOf_42 : decode cX12_mostOf 42 = .ok (.ireturn, 1) := all_at dvX12_mostOf_0 7 rfl
theorem dX12_mostOf_43 : decode cX12_mostOf 43 = .ok (.iconst 2, 1) := all_at dvX12_mostOf_0 8 rfl
theorem dX12_mostOf_44 : decode cX12_mostOf 44 = .ok (.ireturn, 1) := all_at dvX12_mostOf_0 9 rfl
theorem dX12_mostOf_45 : decode cX12_mostOf 45 = .ok (.sipush 999, 3) := all_at dvX12_mostOf_0 10 rfl
theorem dX12_mostOf_48 : decode cX12_mostOf 48 = .ok (.ireturn, 1) := all_at dvX12_mostOf_0 11 rfl
set_option maxRecDepth 100000 in
theorem dvX12_takeWord_0 : ([(0, .aload_n 0, 1), (1, .invokevirtual 260, 3), (4, .istore_n 1, 1), (5, .aload_n 0, 1), (6, .aload_n 0, 1), (7, .getfield 254, 3), (10, .putfield 264, 3), (13, .aload_n 0, 1), (14, .getfield 254, 3), (17, .aload_n 0, 1), (18, .getfield 249, 3), (21, .if_icmp .ge 38, 3), (59, .aload_n 0, 1), (60, .aload_n 0, 1), (61, .getfield 254, 3), (64, .aload_n 0, 1), (65, .getfield 264, 3), (68, .isub, 1), (69, .putfield 271, 3)] : List (Nat × Instr × Nat)).all (fun q => decide (decode cX12_takeWord q.1 = .ok (q.2.1, q.2.2))) = true := by decide +kernel
theorem dX12_takeWord_0 : decode cX12_takeWord 0 = .ok (.aload_n 0, 1) := all_at dvX12_takeWord_0 0 rfl
theorem dX12_takeWord_1 : decode cX12_takeWord 1 = .ok (.invokevirtual 260, 3) := all_at dvX12_takeWord_0 1 rfl
theorem dX12_takeWord_4 : decode cX12_takeWord 4 = .ok (.istore_n 1, 1) := all_at dvX12_takeWord_0 2 rfl
theorem dX12_takeWord_5 : decode cX12_takeWord 5 = .ok (.aload_n 0, 1) := all_at dvX12_takeWord_0 3 rfl
theorem dX12_takeWord_6 : decode cX12_takeWord 6 = .ok (.aload_n 0, 1) := all_at dvX12_takeWord_0 4 rfl
theorem dX12_takeWord_7 : decode cX12_takeWord 7 = .ok (.getfield 254, 3) := all_at dvX12_takeWord_0 5 rfl
theorem dX12_takeWord_10 : decode cX12_takeWord 10 = .ok (.putfield 264, 3) := all_at dvX12_takeWord_0 6 rfl
theorem dX12_takeWord_13 : decode cX12_takeWord 13 = .ok (.aload_n 0, 1) := all_at dvX12_takeWord_0 7 rfl
theorem dX12_takeWord_14 : decode cX12_takeWord 14 = .ok (.getfield 254, 3) := all_at dvX12_takeWord_0 8 rfl
theorem dX12_takeWord_17 : decode cX12_takeWord 17 = .ok (.aload_n 0, 1) := all_at dvX12_takeWord_0 9 rfl
theorem dX12_takeWord_18 : decode cX12_takeWord 18 = .ok (.getfield 249, 3) := all_at dvX12_takeWord_0 10 rfl
theorem dX12_takeWord_21 : decode cX12_takeWord 21 = .ok (.if_icmp .ge 38, 3) := all_at dvX12_takeWord_0 11 rfl
theorem dX12_takeWord_59 : decode cX12_takeWord 59 = .ok (.aload_n 0, 1) := all_at dvX12_takeWord_0 12 rfl
theorem dX12_takeWord_60 : decode cX12_takeWord 60 = .ok (.aload_n 0, 1) := all_at dvX12_takeWord_0 13 rfl
theorem dX12_takeWord_61 : decode cX12_takeWord 61 = .ok (.getfield 254, 3) := all_at dvX12_takeWord_0 14 rfl
theorem dX12_takeWord_64 : decode cX12_takeWord 64 = .ok (.aload_n 0, 1) := all_at dvX12_takeWord_0 15 rfl
theorem dX12_takeWord_65 : decode cX12_takeWord 65 = .ok (.getfield 264, 3) := all_at dvX12_takeWord_0 16 rfl
theorem dX12_takeWord_68 : decode cX12_takeWord 68 = .ok (.isub, 1) := all_at dvX12_takeWord_0 17 rfl
theorem dX12_takeWord_69 : decode cX12_takeWord 69 = .ok (.putfield 271, 3) := all_at dvX12_takeWord_0 18 rfl
set_option maxRecDepth 100000 in
theorem dvX12_want_0 : ([(0, .iload_n 1, 1), (1, .ifCond .ne 20, 3), (4, .aload_n 0, 1), (5, .getfield 257, 3), (8, .ifCond .ne 13, 3), (11, .aload_n 0, 1), (12, .iload_n 2, 1), (13, .putfield 257, 3), (16, .aload_n 0, 1), (17, .iload_n 3, 1), (18, .putfield 86, 3), (21, .aload_n 0, 1), (22, .getfield 257, 3), (25, .ifCond .ne 7, 3), (28, .iconst 1, 1), (29, .goto 4, 3), (32, .iconst 0, 1), (33, .ireturn, 1)] : List (Nat × Instr × Nat)).all (fun q => decide (decode cX12_want q.1 = .ok (q.2.1, q.2.2))) = true := by decide +kernel
theorem dX12_want_0 : decode cX12_want 0 = .ok (.iload_n 1, 1) := all_at dvX12_want_0 0 rfl
theorem dX12_want_1 : decode cX12_want 1 = .ok (.ifCond .ne 20, 3) := all_at dvX12_want_0 1 rfl
theorem dX12_want_4 : decode cX12_want 4 = .ok (.aload_n 0, 1) := all_at dvX12_want_0 2 rfl
theorem dX12_want_5 : decode cX12_want 5 = .ok (.getfield 257, 3) := all_at dvX12_want_0 3 rfl
theorem dX12_want_8 : decode cX12_want 8 = .ok (.ifCond .ne 13, 3) := all_at dvX12_want_0 4 rfl
theorem dX12_want_11 : decode cX12_want 11 = .ok (.aload_n 0, 1) := all_at dvX12_want_0 5 rfl
theorem dX12_want_12 : decode cX12_want 12 = .ok (.iload_n 2, 1) := all_at dvX12_want_0 6 rfl
theorem dX12_want_13 : decode cX12_want 13 = .ok (.putfield 257, 3) := all_at dvX12_want_0 7 rfl
theorem dX12_want_16 : decode cX12_want 16 = .ok (.aload_n 0, 1) := all_at dvX12_want_0 8 rfl
theorem dX12_want_17 : decode cX12_want 17 = .ok (.iload_n 3, 1) := all_at dvX12_want_0 9 rfl
theorem dX12_want_18 : decode cX12_want 18 = .ok (.putfield 86, 3) := all_at dvX12_want_0 10 rfl
theorem dX12_want_21 : decode cX12_want 21 = .ok (.aload_n 0, 1) := all_at dvX12_want_0 11 rfl
theorem dX12_want_22 : decode cX12_want 22 = .ok (.getfield 257, 3) := all_at dvX12_want_0 12 rfl
theorem dX12_want_25 : decode cX12_want 25 = .ok (.ifCond .ne 7, 3) := all_at dvX12_want_0 13 rfl
theorem dX12_want_28 : decode cX12_want 28 = .ok (.iconst 1, 1) := all_at dvX12_want_0 14 rfl
theorem dX12_want_29 : decode cX12_want 29 = .ok (.goto 4, 3) := all_at dvX12_want_0 15 rfl
theorem dX12_want_32 : decode cX12_want 32 = .ok (.iconst 0, 1) := all_at dvX12_want_0 16 rfl
theorem dX12_want_33 : decode cX12_want 33 = .ok (.ireturn, 1) := all_at dvX12_want_0 17 rfl
theorem sw_0_3 (x : Int32) : (x.toInt < 0 ∨ 3 < x.toInt) ∨ x = 0 ∨ x = 1 ∨ x = 2 ∨ x = 3 := by
  by_cases h : x.toInt < 0 ∨ 3 < x.toInt
  · exact Or.inl h
  · right
    have h2 : x.toInt = 0 ∨ x.toInt = 1 ∨ x.toInt = 2 ∨ x.toInt = 3 := by omega
    rcases h2 with h2 | h2 | h2 | h2
    · exact Or.inl (z_of (by decide) h2)
    · exact Or.inr (Or.inl (z_of (by decide) h2))
    · exact Or.inr (Or.inr (Or.inl (z_of (by decide) h2)))
    · exact Or.inr (Or.inr (Or.inr (z_of (by decide) h2)))
theorem sw_0_4 (x : Int32) : (x.toInt < 0 ∨ 4 < x.toInt) ∨ x = 0 ∨ x = 1 ∨ x = 2 ∨ x = 3 ∨ x = 4 := by
  by_cases h : x.toInt < 0 ∨ 4 < x.toInt
  · exact Or.inl h
  · right
    have h2 : x.toInt = 0 ∨ x.toInt = 1 ∨ x.toInt = 2 ∨ x.toInt = 3 ∨ x.toInt = 4 := by omega
    rcases h2 with h2 | h2 | h2 | h2 | h2
    · exact Or.inl (z_of (by decide) h2)
    · exact Or.inr (Or.inl (z_of (by decide) h2))
    · exact Or.inr (Or.inr (Or.inl (z_of (by decide) h2)))
    · exact Or.inr (Or.inr (Or.inr (Or.inl (z_of (by decide) h2))))
    · exact Or.inr (Or.inr (Or.inr (Or.inr (z_of (by decide) h2))))
set_option maxHeartbeats 4000000 in
set_option maxRecDepth 100000 in
/-- X12_atFirst -/
theorem c_X12_atFirst (l : Launch) (dC : Nat → ClassId) (dI : Nat → Nat → Nat) (a : Int32) : Met l yX12_atFirst (wc yX12_atFirst cX12_atFirst 1 (some .int)) ({ frames := 0, cells := 0, slots := 0, locals := 0 } : Room) (pR (dC, dI) classes [] [] [.int a]) (vp_Si (fun r => 0 ≤ r.toInt ∧ r.toInt ≤ 110)) 0 0 (fun _ => False) := by
  refine Met.ofW (cc := cX12_atFirst) (maxL := 1) (ret := (some .int)) (by decide) rfl ?_
  intro p e s m args below meth c s₁ B hml hv
  obtain ⟨rfl, hP, hK⟩ := hv
  have hx := B.exec
  have hb := B.bytes
  have hr := B.returns
  have ht := tb_tl (atoms_spec (ws := wc yX12_atFirst cX12_atFirst 1 (some .int)) B.pre)
  have hown : s.vm.findClass RX12 = some m.cls := findClass_of_methodNamed B.named
  have hlocks := B.notSynchronized
  have hl := lv_entry [.int a] (n := 1) (Nat.le_of_ble_eq_true rfl)
  rw [lg_entry_eq]
  generalize (lg_sl [.int a] ++ List.replicate (1 - (lg_sl [.int a]).length) Slot.unset).toArray = ls at hl ⊢
  have hl : lv_has ls 1 [(0, .int a)] := hl
  refine lv_iload_n hx hb dX12_atFirst_0 rfl (lv_at hl 0 rfl) ?_
  rcases sw_0_4 a with h1 | rfl | rfl | rfl | rfl | rfl
  · refine lv_tableOut (tgt := 48) hx hb dX12_atFirst_1 h1 (by decide) ?_
    refine lv_iconst (v := 0) hx hb dX12_atFirst_48 (by decide) ?_
    exact W.iret (v := 0) hx hb hr (fun t ht9 hW => ⟨0, rfl, ⟨by decide, by decide⟩, ht9⟩) (fun q hq => by cases hq) dX12_atFirst_49
  · refine lv_tableIn (tgt := 36) (off := 35) hx hb dX12_atFirst_1 (by decide) (by decide) rfl (by decide) ?_
    refine lv_bipush (v := 110) hx hb dX12_atFirst_36 (by decide) ?_
    exact W.iret (v := 110) hx hb hr (fun t ht9 hW => ⟨110, rfl, ⟨by decide, by decide⟩, ht9⟩) (fun q hq => by cases hq) dX12_atFirst_38
  · refine lv_tableIn (tgt := 39) (off := 38) hx hb dX12_atFirst_1 (by decide) (by decide) rfl (by decide) ?_
    refine lv_iconst (v := 3) hx hb dX12_atFirst_39 (by decide) ?_
    exact W.iret (v := 3) hx hb hr (fun t ht9 hW => ⟨3, rfl, ⟨by decide, by decide⟩, ht9⟩) (fun q hq => by cases hq) dX12_atFirst_40
  · refine lv_tableIn (tgt := 41) (off := 40) hx hb dX12_atFirst_1 (by decide) (by decide) rfl (by decide) ?_
    refine lv_iconst (v := 5) hx hb dX12_atFirst_41 (by decide) ?_
    exact W.iret (v := 5) hx hb hr (fun t ht9 hW => ⟨5, rfl, ⟨by decide, by decide⟩, ht9⟩) (fun q hq => by cases hq) dX12_atFirst_42
  · refine lv_tableIn (tgt := 43) (off := 42) hx hb dX12_atFirst_1 (by decide) (by decide) rfl (by decide) ?_
    refine lv_iconst (v := 2) hx hb dX12_atFirst_43 (by decide) ?_
    exact W.iret (v := 2) hx hb hr (fun t ht9 hW => ⟨2, rfl, ⟨by decide, by decide⟩, ht9⟩) (fun q hq => by cases hq) dX12_atFirst_44
  · refine lv_tableIn (tgt := 45) (off := 44) hx hb dX12_atFirst_1 (by decide) (by decide) rfl (by decide) ?_
    refine lv_bipush (v := 10) hx hb dX12_atFirst_45 (by decide) ?_
    exact W.iret (v := 10) hx hb hr (fun t ht9 hW => ⟨10, rfl, ⟨by decide, by decide⟩, ht9⟩) (fun q hq => by cases hq) dX12_atFirst_47
