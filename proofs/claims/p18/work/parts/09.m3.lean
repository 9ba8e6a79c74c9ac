/-! ===== m3 ===== -/
set_option maxRecDepth 100000 in
theorem m_47 : Cond.selects RX12 yX12_here yX12_here ∈ tb := tb_in 47 (by decide +kernel) rfl
theorem m_1171 : Cond.fieldLink RX12 83 "SilkHouseModel" "text" "[I" ∈ tb := mb_5_5 _ (List.mem_of_getElem? (i := 12) rfl)
theorem m_1172 : Cond.fieldLink RX12 249 "SilkHouseModel" "textSize" "I" ∈ tb := mb_5_5 _ (List.mem_of_getElem? (i := 13) rfl)
theorem m_1173 : Cond.fieldLink RX12 254 "SilkHouseModel" "at" "I" ∈ tb := mb_5_5 _ (List.mem_of_getElem? (i := 14) rfl)
theorem m_1174 : Cond.fieldLink RX12 257 "SilkHouseModel" "faultOf" "I" ∈ tb := mb_5_5 _ (List.mem_of_getElem? (i := 15) rfl)
theorem m_1175 : Cond.fieldLink RX12 86 "SilkHouseModel" "place" "I" ∈ tb := mb_5_5 _ (List.mem_of_getElem? (i := 16) rfl)
theorem m_1176 : Cond.fieldLink RX12 264 "SilkHouseModel" "from" "I" ∈ tb := mb_5_5 _ (List.mem_of_getElem? (i := 17) rfl)
theorem m_1452 : Cond.constantLong RX12 247 (8) ∈ tb := mb_6_3 _ (List.mem_of_getElem? (i := 10) rfl)
theorem m_1453 : Cond.constantLong RX12 252 (255) ∈ tb := mb_6_3 _ (List.mem_of_getElem? (i := 11) rfl)
theorem m_1458 : Cond.methodLink RX12 260 yX12_here ∈ tb := mb_6_3 _ (List.mem_of_getElem? (i := 16) rfl)
theorem m_1460 : Cond.instanceMethod yX12_here ∈ tb := mb_6_3 _ (List.mem_of_getElem? (i := 17) rfl)
theorem m_1461 : Cond.code yX12_here cX12_here 1 (some .int) ∈ tb := mb_6_3 _ (List.mem_of_getElem? (i := 18) rfl)
theorem hd_X12_here_v : yX12_here.cls = RX12 ∧ yX12_here.cls ≠ "java/lang/invoke/MethodHandle" ∧ yX12_here.cls ≠ "java/lang/invoke/VarHandle" ∧ (parseMethodDescriptor yX12_here.desc).map (fun d => d.parameters.length) = some 0 := by decide +kernel
set_option maxRecDepth 100000 in
theorem dvX12_atFirst_0 : ([(0, .iload_n 0, 1), (1, .tableswitch 47 0 4 #[35, 38, 40, 42, 44], 35), (36, .bipush 110, 2), (38, .ireturn, 1), (39, .iconst 3, 1), (40, .ireturn, 1), (41, .iconst 5, 1), (42, .ireturn, 1), (43, .iconst 2, 1), (44, .ireturn, 1), (45, .bipush 10, 2), (47, .ireturn, 1), (48, .iconst 0, 1), (49, .ireturn, 1)] : List (Nat × Instr × Nat)).all (fun q => decide (decode cX12_atFirst q.1 = .ok (q.2.1, q.2.2))) = true := by decide +kernel
theorem dX12_atFirst_0 : decode cX12_atFirst 0 = .ok (.iload_n 0, 1) := all_at dvX12_atFirst_0 0 rfl
theorem dX12_atFirst_1 : decode cX12_atFirst 1 = .ok (.tableswitch 47 0 4 #[35, 38, 40, 42, 44], 35) := all_at dvX12_atFirst_0 1 rfl
theorem dX12_atFirst_36 : decode cX12_atFirst 36 = .ok (.bipush 110, 2) := all_at dvX12_atFirst_0 2 rfl
theorem dX12_atFirst_38 : decode cX12_atFirst 38 = .ok (.ireturn, 1) := all_at dvX12_atFirst_0 3 rfl
theorem dX12_atFirst_39 : decode cX12_atFirst 39 = .ok (.iconst 3, 1) := all_at dvX12_atFirst_0 4 rfl
theorem dX12_atFirst_40 : decode cX12_atFirst 40 = .ok (.ireturn, 1) := all_at dvX12_atFirst_0 5 rfl
theorem dX12_atFirst_41 : decode cX12_atFirst 41 = .ok (.iconst 5, 1) := all_at dvX12_atFirst_0 6 rfl
theorem dX12_atFirst_42 : decode cX12_atFirst 42 = .ok (.ireturn, 1) := all_at dvX12_atFirst_0 7 rfl
theorem dX12_atFirst_43 : decode cX12_atFirst 43 = .ok (.iconst 2, 1) := all_at dvX12_atFirst_0 8 rfl
theorem dX12_atFirst_44 : decode cX12_atFirst 44 = .ok (.ireturn, 1) := all_at dvX12_atFirst_0 9 rfl
theorem dX12_atFirst_45 : decode cX12_atFirst 45 = .ok (.bipush 10, 2) := all_at dvX12_atFirst_0 10 rfl
theorem dX12_atFirst_47 : decode cX12_atFirst 47 = .ok (.ireturn, 1) := all_at dvX12_atFirst_0 11 rfl
theorem dX12_atFirst_48 : decode cX12_atFirst 48 = .ok (.iconst 0, 1) := all_at dvX12_atFirst_0 12 rfl
theorem dX12_atFirst_49 : decode cX12_atFirst 49 = .ok (.ireturn, 1) := all_at dvX12_atFirst_0 13 rfl
theorem dX12_fault_0 : decode cX12_fault 0 = .ok (.aload_n 0, 1) := by decide +kernel
theorem dX12_fault_1 : decode cX12_fault 1 = .ok (.getfield 86, 3) := by decide +kernel
theorem dX12_fault_4 : decode cX12_fault 4 = .ok (.ireturn, 1) := by decide +kernel
set_option maxRecDepth 100000 in
theorem dvX12_feed_0 : ([(0, .iload_n 1, 1), (1, .i2l, 1), (2, .lconst 1, 1), (3, .ldc2_w 247, 3), (6, .invokestatic 167, 3), (9, .ifCond .ne 6, 3), (15, .aload_n 0, 1), (16, .getfield 249, 3), (19, .iload_n 1, 1), (20, .iadd, 1), (21, .sipush 200, 3), (24, .if_icmp .le 6, 3), (30, .iload_n 1, 1), (31, .iconst 1, 1), (32, .isub, 1), (33, .istore 4, 2), (35, .iload 4, 2), (37, .ifCond .lt 40, 3), (40, .aload_n 0, 1), (41, .getfield 83, 3), (44, .aload_n 0, 1), (45, .getfield 249, 3), (48, .lload_n 2, 1), (49, .bipush 8, 2)] : List (Nat × Instr × Nat)).all (fun q => decide (decode cX12_feed q.1 = .ok (q.2.1, q.2.2))) = true := by decide +kernel
theorem dX12_feed_0 : decode cX12_feed 0 = .ok (.iload_n 1, 1) := all_at dvX12_feed_0 0 rfl
theorem dX12_feed_1 : decode cX12_feed 1 = .ok (.i2l, 1) := all_at dvX12_feed_0 1 rfl
theorem dX12_feed_2 : decode cX12_feed 2 = .ok (.lconst 1, 1) := all_at dvX12_feed_0 2 rfl
theorem dX12_feed_3 : decode cX12_feed 3 = .ok (.ldc2_w 247, 3) := all_at dvX12_feed_0 3 rfl
theorem dX12_feed_6 : decode cX12_feed 6 = .ok (.invokestatic 167, 3) := all_at dvX12_feed_0 4 rfl
theorem dX12_feed_9 : decode cX12_feed 9 = .ok (.ifCond .ne 6, 3) := all_at dvX12_feed_0 5 rfl
theorem dX12_feed_15 : decode cX12_feed 15 = .ok (.aload_n 0, 1) := all_at dvX12_feed_0 6 rfl
theorem dX12_feed_16 : decode cX12_feed 16 = .ok (.getfield 249, 3) := all_at dvX12_feed_0 7 rfl
theorem dX12_feed_19 : decode cX12_feed 19 = .ok (.iload_n 1, 1) := all_at dvX12_feed_0 8 rfl
theorem dX12_feed_20 : decode cX12_feed 20 = .ok (.iadd, 1) := all_at dvX12_feed_0 9 rfl
theorem dX12_feed_21 : decode cX12_feed 21 = .ok (.sipush 200, 3) := all_at dvX12_feed_0 10 rfl
theorem dX12_feed_24 : decode cX12_feed 24 = .ok (.if_icmp .le 6, 3) := all_at dvX12_feed_0 11 rfl
theorem dX12_feed_30 : decode cX12_feed 30 = .ok (.iload_n 1, 1) := all_at dvX12_feed_0 12 rfl
theorem dX12_feed_31 : decode cX12_feed 31 = .ok (.iconst 1, 1) := all_at dvX12_feed_0 13 rfl
theorem dX12_feed_32 : decode cX12_feed 32 = .ok (.isub, 1) := all_at dvX12_feed_0 14 rfl
theorem dX12_feed_33 : decode cX12_feed 33 = .ok (.istore 4, 2) := all_at dvX12_feed_0 15 rfl
theorem dX12_feed_35 : decode cX12_feed 35 = .ok (.iload 4, 2) := all_at dvX12_feed_0 16 rfl
theorem dX12_feed_37 : decode cX12_feed 37 = .ok (.ifCond .lt 40, 3) := all_at dvX12_feed_0 17 rfl
theorem dX12_feed_40 : decode cX12_feed 40 = .ok (.aload_n 0, 1) := all_at dvX12_feed_0 18 rfl
theorem dX12_feed_41 : decode cX12_feed 41 = .ok (.getfield 83, 3) := all_at dvX12_feed_0 19 rfl
theorem dX12_feed_44 : decode cX12_feed 44 = .ok (.aload_n 0, 1) := all_at dvX12_feed_0 20 rfl
theorem dX12_feed_45 : decode cX12_feed 45 = .ok (.getfield 249, 3) := all_at dvX12_feed_0 21 rfl
theorem dX12_feed_48 : decode cX12_feed 48 = .ok (.lload_n 2, 1) := all_at dvX12_feed_0 22 rfl
theorem dX12_feed_49 : decode cX12_feed 49 = .ok (.bipush 8, 2) := all_at dvX12_feed_0 23 rfl
set_option maxRecDepth 100000 in
theorem dvX12_feed_51 : ([(51, .iload 4, 2), (53, .imul, 1), (54, .lshr, 1), (55, .ldc2_w 252, 3), (58, .land, 1), (59, .l2i, 1), (60, .iastore, 1)] : List (Nat × Instr × Nat)).all (fun q => decide (decode cX12_feed q.1 = .ok (q.2.1, q.2.2))) = true := by decide +kernel
theorem dX12_feed_51 : decode cX12_feed 51 = .ok (.iload 4, 2) := all_at dvX12_feed_51 0 rfl
theorem dX12_feed_53 : decode cX12_feed 53 = .ok (.imul, 1) := all_at dvX12_feed_51 1 rfl
theorem dX12_feed_54 : decode cX12_feed 54 = .ok (.lshr, 1) := all_at dvX12_feed_51 2 rfl
theorem dX12_feed_55 : decode cX12_feed 55 = .ok (.ldc2_w 252, 3) := all_at dvX12_feed_51 3 rfl
theorem dX12_feed_58 : decode cX12_feed 58 = .ok (.land, 1) := all_at dvX12_feed_51 4 rfl
theorem dX12_feed_59 : decode cX12_feed 59 = .ok (.l2i, 1) := all_at dvX12_feed_51 5 rfl
theorem dX12_feed_60 : decode cX12_feed 60 = .ok (.iastore, 1) := all_at dvX12_feed_51 6 rfl
set_option maxRecDepth 100000 in
theorem dvX12_here_0 : ([(0, .aload_n 0, 1), (1, .getfield 254, 3), (4, .aload_n 0, 1), (5, .getfield 249, 3), (8, .if_icmp .ge 30, 3), (11, .aload_n 0, 1), (12, .getfield 83, 3), (15, .aload_n 0, 1), (16, .getfield 254, 3), (19, .iaload, 1), (20, .bipush 32, 2), (22, .if_icmp .ne 16, 3), (25, .aload_n 0, 1), (26, .dup, 1), (27, .getfield 254, 3), (30, .iconst 1, 1), (31, .iadd, 1), (32, .putfield 254, 3), (35, .goto (-35), 3), (38, .aload_n 0, 1), (39, .getfield 254, 3), (42, .aload_n 0, 1), (43, .getfield 249, 3), (46, .if_icmp .ge 15, 3)] : List (Nat × Instr × Nat)).all (fun q => decide (decode cX12_here q.1 = .ok (q.2.1, q.2.2))) = true := by decide +kernel
theorem dX12_here_0 : decode cX12_here 0 = .ok (.aload_n 0, 1) := all_at dvX12_here_0 0 rfl
theorem dX12_here_1 : decode cX12_here 1 = .ok (.getfield 254, 3) := all_at dvX12_here_0 1 rfl
theorem dX12_here_4 : decode cX12_here 4 = .ok (.aload_n 0, 1) := all_at dvX12_here_0 2 rfl
theorem dX12_here_5 : decode cX12_here 5 = .ok (.getfield 249, 3) := all_at dvX12_here_0 3 rfl
theorem dX12_here_8 : decode cX12_here 8 = .ok (.if_icmp .ge 30, 3) := all_at dvX12_here_0 4 rfl
theorem dX12_here_11 : decode cX12_here 11 = .ok (.aload_n 0, 1) := all_at dvX12_here_0 5 rfl
theorem dX12_here_12 : decode cX12_here 12 = .ok (.getfield 83, 3) := all_at dvX12_here_0 6 rfl
theorem dX12_here_15 : decode cX12_here 15 = .ok (.aload_n 0, 1) := all_at dvX12_here_0 7 rfl
theorem dX12_here_16 : decode cX12_here 16 = .ok (.getfield 254, 3) := all_at dvX12_here_0 8 rfl
theorem dX12_here_19 : decode cX12_here 19 = .ok (.iaload, 1) := all_at dvX12_here_0 9 rfl
theorem dX12_here_20 : decode cX12_here 20 = .ok (.bipush 32, 2) := all_at dvX12_here_0 10 rfl
theorem dX12_here_22 : decode cX12_here 22 = .ok (.if_icmp .ne 16, 3) := all_at dvX12_here_0 11 rfl
theorem dX12_here_25 : decode cX12_here 25 = .ok (.aload_n 0, 1) := all_at dvX12_here_0 12 rfl
theorem dX12_here_26 : decode cX12_here 26 = .ok (.dup, 1) := all_at dvX12_here_0 13 rfl
theorem dX12_here_27 : decode cX12_here 27 = .ok (.getfield 254, 3) := all_at dvX12_here_0 14 rfl
theorem dX12_here_30 : decode cX12_here 30 = .ok (.iconst 1, 1) := all_at dvX12_here_0 15 rfl
theorem dX12_here_31 : decode cX12_here 31 = .ok (.iadd, 1) := all_at dvX12_here_0 16 rfl
theorem dX12_here_32 : decode cX12_here 32 = .ok (.putfield 254, 3) := all_at dvX12_here_0 17 rfl
theorem dX12_here_35 : decode cX12_here 35 = .ok (.goto (-35), 3) := all_at dvX12_here_0 18 rfl
theorem dX12_here_38 : decode cX12_here 38 = .ok (.aload_n 0, 1) := all_at dvX12_here_0 19 rfl
theorem dX12_here_39 : decode cX12_here 39 = .ok (.getfield 254, 3) := all_at dvX12_here_0 20 rfl
theorem dX12_here_42 : decode cX12_here 42 = .ok (.aload_n 0, 1) := all_at dvX12_here_0 21 rfl
theorem dX12_here_43 : decode cX12_here 43 = .ok (.getfield 249, 3) := all_at dvX12_here_0 22 rfl
theorem dX12_here_46 : decode cX12_here 46 = .ok (.if_icmp .ge 15, 3) := all_at dvX12_here_0 23 rfl
set_option maxRecDepth 100000 in
theorem dvX12_here_49 : ([(49, .aload_n 0, 1), (50, .getfield 83, 3), (53, .aload_n 0, 1), (54, .getfield 254, 3), (57, .iaload, 1), (58, .goto 4, 3), (61, .iconst (-1), 1), (62, .ireturn, 1)] : List (Nat × Instr × Nat)).all (fun q => decide (decode cX12_here q.1 = .ok (q.2.1, q.2.2))) = true := by decide +kernel
theorem dX12_here_49 : decode cX12_here 49 = .ok (.aload_n 0, 1) := all_at dvX12_here_49 0 rfl
theorem dX12_here_50 : decode cX12_here 50 = .ok (.getfield 83, 3) := all_at dvX12_here_49 1 rfl
theorem dX12_here_53 : decode cX12_here 53 = .ok (.aload_n 0, 1) := all_at dvX12_here_49 2 rfl
theorem dX12_here_54 : decode cX12_here 54 = .ok (.getfield 254, 3) := all_at dvX12_here_49 3 rfl
theorem dX12_here_57 : decode cX12_here 57 = .ok (.iaload, 1) := all_at dvX12_here_49 4 rfl
theorem dX12_here_58 : decode cX12_here 58 = .ok (.goto 4, 3) := all_at dvX12_here_49 5 rfl
theorem dX12_here_61 : decode cX12_here 61 = .ok (.iconst (-1), 1) := all_at dvX12_here_49 6 rfl
theorem dX12_here_62 : decode cX12_here 62 = .ok (.ireturn, 1) := all_at dvX12_here_49 7 rfl
set_option maxRecDepth 100000 in
theorem dvX12_leastOf_0 : ([(0, .iload_n 0, 1), (1, .iconst 1, 1), (2, .if_icmp .eq 8, 3), (5, .iload_n 0, 1), (6, .iconst 3, 1), (7, .if_icmp .ne 7, 3), (10, .iconst 1, 1), (11, .goto 4, 3), (14, .iconst 0, 1), (15, .ireturn, 1)] : List (Nat × Instr × Nat)).all (fun q => decide (decode cX12_leastOf q.1 = .ok (q.2.1, q.2.2))) = true := by decide +kernel
theorem dX12_leastOf_0 : decode cX12_leastOf 0 = .ok (.iload_n 0, 1) := all_at dvX12_leastOf_0 0 rfl
theorem dX12_leastOf_1 : decode cX12_leastOf 1 = .ok (.iconst 1, 1) := all_at dvX12_leastOf_0 1 rfl
theorem dX12_leastOf_2 : decode cX12_leastOf 2 = .ok (.if_icmp .eq 8, 3) := all_at dvX12_leastOf_0 2 rfl
theorem dX12_leastOf_5 : decode cX12_leastOf 5 = .ok (.iload_n 0, 1) := all_at dvX12_leastOf_0 3 rfl
theorem dX12_leastOf_6 : decode cX12_leastOf 6 = .ok (.iconst 3, 1) := all_at dvX12_leastOf_0 4 rfl
theorem dX12_leastOf_7 : decode cX12_leastOf 7 = .ok (.if_icmp .ne 7, 3) := all_at dvX12_leastOf_0 5 rfl
theorem dX12_leastOf_10 : decode cX12_leastOf 10 = .ok (.iconst 1, 1) := all_at dvX12_leastOf_0 6 rfl
theorem dX12_leastOf_11 : decode cX12_leastOf 11 = .ok (.goto 4, 3) := all_at dvX12_leastOf_0 7 rfl
theorem dX12_leastOf_14 : decode cX12_leastOf 14 = .ok (.iconst 0, 1) := all_at dvX12_leastOf_0 8 rfl
theorem dX12_leastOf_15 : decode cX12_leastOf 15 = .ok (.ireturn, 1) := all_at dvX12_leastOf_0 9 rfl
set_option maxRecDepth 100000 in
theorem dvX12_mostOf_0 : ([(0, .iload_n 0, 1), (1, .tableswitch 44 0 3 #[31, 35, 38, 42], 31), (32, .sipush 300, 3), (35, .ireturn, 1), (36, .bipush 9, 2), (38, .ireturn, 1), (39, .sipush 200, 3), (42, .ireturn, 1), (43, .iconst 2, 1), (44, .ireturn, 1), (45, .sipush 999, 3), (48, .ireturn, 1)] : List (Nat × Instr × Nat)).all (fun q => decide (decode cX12_mostOf q.1 = .ok (q.2.1, q.2.2))) = true := by decide +kernel
theorem dX12_mostOf_0 : decode cX12_mostOf 0 = .ok (.iload_n 0, 1) := all_at dvX12_mostOf_0 0 rfl
theorem dX12_mostOf_1 : decode cX12_mostOf 1 = .ok (.tableswitch 44 0 3 #[31, 35, 38, 42], 31) := all_at dvX12_mostOf_0 1 rfl
theorem dX12_mostOf_32 : decode cX12_mostOf 32 = .ok (.sipush 300, 3) := all_at dvX12_mostOf_0 2 rfl
theorem dX12_mostOf_35 : decode cX12_mostOf 35 = .ok (.ireturn, 1) := all_at dvX12_mostOf_0 3 rfl
theorem dX12_mostOf_36 : decode cX12_mostOf 36 = .ok (.bipush 9, 2) := all_at dvX12_mostOf_0 4 rfl
theorem dX12_mostOf_38 : decode cX12_mostOf 38 = .ok (.ireturn, 1) := all_at dvX12_mostOf_0 5 rfl
theorem dX12_mostOf_39 : decode cX12_mostOf 39 = .ok (.sipush 200, 3) := all_at dvX12_mostOf_0 6 rfl
theorem dX12_mostOf_42 : decode cX12_mostOf 42 = .ok (.ireturn, 1) := all_at dvX12_mostOf_0 7 rfl
theorem dX12_mostOf_43 : decode cX12_mostOf 43 = .ok (.iconst 2, 1) := all_at dvX12_mostOf_0 8 rfl
theorem dX12_mostOf_44 : decode cX12_mostOf 44 = .ok (.ireturn, 1) := all_at dvX12_mostOf_0 9 rfl
theorem dX12_mostOf_45 : decode cX12_mostOf 45 = .ok (.sipush 999, 3) := all_at dvX12_mostOf_0 10 rfl
theorem dX12_mostOf_48 : decode cX12_mostOf 48 = .ok (.ireturn, 1) := all_at dvX12_mostOf_0 11 rfl
set_option maxRecDepth 100000 in
theorem dvX12_takeWord_0 : ([(0, .aload_n 0, 1), (1, .invokevirtual 260, 3), (4, .istore_n 1, 1), (5, .aload_n 0, 1), (6, .aload_n 0, 1), (7, .getfield 254, 3), (10, .putfield 264, 3), (13, .aload_n 0, 1), (14, .getfield 254, 3), (17, .aload_n 0, 1), (18, .getfield 249, 3), (21, .if_icmp .ge 38, 3), (59, .aload_n 0, 1), (60, .aload_n 0, 1), (61, .getfield 254, 3), (64, .aload_n 0, 1), (65, .getfield 264, 3), (68, .isub, 1), (69, .putfield 271, 3)] : List (Nat × Instr × Nat)).all (fun q => decide (decode cX12_takeWord q.1 = .ok (q.2.1, q.2.2))) = true := by decide +kernel
theorem dX12_takeWord_0 : decode cX12_takeWord 0 = .ok (.aload_n 0, 1) := all_at dvX12_takeWord_0 0 rfl
theorem dX12_takeWord_1 : decode cX12_takeWord 1 = .ok (.invokevirtual 260, 3) := all_at dvX12_takeWord_0 1 rfl
theorem dX12_takeWord_4 : decode cX12_takeWord 4 = .ok (.istore_n 1, 1) := all_at dvX12_takeWord_0 2 rfl
theorem dX12_takeWord_5 : decode cX12_takeWord 5 = .ok (.aload_n 0, 1) := all_at dvX12_takeWord_0 3 rfl
theorem dX12_takeWord_6 : decode cX12_takeWord 6 = .ok (.aload_n 0, 1) := all_at dvX12_takeWord_0 4 rfl
theorem dX12_takeWord_7 : decode cX12_takeWord 7 = .ok (.getfield 254, 3) := all_at dvX12_takeWord_0 5 rfl
theorem dX12_takeWord_10 : decode cX12_takeWord 10 = .ok (.putfield 264, 3) := all_at dvX12_takeWord_0 6 rfl
theorem dX12_takeWord_13 : decode cX12_takeWord 13 = .ok (.aload_n 0, 1) := all_at dvX12_takeWord_0 7 rfl
theorem dX12_takeWord_14 : decode cX12_takeWord 14 = .ok (.getfield 254, 3) := all_at dvX12_takeWord_0 8 rfl
theorem dX12_takeWord_17 : decode cX12_takeWord 17 = .ok (.aload_n 0, 1) := all_at dvX12_takeWord_0 9 rfl
theorem dX12_takeWord_18 : decode cX12_takeWord 18 = .ok (.getfield 249, 3) := all_at dvX12_takeWord_0 10 rfl
theorem dX12_takeWord_21 : decode cX12_takeWord 21 = .ok (.if_icmp .ge 38, 3) := all_at dvX12_takeWord_0 11 rfl
theorem dX12_takeWord_59 : decode cX12_takeWord 59 = .ok (.aload_n 0, 1) := all_at dvX12_takeWord_0 12 rfl
theorem dX12_takeWord_60 : decode cX12_takeWord 60 = .ok (.aload_n 0, 1) := all_at dvX12_takeWord_0 13 rfl
theorem dX12_takeWord_61 : decode cX12_takeWord 61 = .ok (.getfield 254, 3) := all_at dvX12_takeWord_0 14 rfl
theorem dX12_takeWord_64 : decode cX12_takeWord 64 = .ok (.aload_n 0, 1) := all_at dvX12_takeWord_0 15 rfl
theorem dX12_takeWord_65 : decode cX12_takeWord 65 = .ok (.getfield 264, 3) := all_at dvX12_takeWord_0 16 rfl
theorem dX12_takeWord_68 : decode cX12_takeWord 68 = .ok (.isub, 1) := all_at dvX12_takeWord_0 17 rfl
theorem dX12_takeWord_69 : decode cX12_takeWord 69 = .ok (.putfield 271, 3) := all_at dvX12_takeWord_0 18 rfl
set_option maxRecDepth 100000 in
theorem dvX12_want_0 : ([(0, .iload_n 1, 1), (1, .ifCond .ne 20, 3), (4, .aload_n 0, 1), (5, .getfield 257, 3), (8, .ifCond .ne 13, 3), (11, .aload_n 0, 1), (12, .iload_n 2, 1), (13, .putfield 257, 3), (16, .aload_n 0, 1), (17, .iload_n 3, 1), (18, .putfield 86, 3), (21, .aload_n 0, 1), (22, .getfield 257, 3), (25, .ifCond .ne 7, 3), (28, .iconst 1, 1), (29, .goto 4, 3), (32, .iconst 0, 1), (33, .ireturn, 1)] : List (Nat × Instr × Nat)).all (fun q => decide (decode cX12_want q.1 = .ok (q.2.1, q.2.2))) = true := by decide +kernel
theorem dX12_want_0 : decode cX12_want 0 = .ok (.iload_n 1, 1) := all_at dvX12_want_0 0 rfl
theorem dX12_want_1 : decode cX12_want 1 = .ok (.ifCond .ne 20, 3) := all_at dvX12_want_0 1 rfl
theorem dX12_want_4 : decode cX12_want 4 = .ok (.aload_n 0, 1) := all_at dvX12_want_0 2 rfl
theorem dX12_want_5 : decode cX12_want 5 = .ok (.getfield 257, 3) := all_at dvX12_want_0 3 rfl
theorem dX12_want_8 : decode cX12_want 8 = .ok (.ifCond .ne 13, 3) := all_at dvX12_want_0 4 rfl
theorem dX12_want_11 : decode cX12_want 11 = .ok (.aload_n 0, 1) := all_at dvX12_want_0 5 rfl
theorem dX12_want_12 : decode cX12_want 12 = .ok (.iload_n 2, 1) := all_at dvX12_want_0 6 rfl
theorem dX12_want_13 : decode cX12_want 13 = .ok (.putfield 257, 3) := all_at dvX12_want_0 7 rfl
theorem dX12_want_16 : decode cX12_want 16 = .ok (.aload_n 0, 1) := all_at dvX12_want_0 8 rfl
theorem dX12_want_17 : decode cX12_want 17 = .ok (.iload_n 3, 1) := all_at dvX12_want_0 9 rfl
theorem dX12_want_18 : decode cX12_want 18 = .ok (.putfield 86, 3) := all_at dvX12_want_0 10 rfl
theorem dX12_want_21 : decode cX12_want 21 = .ok (.aload_n 0, 1) := all_at dvX12_want_0 11 rfl
theorem dX12_want_22 : decode cX12_want 22 = .ok (.getfield 257, 3) := all_at dvX12_want_0 12 rfl
theorem dX12_want_25 : decode cX12_want 25 = .ok (.ifCond .ne 7, 3) := all_at dvX12_want_0 13 rfl
theorem dX12_want_28 : decode cX12_want 28 = .ok (.iconst 1, 1) := all_at dvX12_want_0 14 rfl
theorem dX12_want_29 : decode cX12_want 29 = .ok (.goto 4, 3) := all_at dvX12_want_0 15 rfl
theorem dX12_want_32 : decode cX12_want 32 = .ok (.iconst 0, 1) := all_at dvX12_want_0 16 rfl
theorem dX12_want_33 : decode cX12_want 33 = .ok (.ireturn, 1) := all_at dvX12_want_0 17 rfl
theorem sw_0_3 (x : Int32) : (x.toInt < 0 ∨ 3 < x.toInt) ∨ x = 0 ∨ x = 1 ∨ x = 2 ∨ x = 3 := by
  by_cases h : x.toInt < 0 ∨ 3 < x.toInt
  · exact Or.inl h
  · right
    have h2 : x.toInt = 0 ∨ x.toInt = 1 ∨ x.toInt = 2 ∨ x.toInt = 3 := by omega
    rcases h2 with h2 | h2 | h2 | h2
    · exact Or.inl (z_of (by decide) h2)
    · exact Or.inr (Or.inl (z_of (by decide) h2))
    · exact Or.inr (Or.inr (Or.inl (z_of (by decide) h2)))
    · exact Or.inr (Or.inr (Or.inr (z_of (by decide) h2)))
theorem sw_0_4 (x : Int32) : (x.toInt < 0 ∨ 4 < x.toInt) ∨ x = 0 ∨ x = 1 ∨ x = 2 ∨ x = 3 ∨ x = 4 := by
  by_cases h : x.toInt < 0 ∨ 4 < x.toInt
  · exact Or.inl h
  · right
    have h2 : x.toInt = 0 ∨ x.toInt = 1 ∨ x.toInt = 2 ∨ x.toInt = 3 ∨ x.toInt = 4 := by omega
    rcases h2 with h2 | h2 | h2 | h2 | h2
    · exact Or.inl (z_of (by decide) h2)
    · exact Or.inr (Or.inl (z_of (by decide) h2))
    · exact Or.inr (Or.inr (Or.inl (z_of (by decide) h2)))
    · exact Or.inr (Or.inr (Or.inr (Or.inl (z_of (by decide) h2))))
    · exact Or.inr (Or.inr (Or.inr (Or.inr (z_of (by decide) h2))))
set_option maxHeartbeats 4000000 in
set_option maxRecDepth 100000 in
/-- X12_atFirst -/
theorem c_X12_atFirst (l : Launch) (dC : Nat → ClassId) (dI : Nat → Nat → Nat) (a : Int32) : Met l yX12_atFirst (wc yX12_atFirst cX12_atFirst 1 (some .int)) ({ frames := 0, cells := 0, slots := 0, locals := 0 } : Room) (pR (dC, dI) classes [] [] [.int a]) (vp_Si (fun r => 0 ≤ r.toInt ∧ r.toInt ≤ 110)) 0 0 (fun _ => False) := by
  refine Met.ofW (cc := cX12_atFirst) (maxL := 1) (ret := (some .int)) (by decide) rfl ?_
  intro p e s m args below meth c s₁ B hml hv
  obtain ⟨rfl, hP, hK⟩ := hv
  have hx := B.exec
  have hb := B.bytes
  have hr := B.returns
  have ht := tb_tl (atoms_spec (ws := wc yX12_atFirst cX12_atFirst 1 (some .int)) B.pre)
  have hown : s.vm.findClass RX12 = some m.cls := findClass_of_methodNamed B.named
  have hlocks := B.notSynchronized
  have hl := lv_entry [.int a] (n := 1) (Nat.le_of_ble_eq_true rfl)
  rw [lg_entry_eq]
  generalize (lg_sl [.int a] ++ List.replicate (1 - (lg_sl [.int a]).length) Slot.unset).toArray = ls at hl ⊢
  have hl : lv_has ls 1 [(0, .int a)] := hl
  refine lv_iload_n hx hb dX12_atFirst_0 rfl (lv_at hl 0 rfl) ?_
  rcases sw_0_4 a with h1 | rfl | rfl | rfl | rfl | rfl
  · refine lv_tableOut (tgt := 48) hx hb dX12_atFirst_1 h1 (by decide) ?_
    refine lv_iconst (v := 0) hx hb dX12_atFirst_48 (by decide) ?_
    exact W.iret (v := 0) hx hb hr (fun t ht9 hW => ⟨0, rfl, ⟨by decide, by decide⟩, ht9⟩) (fun q hq => by cases hq) dX12_atFirst_49
  · refine lv_tableIn (tgt := 36) (off := 35) hx hb dX12_atFirst_1 (by decide) (by decide) rfl (by decide) ?_
    refine lv_bipush (v := 110) hx hb dX12_atFirst_36 (by decide) ?_
    exact W.iret (v := 110) hx hb hr (fun t ht9 hW => ⟨110, rfl, ⟨by decide, by decide⟩, ht9⟩) (fun q hq => by cases hq) dX12_atFirst_38
  · refine lv_tableIn (tgt := 39) (off := 38) hx hb dX12_atFirst_1 (by decide) (by decide) rfl (by decide) ?_
    refine lv_iconst (v := 3) hx hb dX12_atFirst_39 (by decide) ?_
    exact W.iret (v := 3) hx hb hr (fun t ht9 hW => ⟨3, rfl, ⟨by decide, by decide⟩, ht9⟩) (fun q hq => by cases hq) dX12_atFirst_40
  · refine lv_tableIn (tgt := 41) (off := 40) hx hb dX12_atFirst_1 (by decide) (by decide) rfl (by decide) ?_
    refine lv_iconst (v := 5) hx hb dX12_atFirst_41 (by decide) ?_
    exact W.iret (v := 5) hx hb hr (fun t ht9 hW => ⟨5, rfl, ⟨by decide, by decide⟩, ht9⟩) (fun q hq => by cases hq) dX12_atFirst_42
  · refine lv_tableIn (tgt := 43) (off := 42) hx hb dX12_atFirst_1 (by decide) (by decide) rfl (by decide) ?_
    refine lv_iconst (v := 2) hx hb dX12_atFirst_43 (by decide) ?_
    exact W.iret (v := 2) hx hb hr (fun t ht9 hW => ⟨2, rfl, ⟨by decide, by decide⟩, ht9⟩) (fun q hq => by cases hq) dX12_atFirst_44
  · refine lv_tableIn (tgt := 45) (off := 44) hx hb dX12_atFirst_1 (by decide) (by decide) rfl (by decide) ?_
    refine lv_bipush (v := 10) hx hb dX12_atFirst_45 (by decide) ?_
    exact W.iret (v := 10) hx hb hr (fun t ht9 hW => ⟨10, rfl, ⟨by decide, by decide⟩, ht9⟩) (fun q hq => by cases hq) dX12_atFirst_47
/-! ===== m4 ===== -/
set_option maxRecDepth 100000 in
theorem m_59 : Cond.selects RX12 yX12_only yX12_only ∈ tb := tb_in 59 (by decide +kernel) rfl
set_option maxRecDepth 100000 in
theorem m_61 : Cond.selects RX12 yX12_half yX12_half ∈ tb := tb_in 61 (by decide +kernel) rfl
theorem m_1162 : Cond.fieldLink RX12 303 "SilkHouseModel" "rules" "I" ∈ tb := mb_5_5 _ (List.mem_of_getElem? (i := 3) rfl)
theorem m_1164 : Cond.fieldLink RX12 62 "SilkHouseModel" "clauses" "[I" ∈ tb := mb_5_5 _ (List.mem_of_getElem? (i := 5) rfl)
theorem m_1165 : Cond.fieldLink RX12 65 "SilkHouseModel" "kindOf" "[I" ∈ tb := mb_5_5 _ (List.mem_of_getElem? (i := 6) rfl)
theorem m_1169 : Cond.fieldLink RX12 77 "SilkHouseModel" "wordSize" "[I" ∈ tb := mb_5_5 _ (List.mem_of_getElem? (i := 10) rfl)
theorem m_1170 : Cond.fieldLink RX12 80 "SilkHouseModel" "word" "[I" ∈ tb := mb_5_5 _ (List.mem_of_getElem? (i := 11) rfl)
theorem m_1181 : Cond.fieldLink RX12 96 "SilkHouseModel" "dryOf" "[J" ∈ tb := mb_5_5 _ (List.mem_of_getElem? (i := 22) rfl)
theorem m_1182 : Cond.fieldLink RX12 100 "SilkHouseModel" "rawOf" "[J" ∈ tb := mb_5_5 _ (List.mem_of_getElem? (i := 23) rfl)
theorem m_1183 : Cond.fieldLink RX12 328 "SilkHouseModel" "resultUp" "J" ∈ tb := mb_5_6 _ (List.mem_of_getElem? (i := 0) rfl)
theorem m_1184 : Cond.fieldLink RX12 331 "SilkHouseModel" "resultDown" "J" ∈ tb := mb_5_6 _ (List.mem_of_getElem? (i := 1) rfl)
theorem m_1536 : Cond.methodLink RX12 337 yX12_only ∈ tb := mb_7_0 _ (List.mem_of_getElem? (i := 18) rfl)
theorem m_1538 : Cond.instanceMethod yX12_only ∈ tb := mb_7_0 _ (List.mem_of_getElem? (i := 19) rfl)
theorem m_1539 : Cond.code yX12_only cX12_only 2 none ∈ tb := mb_7_0 _ (List.mem_of_getElem? (i := 20) rfl)
theorem m_1548 : Cond.methodLink RX12 334 yX12_half ∈ tb := mb_7_1 _ (List.mem_of_getElem? (i := 4) rfl)
theorem m_1550 : Cond.instanceMethod yX12_half ∈ tb := mb_7_1 _ (List.mem_of_getElem? (i := 5) rfl)
theorem m_1551 : Cond.code yX12_half cX12_half 3 none ∈ tb := mb_7_1 _ (List.mem_of_getElem? (i := 6) rfl)
theorem hd_X12_half_v : yX12_half.cls = RX12 ∧ yX12_half.cls ≠ "java/lang/invoke/MethodHandle" ∧ yX12_half.cls ≠ "java/lang/invoke/VarHandle" ∧ (parseMethodDescriptor yX12_half.desc).map (fun d => d.parameters.length) = some 2 := by decide +kernel
theorem hd_X12_only_v : yX12_only.cls = RX12 ∧ yX12_only.cls ≠ "java/lang/invoke/MethodHandle" ∧ yX12_only.cls ≠ "java/lang/invoke/VarHandle" ∧ (parseMethodDescriptor yX12_only.desc).map (fun d => d.parameters.length) = some 1 := by decide +kernel
set_option maxRecDepth 100000 in
theorem dvX12_half_0 : ([(0, .aload_n 0, 1), (1, .aload_n 0, 1), (2, .getfield 96, 3), (5, .iload_n 1, 1), (6, .laload, 1), (7, .aload_n 0, 1), (8, .getfield 100, 3), (11, .iload_n 2, 1), (12, .laload, 1), (13, .lmul, 1), (14, .aload_n 0, 1), (15, .getfield 96, 3), (18, .iload_n 2, 1), (19, .laload, 1), (20, .aload_n 0, 1), (21, .getfield 100, 3), (24, .iload_n 1, 1), (25, .laload, 1), (26, .lmul, 1), (27, .ladd, 1), (28, .putfield 328, 3), (31, .aload_n 0, 1), (32, .ldc2_w 188, 3), (35, .aload_n 0, 1)] : List (Nat × Instr × Nat)).all (fun q => decide (decode cX12_half q.1 = .ok (q.2.1, q.2.2))) = true := by decide +kernel
theorem dX12_half_0 : decode cX12_half 0 = .ok (.aload_n 0, 1) := all_at dvX12_half_0 0 rfl
theorem dX12_half_1 : decode cX12_half 1 = .ok (.aload_n 0, 1) := all_at dvX12_half_0 1 rfl
theorem dX12_half_2 : decode cX12_half 2 = .ok (.getfield 96, 3) := all_at dvX12_half_0 2 rfl
theorem dX12_half_5 : decode cX12_half 5 = .ok (.iload_n 1, 1) := all_at dvX12_half_0 3 rfl
theorem dX12_half_6 : decode cX12_half 6 = .ok (.laload, 1) := all_at dvX12_half_0 4 rfl
theorem dX12_half_7 : decode cX12_half 7 = .ok (.aload_n 0, 1) := all_at dvX12_half_0 5 rfl
theorem dX12_half_8 : decode cX12_half 8 = .ok (.getfield 100, 3) := all_at dvX12_half_0 6 rfl
theorem dX12_half_11 : decode cX12_half 11 = .ok (.iload_n 2, 1) := all_at dvX12_half_0 7 rfl
theorem dX12_half_12 : decode cX12_half 12 = .ok (.laload, 1) := all_at dvX12_half_0 8 rfl
theorem dX12_half_13 : decode cX12_half 13 = .ok (.lmul, 1) := all_at dvX12_half_0 9 rfl
theorem dX12_half_14 : decode cX12_half 14 = .ok (.aload_n 0, 1) := all_at dvX12_half_0 10 rfl
theorem dX12_half_15 : decode cX12_half 15 = .ok (.getfield 96, 3) := all_at dvX12_half_0 11 rfl
theorem dX12_half_18 : decode cX12_half 18 = .ok (.iload_n 2, 1) := all_at dvX12_half_0 12 rfl
theorem dX12_half_19 : decode cX12_half 19 = .ok (.laload, 1) := all_at dvX12_half_0 13 rfl
theorem dX12_half_20 : decode cX12_half 20 = .ok (.aload_n 0, 1) := all_at dvX12_half_0 14 rfl
theorem dX12_half_21 : decode cX12_half 21 = .ok (.getfield 100, 3) := all_at dvX12_half_0 15 rfl
theorem dX12_half_24 : decode cX12_half 24 = .ok (.iload_n 1, 1) := all_at dvX12_half_0 16 rfl
theorem dX12_half_25 : decode cX12_half 25 = .ok (.laload, 1) := all_at dvX12_half_0 17 rfl
theorem dX12_half_26 : decode cX12_half 26 = .ok (.lmul, 1) := all_at dvX12_half_0 18 rfl
theorem dX12_half_27 : decode cX12_half 27 = .ok (.ladd, 1) := all_at dvX12_half_0 19 rfl
theorem dX12_half_28 : decode cX12_half 28 = .ok (.putfield 328, 3) := all_at dvX12_half_0 20 rfl
theorem dX12_half_31 : decode cX12_half 31 = .ok (.aload_n 0, 1) := all_at dvX12_half_0 21 rfl
theorem dX12_half_32 : decode cX12_half 32 = .ok (.ldc2_w 188, 3) := all_at dvX12_half_0 22 rfl
theorem dX12_half_35 : decode cX12_half 35 = .ok (.aload_n 0, 1) := all_at dvX12_half_0 23 rfl
set_option maxRecDepth 100000 in
theorem dvX12_half_36 : ([(36, .getfield 100, 3), (39, .iload_n 1, 1), (40, .laload, 1), (41, .lmul, 1), (42, .aload_n 0, 1), (43, .getfield 100, 3), (46, .iload_n 2, 1), (47, .laload, 1), (48, .lmul, 1), (49, .putfield 331, 3), (52, .return_, 1)] : List (Nat × Instr × Nat)).all (fun q => decide (decode cX12_half q.1 = .ok (q.2.1, q.2.2))) = true := by decide +kernel
theorem dX12_half_36 : decode cX12_half 36 = .ok (.getfield 100, 3) := all_at dvX12_half_36 0 rfl
theorem dX12_half_39 : decode cX12_half 39 = .ok (.iload_n 1, 1) := all_at dvX12_half_36 1 rfl
theorem dX12_half_40 : decode cX12_half 40 = .ok (.laload, 1) := all_at dvX12_half_36 2 rfl
theorem dX12_half_41 : decode cX12_half 41 = .ok (.lmul, 1) := all_at dvX12_half_36 3 rfl
theorem dX12_half_42 : decode cX12_half 42 = .ok (.aload_n 0, 1) := all_at dvX12_half_36 4 rfl
theorem dX12_half_43 : decode cX12_half 43 = .ok (.getfield 100, 3) := all_at dvX12_half_36 5 rfl
theorem dX12_half_46 : decode cX12_half 46 = .ok (.iload_n 2, 1) := all_at dvX12_half_36 6 rfl
theorem dX12_half_47 : decode cX12_half 47 = .ok (.laload, 1) := all_at dvX12_half_36 7 rfl
theorem dX12_half_48 : decode cX12_half 48 = .ok (.lmul, 1) := all_at dvX12_half_36 8 rfl
theorem dX12_half_49 : decode cX12_half 49 = .ok (.putfield 331, 3) := all_at dvX12_half_36 9 rfl
theorem dX12_half_52 : decode cX12_half 52 = .ok (.return_, 1) := all_at dvX12_half_36 10 rfl
set_option maxRecDepth 100000 in
theorem dvX12_held_0 : ([(0, .iload_n 0, 1), (1, .bipush 40, 2), (3, .if_icmp .le 8, 3), (6, .bipush 40, 2), (8, .goto 15, 3), (11, .iload_n 0, 1), (12, .bipush (-40), 2), (14, .if_icmp .ge 8, 3), (17, .bipush (-40), 2), (19, .goto 4, 3), (22, .iload_n 0, 1), (23, .ireturn, 1)] : List (Nat × Instr × Nat)).all (fun q => decide (decode cX12_held q.1 = .ok (q.2.1, q.2.2))) = true := by decide +kernel
theorem dX12_held_0 : decode cX12_held 0 = .ok (.iload_n 0, 1) := all_at dvX12_held_0 0 rfl
theorem dX12_held_1 : decode cX12_held 1 = .ok (.bipush 40, 2) := all_at dvX12_held_0 1 rfl
theorem dX12_held_3 : decode cX12_held 3 = .ok (.if_icmp .le 8, 3) := all_at dvX12_held_0 2 rfl
theorem dX12_held_6 : decode cX12_held 6 = .ok (.bipush 40, 2) := all_at dvX12_held_0 3 rfl
theorem dX12_held_8 : decode cX12_held 8 = .ok (.goto 15, 3) := all_at dvX12_held_0 4 rfl
theorem dX12_held_11 : decode cX12_held 11 = .ok (.iload_n 0, 1) := all_at dvX12_held_0 5 rfl
theorem dX12_held_12 : decode cX12_held 12 = .ok (.bipush (-40), 2) := all_at dvX12_held_0 6 rfl
theorem dX12_held_14 : decode cX12_held 14 = .ok (.if_icmp .ge 8, 3) := all_at dvX12_held_0 7 rfl
theorem dX12_held_17 : decode cX12_held 17 = .ok (.bipush (-40), 2) := all_at dvX12_held_0 8 rfl
theorem dX12_held_19 : decode cX12_held 19 = .ok (.goto 4, 3) := all_at dvX12_held_0 9 rfl
theorem dX12_held_22 : decode cX12_held 22 = .ok (.iload_n 0, 1) := all_at dvX12_held_0 10 rfl
theorem dX12_held_23 : decode cX12_held 23 = .ok (.ireturn, 1) := all_at dvX12_held_0 11 rfl
set_option maxRecDepth 100000 in
theorem dvX12_isLess_0 : ([(0, .aload_n 0, 1), (1, .getfield 96, 3), (4, .iload_n 1, 1), (5, .laload, 1), (6, .aload_n 0, 1), (7, .getfield 100, 3), (10, .iload_n 2, 1), (11, .laload, 1), (12, .lmul, 1), (13, .aload_n 0, 1), (14, .getfield 96, 3), (17, .iload_n 2, 1), (18, .laload, 1), (19, .aload_n 0, 1), (20, .getfield 100, 3), (23, .iload_n 1, 1), (24, .laload, 1), (25, .lmul, 1), (26, .lcmp, 1), (27, .ifCond .ge 7, 3), (30, .iconst 1, 1), (31, .goto 4, 3), (34, .iconst 0, 1), (35, .ireturn, 1)] : List (Nat × Instr × Nat)).all (fun q => decide (decode cX12_isLess q.1 = .ok (q.2.1, q.2.2))) = true := by decide +kernel
theorem dX12_isLess_0 : decode cX12_isLess 0 = .ok (.aload_n 0, 1) := all_at dvX12_isLess_0 0 rfl
theorem dX12_isLess_1 : decode cX12_isLess 1 = .ok (.getfield 96, 3) := all_at dvX12_isLess_0 1 rfl
theorem dX12_isLess_4 : decode cX12_isLess 4 = .ok (.iload_n 1, 1) := all_at dvX12_isLess_0 2 rfl
theorem dX12_isLess_5 : decode cX12_isLess 5 = .ok (.laload, 1) := all_at dvX12_isLess_0 3 rfl
theorem dX12_isLess_6 : decode cX12_isLess 6 = .ok (.aload_n 0, 1) := all_at dvX12_isLess_0 4 rfl
theorem dX12_isLess_7 : decode cX12_isLess 7 = .ok (.getfield 100, 3) := all_at dvX12_isLess_0 5 rfl
theorem dX12_isLess_10 : decode cX12_isLess 10 = .ok (.iload_n 2, 1) := all_at dvX12_isLess_0 6 rfl
theorem dX12_isLess_11 : decode cX12_isLess 11 = .ok (.laload, 1) := all_at dvX12_isLess_0 7 rfl
theorem dX12_isLess_12 : decode cX12_isLess 12 = .ok (.lmul, 1) := all_at dvX12_isLess_0 8 rfl
theorem dX12_isLess_13 : decode cX12_isLess 13 = .ok (.aload_n 0, 1) := all_at dvX12_isLess_0 9 rfl
theorem dX12_isLess_14 : decode cX12_isLess 14 = .ok (.getfield 96, 3) := all_at dvX12_isLess_0 10 rfl
theorem dX12_isLess_17 : decode cX12_isLess 17 = .ok (.iload_n 2, 1) := all_at dvX12_isLess_0 11 rfl
theorem dX12_isLess_18 : decode cX12_isLess 18 = .ok (.laload, 1) := all_at dvX12_isLess_0 12 rfl
theorem dX12_isLess_19 : decode cX12_isLess 19 = .ok (.aload_n 0, 1) := all_at dvX12_isLess_0 13 rfl
theorem dX12_isLess_20 : decode cX12_isLess 20 = .ok (.getfield 100, 3) := all_at dvX12_isLess_0 14 rfl
theorem dX12_isLess_23 : decode cX12_isLess 23 = .ok (.iload_n 1, 1) := all_at dvX12_isLess_0 15 rfl
theorem dX12_isLess_24 : decode cX12_isLess 24 = .ok (.laload, 1) := all_at dvX12_isLess_0 16 rfl
theorem dX12_isLess_25 : decode cX12_isLess 25 = .ok (.lmul, 1) := all_at dvX12_isLess_0 17 rfl
theorem dX12_isLess_26 : decode cX12_isLess 26 = .ok (.lcmp, 1) := all_at dvX12_isLess_0 18 rfl
theorem dX12_isLess_27 : decode cX12_isLess 27 = .ok (.ifCond .ge 7, 3) := all_at dvX12_isLess_0 19 rfl
theorem dX12_isLess_30 : decode cX12_isLess 30 = .ok (.iconst 1, 1) := all_at dvX12_isLess_0 20 rfl
theorem dX12_isLess_31 : decode cX12_isLess 31 = .ok (.goto 4, 3) := all_at dvX12_isLess_0 21 rfl
theorem dX12_isLess_34 : decode cX12_isLess 34 = .ok (.iconst 0, 1) := all_at dvX12_isLess_0 22 rfl
theorem dX12_isLess_35 : decode cX12_isLess 35 = .ok (.ireturn, 1) := all_at dvX12_isLess_0 23 rfl
set_option maxRecDepth 100000 in
theorem dvX12_letter_0 : ([(0, .iload_n 1, 1), (1, .ifCond .lt 30, 3), (4, .iload_n 1, 1), (5, .bipush 100, 2), (7, .idiv, 1), (8, .aload_n 0, 1), (9, .getfield 303, 3), (12, .if_icmp .ge 19, 3), (15, .iload_n 1, 1), (16, .bipush 100, 2), (18, .irem, 1), (19, .aload_n 0, 1), (20, .getfield 62, 3), (23, .iload_n 1, 1), (24, .bipush 100, 2), (26, .idiv, 1), (27, .iaload, 1), (28, .if_icmp .lt 6, 3), (31, .ldc 187, 2), (33, .ireturn, 1), (34, .bipush 12, 2), (36, .iload_n 1, 1), (37, .bipush 100, 2), (39, .idiv, 1)] : List (Nat × Instr × Nat)).all (fun q => decide (decode cX12_letter q.1 = .ok (q.2.1, q.2.2))) = true := by decide +kernel
theorem dX12_letter_0 : decode cX12_letter 0 = .ok (.iload_n 1, 1) := all_at dvX12_letter_0 0 rfl
theorem dX12_letter_1 : decode cX12_letter 1 = .ok (.ifCond .lt 30, 3) := all_at dvX12_letter_0 1 rfl
theorem dX12_letter_4 : decode cX12_letter 4 = .ok (.iload_n 1, 1) := all_at dvX12_letter_0 2 rfl
theorem dX12_letter_5 : decode cX12_letter 5 = .ok (.bipush 100, 2) := all_at dvX12_letter_0 3 rfl
theorem dX12_letter_7 : decode cX12_letter 7 = .ok (.idiv, 1) := all_at dvX12_letter_0 4 rfl
theorem dX12_letter_8 : decode cX12_letter 8 = .ok (.aload_n 0, 1) := all_at dvX12_letter_0 5 rfl
theorem dX12_letter_9 : decode cX12_letter 9 = .ok (.getfield 303, 3) := all_at dvX12_letter_0 6 rfl
theorem dX12_letter_12 : decode cX12_letter 12 = .ok (.if_icmp .ge 19, 3) := all_at dvX12_letter_0 7 rfl
theorem dX12_letter_15 : decode cX12_letter 15 = .ok (.iload_n 1, 1) := all_at dvX12_letter_0 8 rfl
theorem dX12_letter_16 : decode cX12_letter 16 = .ok (.bipush 100, 2) := all_at dvX12_letter_0 9 rfl
theorem dX12_letter_18 : decode cX12_letter 18 = .ok (.irem, 1) := all_at dvX12_letter_0 10 rfl
theorem dX12_letter_19 : decode cX12_letter 19 = .ok (.aload_n 0, 1) := all_at dvX12_letter_0 11 rfl
theorem dX12_letter_20 : decode cX12_letter 20 = .ok (.getfield 62, 3) := all_at dvX12_letter_0 12 rfl
theorem dX12_letter_23 : decode cX12_letter 23 = .ok (.iload_n 1, 1) := all_at dvX12_letter_0 13 rfl
theorem dX12_letter_24 : decode cX12_letter 24 = .ok (.bipush 100, 2) := all_at dvX12_letter_0 14 rfl
theorem dX12_letter_26 : decode cX12_letter 26 = .ok (.idiv, 1) := all_at dvX12_letter_0 15 rfl
theorem dX12_letter_27 : decode cX12_letter 27 = .ok (.iaload, 1) := all_at dvX12_letter_0 16 rfl
theorem dX12_letter_28 : decode cX12_letter 28 = .ok (.if_icmp .lt 6, 3) := all_at dvX12_letter_0 17 rfl
theorem dX12_letter_31 : decode cX12_letter 31 = .ok (.ldc 187, 2) := all_at dvX12_letter_0 18 rfl
theorem dX12_letter_33 : decode cX12_letter 33 = .ok (.ireturn, 1) := all_at dvX12_letter_0 19 rfl
theorem dX12_letter_34 : decode cX12_letter 34 = .ok (.bipush 12, 2) := all_at dvX12_letter_0 20 rfl
theorem dX12_letter_36 : decode cX12_letter 36 = .ok (.iload_n 1, 1) := all_at dvX12_letter_0 21 rfl
theorem dX12_letter_37 : decode cX12_letter 37 = .ok (.bipush 100, 2) := all_at dvX12_letter_0 22 rfl
theorem dX12_letter_39 : decode cX12_letter 39 = .ok (.idiv, 1) := all_at dvX12_letter_0 23 rfl
set_option maxRecDepth 100000 in
theorem dvX12_letter_40 : ([(40, .imul, 1), (41, .iload_n 1, 1), (42, .bipush 100, 2), (44, .irem, 1), (45, .iadd, 1), (46, .istore_n 3, 1), (47, .aload_n 0, 1), (48, .getfield 65, 3), (51, .iload_n 3, 1), (52, .iaload, 1), (53, .iconst 2, 1), (54, .if_icmp .ne 35, 3), (57, .iload_n 2, 1), (58, .i2l, 1), (59, .lconst 0, 1), (60, .aload_n 0, 1), (61, .getfield 77, 3), (64, .iload_n 3, 1), (65, .iaload, 1), (66, .iconst 1, 1), (67, .isub, 1), (68, .i2l, 1), (69, .invokestatic 167, 3), (72, .ifCond .eq 17, 3)] : List (Nat × Instr × Nat)).all (fun q => decide (decode cX12_letter q.1 = .ok (q.2.1, q.2.2))) = true := by decide +kernel
theorem dX12_letter_40 : decode cX12_letter 40 = .ok (.imul, 1) := all_at dvX12_letter_40 0 rfl
theorem dX12_letter_41 : decode cX12_letter 41 = .ok (.iload_n 1, 1) := all_at dvX12_letter_40 1 rfl
theorem dX12_letter_42 : decode cX12_letter 42 = .ok (.bipush 100, 2) := all_at dvX12_letter_40 2 rfl
theorem dX12_letter_44 : decode cX12_letter 44 = .ok (.irem, 1) := all_at dvX12_letter_40 3 rfl
theorem dX12_letter_45 : decode cX12_letter 45 = .ok (.iadd, 1) := all_at dvX12_letter_40 4 rfl
theorem dX12_letter_46 : decode cX12_letter 46 = .ok (.istore_n 3, 1) := all_at dvX12_letter_40 5 rfl
theorem dX12_letter_47 : decode cX12_letter 47 = .ok (.aload_n 0, 1) := all_at dvX12_letter_40 6 rfl
theorem dX12_letter_48 : decode cX12_letter 48 = .ok (.getfield 65, 3) := all_at dvX12_letter_40 7 rfl
theorem dX12_letter_51 : decode cX12_letter 51 = .ok (.iload_n 3, 1) := all_at dvX12_letter_40 8 rfl
theorem dX12_letter_52 : decode cX12_letter 52 = .ok (.iaload, 1) := all_at dvX12_letter_40 9 rfl
theorem dX12_letter_53 : decode cX12_letter 53 = .ok (.iconst 2, 1) := all_at dvX12_letter_40 10 rfl
theorem dX12_letter_54 : decode cX12_letter 54 = .ok (.if_icmp .ne 35, 3) := all_at dvX12_letter_40 11 rfl
theorem dX12_letter_57 : decode cX12_letter 57 = .ok (.iload_n 2, 1) := all_at dvX12_letter_40 12 rfl
theorem dX12_letter_58 : decode cX12_letter 58 = .ok (.i2l, 1) := all_at dvX12_letter_40 13 rfl
theorem dX12_letter_59 : decode cX12_letter 59 = .ok (.lconst 0, 1) := all_at dvX12_letter_40 14 rfl
theorem dX12_letter_60 : decode cX12_letter 60 = .ok (.aload_n 0, 1) := all_at dvX12_letter_40 15 rfl
theorem dX12_letter_61 : decode cX12_letter 61 = .ok (.getfield 77, 3) := all_at dvX12_letter_40 16 rfl
theorem dX12_letter_64 : decode cX12_letter 64 = .ok (.iload_n 3, 1) := all_at dvX12_letter_40 17 rfl
theorem dX12_letter_65 : decode cX12_letter 65 = .ok (.iaload, 1) := all_at dvX12_letter_40 18 rfl
theorem dX12_letter_66 : decode cX12_letter 66 = .ok (.iconst 1, 1) := all_at dvX12_letter_40 19 rfl
theorem dX12_letter_67 : decode cX12_letter 67 = .ok (.isub, 1) := all_at dvX12_letter_40 20 rfl
theorem dX12_letter_68 : decode cX12_letter 68 = .ok (.i2l, 1) := all_at dvX12_letter_40 21 rfl
theorem dX12_letter_69 : decode cX12_letter 69 = .ok (.invokestatic 167, 3) := all_at dvX12_letter_40 22 rfl
theorem dX12_letter_72 : decode cX12_letter 72 = .ok (.ifCond .eq 17, 3) := all_at dvX12_letter_40 23 rfl
set_option maxRecDepth 100000 in
theorem dvX12_letter_75 : ([(75, .aload_n 0, 1), (76, .getfield 80, 3), (79, .bipush 8, 2), (81, .iload_n 3, 1), (82, .imul, 1), (83, .iload_n 2, 1), (84, .iadd, 1), (85, .iaload, 1), (86, .goto 4, 3), (89, .iconst (-1), 1), (90, .ireturn, 1)] : List (Nat × Instr × Nat)).all (fun q => decide (decode cX12_letter q.1 = .ok (q.2.1, q.2.2))) = true := by decide +kernel
theorem dX12_letter_75 : decode cX12_letter 75 = .ok (.aload_n 0, 1) := all_at dvX12_letter_75 0 rfl
theorem dX12_letter_76 : decode cX12_letter 76 = .ok (.getfield 80, 3) := all_at dvX12_letter_75 1 rfl
theorem dX12_letter_79 : decode cX12_letter 79 = .ok (.bipush 8, 2) := all_at dvX12_letter_75 2 rfl
theorem dX12_letter_81 : decode cX12_letter 81 = .ok (.iload_n 3, 1) := all_at dvX12_letter_75 3 rfl
theorem dX12_letter_82 : decode cX12_letter 82 = .ok (.imul, 1) := all_at dvX12_letter_75 4 rfl
theorem dX12_letter_83 : decode cX12_letter 83 = .ok (.iload_n 2, 1) := all_at dvX12_letter_75 5 rfl
theorem dX12_letter_84 : decode cX12_letter 84 = .ok (.iadd, 1) := all_at dvX12_letter_75 6 rfl
theorem dX12_letter_85 : decode cX12_letter 85 = .ok (.iaload, 1) := all_at dvX12_letter_75 7 rfl
theorem dX12_letter_86 : decode cX12_letter 86 = .ok (.goto 4, 3) := all_at dvX12_letter_75 8 rfl
theorem dX12_letter_89 : decode cX12_letter 89 = .ok (.iconst (-1), 1) := all_at dvX12_letter_75 9 rfl
theorem dX12_letter_90 : decode cX12_letter 90 = .ok (.ireturn, 1) := all_at dvX12_letter_75 10 rfl
set_option maxRecDepth 100000 in
theorem dvX12_only_0 : ([(0, .aload_n 0, 1), (1, .aload_n 0, 1), (2, .getfield 96, 3), (5, .iload_n 1, 1), (6, .laload, 1), (7, .putfield 328, 3), (10, .aload_n 0, 1), (11, .aload_n 0, 1), (12, .getfield 100, 3), (15, .iload_n 1, 1), (16, .laload, 1), (17, .putfield 331, 3), (20, .return_, 1)] : List (Nat × Instr × Nat)).all (fun q => decide (decode cX12_only q.1 = .ok (q.2.1, q.2.2))) = true := by decide +kernel
theorem dX12_only_0 : decode cX12_only 0 = .ok (.aload_n 0, 1) := all_at dvX12_only_0 0 rfl
theorem dX12_only_1 : decode cX12_only 1 = .ok (.aload_n 0, 1) := all_at dvX12_only_0 1 rfl
theorem dX12_only_2 : decode cX12_only 2 = .ok (.getfield 96, 3) := all_at dvX12_only_0 2 rfl
theorem dX12_only_5 : decode cX12_only 5 = .ok (.iload_n 1, 1) := all_at dvX12_only_0 3 rfl
theorem dX12_only_6 : decode cX12_only 6 = .ok (.laload, 1) := all_at dvX12_only_0 4 rfl
theorem dX12_only_7 : decode cX12_only 7 = .ok (.putfield 328, 3) := all_at dvX12_only_0 5 rfl
theorem dX12_only_10 : decode cX12_only 10 = .ok (.aload_n 0, 1) := all_at dvX12_only_0 6 rfl
theorem dX12_only_11 : decode cX12_only 11 = .ok (.aload_n 0, 1) := all_at dvX12_only_0 7 rfl
theorem dX12_only_12 : decode cX12_only 12 = .ok (.getfield 100, 3) := all_at dvX12_only_0 8 rfl
theorem dX12_only_15 : decode cX12_only 15 = .ok (.iload_n 1, 1) := all_at dvX12_only_0 9 rfl
theorem dX12_only_16 : decode cX12_only 16 = .ok (.laload, 1) := all_at dvX12_only_0 10 rfl
theorem dX12_only_17 : decode cX12_only 17 = .ok (.putfield 331, 3) := all_at dvX12_only_0 11 rfl
theorem dX12_only_20 : decode cX12_only 20 = .ok (.return_, 1) := all_at dvX12_only_0 12 rfl
set_option maxRecDepth 100000 in
theorem dvX12_settleThree_0 : ([(0, .aload_n 0, 1), (1, .getfield 96, 3), (4, .iconst 0, 1), (5, .laload, 1), (6, .aload_n 0, 1), (7, .getfield 100, 3), (10, .iconst 1, 1), (11, .laload, 1), (12, .lmul, 1), (13, .aload_n 0, 1), (14, .getfield 100, 3), (17, .iconst 2, 1), (18, .laload, 1), (19, .lmul, 1), (20, .lstore_n 2, 1), (21, .aload_n 0, 1), (22, .getfield 96, 3), (25, .iconst 1, 1), (26, .laload, 1), (27, .aload_n 0, 1), (28, .getfield 100, 3), (31, .iconst 0, 1), (32, .laload, 1), (33, .lmul, 1)] : List (Nat × Instr × Nat)).all (fun q => decide (decode cX12_settleThree q.1 = .ok (q.2.1, q.2.2))) = true := by decide +kernel
theorem dX12_settleThree_0 : decode cX12_settleThree 0 = .ok (.aload_n 0, 1) := all_at dvX12_settleThree_0 0 rfl
theorem dX12_settleThree_1 : decode cX12_settleThree 1 = .ok (.getfield 96, 3) := all_at dvX12_settleThree_0 1 rfl
theorem dX12_settleThree_4 : decode cX12_settleThree 4 = .ok (.iconst 0, 1) := all_at dvX12_settleThree_0 2 rfl
theorem dX12_settleThree_5 : decode cX12_settleThree 5 = .ok (.laload, 1) := all_at dvX12_settleThree_0 3 rfl
theorem dX12_settleThree_6 : decode cX12_settleThree 6 = .ok (.aload_n 0, 1) := all_at dvX12_settleThree_0 4 rfl
theorem dX12_settleThree_7 : decode cX12_settleThree 7 = .ok (.getfield 100, 3) := all_at dvX12_settleThree_0 5 rfl
theorem dX12_settleThree_10 : decode cX12_settleThree 10 = .ok (.iconst 1, 1) := all_at dvX12_settleThree_0 6 rfl
theorem dX12_settleThree_11 : decode cX12_settleThree 11 = .ok (.laload, 1) := all_at dvX12_settleThree_0 7 rfl
theorem dX12_settleThree_12 : decode cX12_settleThree 12 = .ok (.lmul, 1) := all_at dvX12_settleThree_0 8 rfl
theorem dX12_settleThree_13 : decode cX12_settleThree 13 = .ok (.aload_n 0, 1) := all_at dvX12_settleThree_0 9 rfl
theorem dX12_settleThree_14 : decode cX12_settleThree 14 = .ok (.getfield 100, 3) := all_at dvX12_settleThree_0 10 rfl
theorem dX12_settleThree_17 : decode cX12_settleThree 17 = .ok (.iconst 2, 1) := all_at dvX12_settleThree_0 11 rfl
theorem dX12_settleThree_18 : decode cX12_settleThree 18 = .ok (.laload, 1) := all_at dvX12_settleThree_0 12 rfl
theorem dX12_settleThree_19 : decode cX12_settleThree 19 = .ok (.lmul, 1) := all_at dvX12_settleThree_0 13 rfl
theorem dX12_settleThree_20 : decode cX12_settleThree 20 = .ok (.lstore_n 2, 1) := all_at dvX12_settleThree_0 14 rfl
theorem dX12_settleThree_21 : decode cX12_settleThree 21 = .ok (.aload_n 0, 1) := all_at dvX12_settleThree_0 15 rfl
theorem dX12_settleThree_22 : decode cX12_settleThree 22 = .ok (.getfield 96, 3) := all_at dvX12_settleThree_0 16 rfl
theorem dX12_settleThree_25 : decode cX12_settleThree 25 = .ok (.iconst 1, 1) := all_at dvX12_settleThree_0 17 rfl
theorem dX12_settleThree_26 : decode cX12_settleThree 26 = .ok (.laload, 1) := all_at dvX12_settleThree_0 18 rfl
theorem dX12_settleThree_27 : decode cX12_settleThree 27 = .ok (.aload_n 0, 1) := all_at dvX12_settleThree_0 19 rfl
theorem dX12_settleThree_28 : decode cX12_settleThree 28 = .ok (.getfield 100, 3) := all_at dvX12_settleThree_0 20 rfl
theorem dX12_settleThree_31 : decode cX12_settleThree 31 = .ok (.iconst 0, 1) := all_at dvX12_settleThree_0 21 rfl
theorem dX12_settleThree_32 : decode cX12_settleThree 32 = .ok (.laload, 1) := all_at dvX12_settleThree_0 22 rfl
theorem dX12_settleThree_33 : decode cX12_settleThree 33 = .ok (.lmul, 1) := all_at dvX12_settleThree_0 23 rfl
set_option maxRecDepth 100000 in
theorem dvX12_settleThree_34 : ([(34, .aload_n 0, 1), (35, .getfield 100, 3), (38, .iconst 2, 1), (39, .laload, 1), (40, .lmul, 1), (41, .lstore 4, 2), (43, .aload_n 0, 1), (44, .getfield 96, 3), (47, .iconst 2, 1), (48, .laload, 1), (49, .aload_n 0, 1), (50, .getfield 100, 3), (53, .iconst 0, 1), (54, .laload, 1), (55, .lmul, 1), (56, .aload_n 0, 1), (57, .getfield 100, 3), (60, .iconst 1, 1), (61, .laload, 1), (62, .lmul, 1), (63, .lstore 6, 2), (65, .iload_n 1, 1), (66, .ifCond .ne 82, 3), (69, .lload_n 2, 1)] : List (Nat × Instr × Nat)).all (fun q => decide (decode cX12_settleThree q.1 = .ok (q.2.1, q.2.2))) = true := by decide +kernel
theorem dX12_settleThree_34 : decode cX12_settleThree 34 = .ok (.aload_n 0, 1) := all_at dvX12_settleThree_34 0 rfl
theorem dX12_settleThree_35 : decode cX12_settleThree 35 = .ok (.getfield 100, 3) := all_at dvX12_settleThree_34 1 rfl
theorem dX12_settleThree_38 : decode cX12_settleThree 38 = .ok (.iconst 2, 1) := all_at dvX12_settleThree_34 2 rfl
theorem dX12_settleThree_39 : decode cX12_settleThree 39 = .ok (.laload, 1) := all_at dvX12_settleThree_34 3 rfl
theorem dX12_settleThree_40 : decode cX12_settleThree 40 = .ok (.lmul, 1) := all_at dvX12_settleThree_34 4 rfl
theorem dX12_settleThree_41 : decode cX12_settleThree 41 = .ok (.lstore 4, 2) := all_at dvX12_settleThree_34 5 rfl
theorem dX12_settleThree_43 : decode cX12_settleThree 43 = .ok (.aload_n 0, 1) := all_at dvX12_settleThree_34 6 rfl
theorem dX12_settleThree_44 : decode cX12_settleThree 44 = .ok (.getfield 96, 3) := all_at dvX12_settleThree_34 7 rfl
theorem dX12_settleThree_47 : decode cX12_settleThree 47 = .ok (.iconst 2, 1) := all_at dvX12_settleThree_34 8 rfl
theorem dX12_settleThree_48 : decode cX12_settleThree 48 = .ok (.laload, 1) := all_at dvX12_settleThree_34 9 rfl
theorem dX12_settleThree_49 : decode cX12_settleThree 49 = .ok (.aload_n 0, 1) := all_at dvX12_settleThree_34 10 rfl
theorem dX12_settleThree_50 : decode cX12_settleThree 50 = .ok (.getfield 100, 3) := all_at dvX12_settleThree_34 11 rfl
theorem dX12_settleThree_53 : decode cX12_settleThree 53 = .ok (.iconst 0, 1) := all_at dvX12_settleThree_34 12 rfl
theorem dX12_settleThree_54 : decode cX12_settleThree 54 = .ok (.laload, 1) := all_at dvX12_settleThree_34 13 rfl
theorem dX12_settleThree_55 : decode cX12_settleThree 55 = .ok (.lmul, 1) := all_at dvX12_settleThree_34 14 rfl
theorem dX12_settleThree_56 : decode cX12_settleThree 56 = .ok (.aload_n 0, 1) := all_at dvX12_settleThree_34 15 rfl
theorem dX12_settleThree_57 : decode cX12_settleThree 57 = .ok (.getfield 100, 3) := all_at dvX12_settleThree_34 16 rfl
theorem dX12_settleThree_60 : decode cX12_settleThree 60 = .ok (.iconst 1, 1) := all_at dvX12_settleThree_34 17 rfl
theorem dX12_settleThree_61 : decode cX12_settleThree 61 = .ok (.laload, 1) := all_at dvX12_settleThree_34 18 rfl
theorem dX12_settleThree_62 : decode cX12_settleThree 62 = .ok (.lmul, 1) := all_at dvX12_settleThree_34 19 rfl
theorem dX12_settleThree_63 : decode cX12_settleThree 63 = .ok (.lstore 6, 2) := all_at dvX12_settleThree_34 20 rfl
theorem dX12_settleThree_65 : decode cX12_settleThree 65 = .ok (.iload_n 1, 1) := all_at dvX12_settleThree_34 21 rfl
theorem dX12_settleThree_66 : decode cX12_settleThree 66 = .ok (.ifCond .ne 82, 3) := all_at dvX12_settleThree_34 22 rfl
theorem dX12_settleThree_69 : decode cX12_settleThree 69 = .ok (.lload_n 2, 1) := all_at dvX12_settleThree_34 23 rfl
set_option maxRecDepth 100000 in
theorem dvX12_settleThree_70 : ([(70, .lload 4, 2), (72, .lsub, 1), (73, .invokestatic 160, 3), (76, .lstore 8, 2), (78, .lload_n 2, 1), (79, .lload 6, 2), (81, .lsub, 1), (82, .invokestatic 160, 3), (85, .lstore 10, 2), (87, .lload 4, 2), (89, .lload 6, 2), (91, .lsub, 1), (92, .invokestatic 160, 3), (95, .lstore 12, 2), (97, .lload 8, 2), (99, .lload 10, 2), (101, .lcmp, 1), (102, .ifCond .gt 20, 3), (105, .lload 8, 2), (107, .lload 12, 2), (109, .lcmp, 1), (110, .ifCond .gt 12, 3), (113, .aload_n 0, 1), (114, .iconst 0, 1)] : List (Nat × Instr × Nat)).all (fun q => decide (decode cX12_settleThree q.1 = .ok (q.2.1, q.2.2))) = true := by decide +kernel
theorem dX12_settleThree_70 : decode cX12_settleThree 70 = .ok (.lload 4, 2) := all_at dvX12_settleThree_70 0 rfl
theorem dX12_settleThree_72 : decode cX12_settleThree 72 = .ok (.lsub, 1) := all_at dvX12_settleThree_70 1 rfl
theorem dX12_settleThree_73 : decode cX12_settleThree 73 = .ok (.invokestatic 160, 3) := all_at dvX12_settleThree_70 2 rfl
theorem dX12_settleThree_76 : decode cX12_settleThree 76 = .ok (.lstore 8, 2) := all_at dvX12_settleThree_70 3 rfl
theorem dX12_settleThree_78 : decode cX12_settleThree 78 = .ok (.lload_n 2, 1) := all_at dvX12_settleThree_70 4 rfl
theorem dX12_settleThree_79 : decode cX12_settleThree 79 = .ok (.lload 6, 2) := all_at dvX12_settleThree_70 5 rfl
theorem dX12_settleThree_81 : decode cX12_settleThree 81 = .ok (.lsub, 1) := all_at dvX12_settleThree_70 6 rfl
theorem dX12_settleThree_82 : decode cX12_settleThree 82 = .ok (.invokestatic 160, 3) := all_at dvX12_settleThree_70 7 rfl
theorem dX12_settleThree_85 : decode cX12_settleThree 85 = .ok (.lstore 10, 2) := all_at dvX12_settleThree_70 8 rfl
theorem dX12_settleThree_87 : decode cX12_settleThree 87 = .ok (.lload 4, 2) := all_at dvX12_settleThree_70 9 rfl
theorem dX12_settleThree_89 : decode cX12_settleThree 89 = .ok (.lload 6, 2) := all_at dvX12_settleThree_70 10 rfl
theorem dX12_settleThree_91 : decode cX12_settleThree 91 = .ok (.lsub, 1) := all_at dvX12_settleThree_70 11 rfl
theorem dX12_settleThree_92 : decode cX12_settleThree 92 = .ok (.invokestatic 160, 3) := all_at dvX12_settleThree_70 12 rfl
theorem dX12_settleThree_95 : decode cX12_settleThree 95 = .ok (.lstore 12, 2) := all_at dvX12_settleThree_70 13 rfl
theorem dX12_settleThree_97 : decode cX12_settleThree 97 = .ok (.lload 8, 2) := all_at dvX12_settleThree_70 14 rfl
theorem dX12_settleThree_99 : decode cX12_settleThree 99 = .ok (.lload 10, 2) := all_at dvX12_settleThree_70 15 rfl
theorem dX12_settleThree_101 : decode cX12_settleThree 101 = .ok (.lcmp, 1) := all_at dvX12_settleThree_70 16 rfl
theorem dX12_settleThree_102 : decode cX12_settleThree 102 = .ok (.ifCond .gt 20, 3) := all_at dvX12_settleThree_70 17 rfl
theorem dX12_settleThree_105 : decode cX12_settleThree 105 = .ok (.lload 8, 2) := all_at dvX12_settleThree_70 18 rfl
theorem dX12_settleThree_107 : decode cX12_settleThree 107 = .ok (.lload 12, 2) := all_at dvX12_settleThree_70 19 rfl
theorem dX12_settleThree_109 : decode cX12_settleThree 109 = .ok (.lcmp, 1) := all_at dvX12_settleThree_70 20 rfl
theorem dX12_settleThree_110 : decode cX12_settleThree 110 = .ok (.ifCond .gt 12, 3) := all_at dvX12_settleThree_70 21 rfl
theorem dX12_settleThree_113 : decode cX12_settleThree 113 = .ok (.aload_n 0, 1) := all_at dvX12_settleThree_70 22 rfl
theorem dX12_settleThree_114 : decode cX12_settleThree 114 = .ok (.iconst 0, 1) := all_at dvX12_settleThree_70 23 rfl
set_option maxRecDepth 100000 in
theorem dvX12_settleThree_115 : ([(115, .iconst 1, 1), (116, .invokevirtual 334, 3), (119, .goto 26, 3), (122, .lload 10, 2), (124, .lload 12, 2), (126, .lcmp, 1), (127, .ifCond .gt 12, 3), (130, .aload_n 0, 1), (131, .iconst 0, 1), (132, .iconst 2, 1), (133, .invokevirtual 334, 3), (136, .goto 9, 3), (139, .aload_n 0, 1), (140, .iconst 1, 1), (141, .iconst 2, 1), (142, .invokevirtual 334, 3), (145, .goto 114, 3), (148, .iload_n 1, 1), (149, .iconst 1, 1), (150, .if_icmp .ne 41, 3), (153, .aload_n 0, 1), (154, .lload_n 2, 1), (155, .lload 4, 2), (157, .lcmp, 1)] : List (Nat × Instr × Nat)).all (fun q => decide (decode cX12_settleThree q.1 = .ok (q.2.1, q.2.2))) = true := by decide +kernel
theorem dX12_settleThree_115 : decode cX12_settleThree 115 = .ok (.iconst 1, 1) := all_at dvX12_settleThree_115 0 rfl
theorem dX12_settleThree_116 : decode cX12_settleThree 116 = .ok (.invokevirtual 334, 3) := all_at dvX12_settleThree_115 1 rfl
theorem dX12_settleThree_119 : decode cX12_settleThree 119 = .ok (.goto 26, 3) := all_at dvX12_settleThree_115 2 rfl
theorem dX12_settleThree_122 : decode cX12_settleThree 122 = .ok (.lload 10, 2) := all_at dvX12_settleThree_115 3 rfl
theorem dX12_settleThree_124 : decode cX12_settleThree 124 = .ok (.lload 12, 2) := all_at dvX12_settleThree_115 4 rfl
theorem dX12_settleThree_126 : decode cX12_settleThree 126 = .ok (.lcmp, 1) := all_at dvX12_settleThree_115 5 rfl
theorem dX12_settleThree_127 : decode cX12_settleThree 127 = .ok (.ifCond .gt 12, 3) := all_at dvX12_settleThree_115 6 rfl
theorem dX12_settleThree_130 : decode cX12_settleThree 130 = .ok (.aload_n 0, 1) := all_at dvX12_settleThree_115 7 rfl
theorem dX12_settleThree_131 : decode cX12_settleThree 131 = .ok (.iconst 0, 1) := all_at dvX12_settleThree_115 8 rfl
theorem dX12_settleThree_132 : decode cX12_settleThree 132 = .ok (.iconst 2, 1) := all_at dvX12_settleThree_115 9 rfl
theorem dX12_settleThree_133 : decode cX12_settleThree 133 = .ok (.invokevirtual 334, 3) := all_at dvX12_settleThree_115 10 rfl
theorem dX12_settleThree_136 : decode cX12_settleThree 136 = .ok (.goto 9, 3) := all_at dvX12_settleThree_115 11 rfl
theorem dX12_settleThree_139 : decode cX12_settleThree 139 = .ok (.aload_n 0, 1) := all_at dvX12_settleThree_115 12 rfl
theorem dX12_settleThree_140 : decode cX12_settleThree 140 = .ok (.iconst 1, 1) := all_at dvX12_settleThree_115 13 rfl
theorem dX12_settleThree_141 : decode cX12_settleThree 141 = .ok (.iconst 2, 1) := all_at dvX12_settleThree_115 14 rfl
theorem dX12_settleThree_142 : decode cX12_settleThree 142 = .ok (.invokevirtual 334, 3) := all_at dvX12_settleThree_115 15 rfl
theorem dX12_settleThree_145 : decode cX12_settleThree 145 = .ok (.goto 114, 3) := all_at dvX12_settleThree_115 16 rfl
theorem dX12_settleThree_148 : decode cX12_settleThree 148 = .ok (.iload_n 1, 1) := all_at dvX12_settleThree_115 17 rfl
theorem dX12_settleThree_149 : decode cX12_settleThree 149 = .ok (.iconst 1, 1) := all_at dvX12_settleThree_115 18 rfl
theorem dX12_settleThree_150 : decode cX12_settleThree 150 = .ok (.if_icmp .ne 41, 3) := all_at dvX12_settleThree_115 19 rfl
theorem dX12_settleThree_153 : decode cX12_settleThree 153 = .ok (.aload_n 0, 1) := all_at dvX12_settleThree_115 20 rfl
theorem dX12_settleThree_154 : decode cX12_settleThree 154 = .ok (.lload_n 2, 1) := all_at dvX12_settleThree_115 21 rfl
theorem dX12_settleThree_155 : decode cX12_settleThree 155 = .ok (.lload 4, 2) := all_at dvX12_settleThree_115 22 rfl
theorem dX12_settleThree_157 : decode cX12_settleThree 157 = .ok (.lcmp, 1) := all_at dvX12_settleThree_115 23 rfl
set_option maxRecDepth 100000 in
theorem dvX12_settleThree_158 : ([(158, .ifCond .gt 14, 3), (161, .lload_n 2, 1), (162, .lload 6, 2), (164, .lcmp, 1), (165, .ifCond .gt 7, 3), (168, .iconst 0, 1), (169, .goto 16, 3), (172, .lload 4, 2), (174, .lload 6, 2), (176, .lcmp, 1), (177, .ifCond .gt 7, 3), (180, .iconst 1, 1), (181, .goto 4, 3), (184, .iconst 2, 1), (185, .invokevirtual 337, 3), (188, .goto 71, 3), (191, .aload_n 0, 1), (192, .lload_n 2, 1), (193, .lload 4, 2), (195, .lcmp, 1), (196, .ifCond .gt 7, 3), (199, .iconst 1, 1), (200, .goto 4, 3), (203, .iconst 0, 1)] : List (Nat × Instr × Nat)).all (fun q => decide (decode cX12_settleThree q.1 = .ok (q.2.1, q.2.2))) = true := by decide +kernel
theorem dX12_settleThree_158 : decode cX12_settleThree 158 = .ok (.ifCond .gt 14, 3) := all_at dvX12_settleThree_158 0 rfl
theorem dX12_settleThree_161 : decode cX12_settleThree 161 = .ok (.lload_n 2, 1) := all_at dvX12_settleThree_158 1 rfl
theorem dX12_settleThree_162 : decode cX12_settleThree 162 = .ok (.lload 6, 2) := all_at dvX12_settleThree_158 2 rfl
theorem dX12_settleThree_164 : decode cX12_settleThree 164 = .ok (.lcmp, 1) := all_at dvX12_settleThree_158 3 rfl
theorem dX12_settleThree_165 : decode cX12_settleThree 165 = .ok (.ifCond .gt 7, 3) := all_at dvX12_settleThree_158 4 rfl
theorem dX12_settleThree_168 : decode cX12_settleThree 168 = .ok (.iconst 0, 1) := all_at dvX12_settleThree_158 5 rfl
theorem dX12_settleThree_169 : decode cX12_settleThree 169 = .ok (.goto 16, 3) := all_at dvX12_settleThree_158 6 rfl
theorem dX12_settleThree_172 : decode cX12_settleThree 172 = .ok (.lload 4, 2) := all_at dvX12_settleThree_158 7 rfl
theorem dX12_settleThree_174 : decode cX12_settleThree 174 = .ok (.lload 6, 2) := all_at dvX12_settleThree_158 8 rfl
theorem dX12_settleThree_176 : decode cX12_settleThree 176 = .ok (.lcmp, 1) := all_at dvX12_settleThree_158 9 rfl
theorem dX12_settleThree_177 : decode cX12_settleThree 177 = .ok (.ifCond .gt 7, 3) := all_at dvX12_settleThree_158 10 rfl
theorem dX12_settleThree_180 : decode cX12_settleThree 180 = .ok (.iconst 1, 1) := all_at dvX12_settleThree_158 11 rfl
theorem dX12_settleThree_181 : decode cX12_settleThree 181 = .ok (.goto 4, 3) := all_at dvX12_settleThree_158 12 rfl
theorem dX12_settleThree_184 : decode cX12_settleThree 184 = .ok (.iconst 2, 1) := all_at dvX12_settleThree_158 13 rfl
theorem dX12_settleThree_185 : decode cX12_settleThree 185 = .ok (.invokevirtual 337, 3) := all_at dvX12_settleThree_158 14 rfl
theorem dX12_settleThree_188 : decode cX12_settleThree 188 = .ok (.goto 71, 3) := all_at dvX12_settleThree_158 15 rfl
theorem dX12_settleThree_191 : decode cX12_settleThree 191 = .ok (.aload_n 0, 1) := all_at dvX12_settleThree_158 16 rfl
theorem dX12_settleThree_192 : decode cX12_settleThree 192 = .ok (.lload_n 2, 1) := all_at dvX12_settleThree_158 17 rfl
theorem dX12_settleThree_193 : decode cX12_settleThree 193 = .ok (.lload 4, 2) := all_at dvX12_settleThree_158 18 rfl
theorem dX12_settleThree_195 : decode cX12_settleThree 195 = .ok (.lcmp, 1) := all_at dvX12_settleThree_158 19 rfl
theorem dX12_settleThree_196 : decode cX12_settleThree 196 = .ok (.ifCond .gt 7, 3) := all_at dvX12_settleThree_158 20 rfl
theorem dX12_settleThree_199 : decode cX12_settleThree 199 = .ok (.iconst 1, 1) := all_at dvX12_settleThree_158 21 rfl
theorem dX12_settleThree_200 : decode cX12_settleThree 200 = .ok (.goto 4, 3) := all_at dvX12_settleThree_158 22 rfl
theorem dX12_settleThree_203 : decode cX12_settleThree 203 = .ok (.iconst 0, 1) := all_at dvX12_settleThree_158 23 rfl
set_option maxRecDepth 100000 in
theorem dvX12_settleThree_204 : ([(204, .lload 4, 2), (206, .lload 6, 2), (208, .lcmp, 1), (209, .ifCond .gt 7, 3), (212, .iconst 1, 1), (213, .goto 4, 3), (216, .iconst 0, 1), (217, .if_icmp .ne 7, 3), (220, .iconst 1, 1), (221, .goto 35, 3), (224, .lload 4, 2), (226, .lload_n 2, 1), (227, .lcmp, 1), (228, .ifCond .gt 7, 3), (231, .iconst 1, 1), (232, .goto 4, 3), (235, .iconst 0, 1), (236, .lload_n 2, 1), (237, .lload 6, 2), (239, .lcmp, 1), (240, .ifCond .gt 7, 3), (243, .iconst 1, 1), (244, .goto 4, 3), (247, .iconst 0, 1)] : List (Nat × Instr × Nat)).all (fun q => decide (decode cX12_settleThree q.1 = .ok (q.2.1, q.2.2))) = true := by decide +kernel
theorem dX12_settleThree_204 : decode cX12_settleThree 204 = .ok (.lload 4, 2) := all_at dvX12_settleThree_204 0 rfl
theorem dX12_settleThree_206 : decode cX12_settleThree 206 = .ok (.lload 6, 2) := all_at dvX12_settleThree_204 1 rfl
theorem dX12_settleThree_208 : decode cX12_settleThree 208 = .ok (.lcmp, 1) := all_at dvX12_settleThree_204 2 rfl
theorem dX12_settleThree_209 : decode cX12_settleThree 209 = .ok (.ifCond .gt 7, 3) := all_at dvX12_settleThree_204 3 rfl
theorem dX12_settleThree_212 : decode cX12_settleThree 212 = .ok (.iconst 1, 1) := all_at dvX12_settleThree_204 4 rfl
theorem dX12_settleThree_213 : decode cX12_settleThree 213 = .ok (.goto 4, 3) := all_at dvX12_settleThree_204 5 rfl
theorem dX12_settleThree_216 : decode cX12_settleThree 216 = .ok (.iconst 0, 1) := all_at dvX12_settleThree_204 6 rfl
theorem dX12_settleThree_217 : decode cX12_settleThree 217 = .ok (.if_icmp .ne 7, 3) := all_at dvX12_settleThree_204 7 rfl
theorem dX12_settleThree_220 : decode cX12_settleThree 220 = .ok (.iconst 1, 1) := all_at dvX12_settleThree_204 8 rfl
theorem dX12_settleThree_221 : decode cX12_settleThree 221 = .ok (.goto 35, 3) := all_at dvX12_settleThree_204 9 rfl
theorem dX12_settleThree_224 : decode cX12_settleThree 224 = .ok (.lload 4, 2) := all_at dvX12_settleThree_204 10 rfl
theorem dX12_settleThree_226 : decode cX12_settleThree 226 = .ok (.lload_n 2, 1) := all_at dvX12_settleThree_204 11 rfl
theorem dX12_settleThree_227 : decode cX12_settleThree 227 = .ok (.lcmp, 1) := all_at dvX12_settleThree_204 12 rfl
theorem dX12_settleThree_228 : decode cX12_settleThree 228 = .ok (.ifCond .gt 7, 3) := all_at dvX12_settleThree_204 13 rfl
theorem dX12_settleThree_231 : decode cX12_settleThree 231 = .ok (.iconst 1, 1) := all_at dvX12_settleThree_204 14 rfl
theorem dX12_settleThree_232 : decode cX12_settleThree 232 = .ok (.goto 4, 3) := all_at dvX12_settleThree_204 15 rfl
theorem dX12_settleThree_235 : decode cX12_settleThree 235 = .ok (.iconst 0, 1) := all_at dvX12_settleThree_204 16 rfl
theorem dX12_settleThree_236 : decode cX12_settleThree 236 = .ok (.lload_n 2, 1) := all_at dvX12_settleThree_204 17 rfl
theorem dX12_settleThree_237 : decode cX12_settleThree 237 = .ok (.lload 6, 2) := all_at dvX12_settleThree_204 18 rfl
theorem dX12_settleThree_239 : decode cX12_settleThree 239 = .ok (.lcmp, 1) := all_at dvX12_settleThree_204 19 rfl
theorem dX12_settleThree_240 : decode cX12_settleThree 240 = .ok (.ifCond .gt 7, 3) := all_at dvX12_settleThree_204 20 rfl
theorem dX12_settleThree_243 : decode cX12_settleThree 243 = .ok (.iconst 1, 1) := all_at dvX12_settleThree_204 21 rfl
theorem dX12_settleThree_244 : decode cX12_settleThree 244 = .ok (.goto 4, 3) := all_at dvX12_settleThree_204 22 rfl
theorem dX12_settleThree_247 : decode cX12_settleThree 247 = .ok (.iconst 0, 1) := all_at dvX12_settleThree_204 23 rfl
set_option maxRecDepth 100000 in
theorem dvX12_settleThree_248 : ([(248, .if_icmp .ne 7, 3), (251, .iconst 0, 1), (252, .goto 4, 3), (255, .iconst 2, 1), (256, .invokevirtual 337, 3), (259, .return_, 1)] : List (Nat × Instr × Nat)).all (fun q => decide (decode cX12_settleThree q.1 = .ok (q.2.1, q.2.2))) = true := by decide +kernel
theorem dX12_settleThree_248 : decode cX12_settleThree 248 = .ok (.if_icmp .ne 7, 3) := all_at dvX12_settleThree_248 0 rfl
theorem dX12_settleThree_251 : decode cX12_settleThree 251 = .ok (.iconst 0, 1) := all_at dvX12_settleThree_248 1 rfl
theorem dX12_settleThree_252 : decode cX12_settleThree 252 = .ok (.goto 4, 3) := all_at dvX12_settleThree_248 2 rfl
theorem dX12_settleThree_255 : decode cX12_settleThree 255 = .ok (.iconst 2, 1) := all_at dvX12_settleThree_248 3 rfl
theorem dX12_settleThree_256 : decode cX12_settleThree 256 = .ok (.invokevirtual 337, 3) := all_at dvX12_settleThree_248 4 rfl
theorem dX12_settleThree_259 : decode cX12_settleThree 259 = .ok (.return_, 1) := all_at dvX12_settleThree_248 5 rfl
set_option maxHeartbeats 4000000 in
set_option maxRecDepth 100000 in
/-- X12_letter -/
theorem c_X12_letter (l : Launch) (dC : Nat → ClassId) (dI : Nat → Nat → Nat) (h : Nat) (g : Nat → Nat → Nat) (ca : Nat → Nat → ClassId) (iv : Nat → Nat → Int32) (lv : Nat → Nat → Int64) (fa : Nat → Nat → Nat → Int32) (la : Nat → Nat → Nat → Int64) (hI : IX iv fa) (a : Int32) (b : Int32) : Met l yX12_letter (wc yX12_letter cX12_letter 4 (some .int)) ({ frames := 1, cells := 0, slots := 0, locals := 25 } : Room) (pR (dC, dI) classes (WM h g ca iv lv fa la) (TM ca) [.ref h, .int a, .int b]) (vp_Si (fun r => True)) 0 0 (fun _ => False) := by
  refine Met.ofW (cc := cX12_letter) (maxL := 4) (ret := (some .int)) (by decide) rfl ?_
  intro p e s m args below meth c s₁ B hml hv
  obtain ⟨rfl, hP, hK⟩ := hv
  have hx := B.exec
  have hb := B.bytes
  have hr := B.returns
  have ht := tb_tl (atoms_spec (ws := wc yX12_letter cX12_letter 4 (some .int)) B.pre)
  have hown : s.vm.findClass RX12 = some m.cls := findClass_of_methodNamed B.named
  have hlocks := B.notSynchronized
  have hl := lv_entry [.ref h, .int a, .int b] (n := 4) (Nat.le_of_ble_eq_true rfl)
  rw [lg_entry_eq]
  generalize (lg_sl [.ref h, .int a, .int b] ++ List.replicate (4 - (lg_sl [.ref h, .int a, .int b]).length) Slot.unset).toArray = ls at hl ⊢
  have hl : lv_has ls 4 [(0, .ref h), (1, .int a), (2, .int b)] := hl
  refine lv_iload_n hx hb dX12_letter_0 rfl (lv_at hl 1 rfl) ?_
  refine lv_if_lt (tgt := 31) hx hb dX12_letter_1 (by decide) (fun c1 => ?_) (fun c1 => ?_)
  · have fc1 := z_lt (rfl : (a).toInt = _) (by decide : (0 : Int32).toInt = 0) c1
    refine lv_ldc hx hb hown (ht _ m_1389) dX12_letter_31 ?_
    exact W.iret (v := (-100001)) hx hb hr (fun t ht9 hW => ⟨(-100001), rfl, trivial, ht9⟩) (fun q hq => by cases hq) dX12_letter_33
  · have fc1 := z_nlt (rfl : (a).toInt = _) (by decide : (0 : Int32).toInt = 0) c1
    refine lv_iload_n hx hb dX12_letter_4 rfl (lv_at hl 1 rfl) ?_
    refine lv_bipush (v := 100) hx hb dX12_letter_5 (by decide) ?_
    refine lv_idiv hx hb dX12_letter_7 (by decide) ?_
    refine lv_topi (fun v2 ev2 => ?_)
    have tv2 := z_divp ev2 (rfl : (a).toInt = _) (by decide : (100 : Int32).toInt = 100) (by omega) (by omega)
    refine lv_aload_n hx hb dX12_letter_8 rfl (lv_at hl 0 rfl) ?_
    have i_12_23 : 0 ≤ (iv 12 23).toInt ∧ (iv 12 23).toInt ≤ 8 := hI.1 12 23
    refine gM_12_23 hx hb ht hown hK hP m_1162 (v := (iv 12 23)) rfl dX12_letter_9 ?_
    refine lv_icmp_ge (tgt := 31) hx hb dX12_letter_12 (by decide) (fun c3 => ?_) (fun c3 => ?_)
    · have fc3 := z_le (rfl : ((iv 12 23)).toInt = _) (rfl : (v2).toInt = _) c3
      refine lv_ldc hx hb hown (ht _ m_1389) dX12_letter_31 ?_
      exact W.iret (v := (-100001)) hx hb hr (fun t ht9 hW => ⟨(-100001), rfl, trivial, ht9⟩) (fun q hq => by cases hq) dX12_letter_33
    · have fc3 := z_nle (rfl : ((iv 12 23)).toInt = _) (rfl : (v2).toInt = _) c3
      refine lv_iload_n hx hb dX12_letter_15 rfl (lv_at hl 1 rfl) ?_
      refine lv_bipush (v := 100) hx hb dX12_letter_16 (by decide) ?_
      refine lv_irem hx hb dX12_letter_18 (by decide) ?_
      refine lv_topi (fun v4 ev4 => ?_)
      have tv4 := z_remp ev4 (rfl : (a).toInt = _) (by decide : (100 : Int32).toInt = 100) (by omega) (by omega)
      refine lv_aload_n hx hb dX12_letter_19 rfl (lv_at hl 0 rfl) ?_
      refine gM_12_25 hx hb ht hown hK hP m_1164 dX12_letter_20 ?_
      refine lv_iload_n hx hb dX12_letter_23 rfl (lv_at hl 1 rfl) ?_
      refine lv_bipush (v := 100) hx hb dX12_letter_24 (by decide) ?_
      refine lv_idiv hx hb dX12_letter_26 (by decide) ?_
      refine lv_topi (fun v5 ev5 => ?_)
      obtain rfl : v2 = v5 := ev2.trans ev5.symm
      refine lM_12_25 hx hb hK hP (f := (fa 12 25)) rfl (vp_in_iff.mpr ⟨by omega, by omega⟩) dX12_letter_27 ?_
      refine lv_topi (fun v6 ev6 => ?_)
      have tv6 : 0 ≤ v6.toInt ∧ v6.toInt ≤ 12 := by rw [ev6]; exact hI.2 12 25 _
      refine lv_icmp_lt (tgt := 34) hx hb dX12_letter_28 (by decide) (fun c7 => ?_) (fun c7 => ?_)
      · have fc7 := z_lt (rfl : (v4).toInt = _) (rfl : (v6).toInt = _) c7
        refine lv_bipush (v := 12) hx hb dX12_letter_34 (by decide) ?_
        refine lv_iload_n hx hb dX12_letter_36 rfl (lv_at hl 1 rfl) ?_
        refine lv_bipush (v := 100) hx hb dX12_letter_37 (by decide) ?_
        refine lv_idiv hx hb dX12_letter_39 (by decide) ?_
        refine lv_topi (fun v8 ev8 => ?_)
        obtain rfl : v2 = v8 := ev2.trans ev8.symm
        refine lv_imul hx hb dX12_letter_40 ?_
        refine lv_topi (fun v9 ev9 => ?_)
        have tv9 := z_mul ev9 (by decide : (12 : Int32).toInt = 12) (rfl : (v2).toInt = _) (by omega) (by omega)
        refine lv_iload_n hx hb dX12_letter_41 rfl (lv_at hl 1 rfl) ?_
        refine lv_bipush (v := 100) hx hb dX12_letter_42 (by decide) ?_
        refine lv_irem hx hb dX12_letter_44 (by decide) ?_
        refine lv_topi (fun v10 ev10 => ?_)
        obtain rfl : v4 = v10 := ev4.trans ev10.symm
        refine lv_iadd hx hb dX12_letter_45 ?_
        refine lv_topi (fun v11 ev11 => ?_)
        have tv11 := z_add ev11 (rfl : (v9).toInt = _) (rfl : (v4).toInt = _) (by omega) (by omega)
        refine lv_istore_n (lv' := [(3, .int v11), (0, .ref h), (1, .int a), (2, .int b)]) hx hb dX12_letter_46 rfl hl (by decide) rfl (fun ls hl => ?_)
        refine lv_aload_n hx hb dX12_letter_47 rfl (lv_at hl 1 rfl) ?_
        refine gM_12_26 hx hb ht hown hK hP m_1165 dX12_letter_48 ?_
        refine lv_iload_n hx hb dX12_letter_51 rfl (lv_at hl 0 rfl) ?_
        refine lM_12_26 hx hb hK hP (f := (fa 12 26)) rfl (vp_in_iff.mpr ⟨by omega, by omega⟩) dX12_letter_52 ?_
        refine lv_topi (fun v12 ev12 => ?_)
        refine lv_iconst (v := 2) hx hb dX12_letter_53 (by decide) ?_
        refine lv_icmp_ne (tgt := 89) hx hb dX12_letter_54 (by decide) (fun c13 => ?_) (fun c13 => ?_)
        · have fc13 := z_ne (rfl : (v12).toInt = _) (by decide : (2 : Int32).toInt = 2) c13
          refine lv_iconst (v := (-1)) hx hb dX12_letter_89 (by decide) ?_
          exact W.iret (v := (-1)) hx hb hr (fun t ht9 hW => ⟨(-1), rfl, trivial, ht9⟩) (fun q hq => by cases hq) dX12_letter_90
        · have fc13 := z_eq (rfl : (v12).toInt = _) (by decide : (2 : Int32).toInt = 2) c13
          refine lv_iload_n hx hb dX12_letter_57 rfl (lv_at hl 3 rfl) ?_
          refine lv_i2l (v := (b.toInt64)) hx hb dX12_letter_58 rfl ?_
          refine lv_lconst (v := 0) hx hb dX12_letter_59 (by decide) ?_
          refine lv_aload_n hx hb dX12_letter_60 rfl (lv_at hl 1 rfl) ?_
          refine gM_12_30 hx hb ht hown hK hP m_1169 dX12_letter_61 ?_
          refine lv_iload_n hx hb dX12_letter_64 rfl (lv_at hl 0 rfl) ?_
          refine lM_12_30 hx hb hK hP (f := (fa 12 30)) rfl (vp_in_iff.mpr ⟨by omega, by omega⟩) dX12_letter_65 ?_
          refine lv_topi (fun v14 ev14 => ?_)
          have tv14 : 0 ≤ v14.toInt ∧ v14.toInt ≤ 8 := by rw [ev14]; exact hI.2 12 30 _
          refine lv_iconst (v := 1) hx hb dX12_letter_66 (by decide) ?_
          refine lv_isub hx hb dX12_letter_67 ?_
          refine lv_topi (fun v15 ev15 => ?_)
          have tv15 := z_sub ev15 (rfl : (v14).toInt = _) (by decide : (1 : Int32).toInt = 1) (by omega) (by omega)
          refine lv_i2l (v := (v15.toInt64)) hx hb dX12_letter_68 rfl ?_
          refine vp_callSi (W.runS (As := [.long (b.toInt64), .long 0, .long (v15.toInt64)]) (rest := []) ⟨hx, hb, hml, hown, ht⟩ (c_X12_in l dC dI (b.toInt64) 0 (v15.toInt64) (b.toInt) (0) (v15.toInt) ((Int32.toInt_toInt64 b).trans rfl) (by decide : (0 : Int64).toInt = 0) ((Int32.toInt_toInt64 v15).trans rfl)) (kS 3 ht m_1370 m_1371 m_89 m_1372 rfl rfl hd_X12_in_v ⟨Nat.le_of_ble_eq_true rfl, Nat.le_of_ble_eq_true rfl⟩) (sR noP (hK.sub (tys' := []) [] rfl)) rfl rfl hl.1 rfl (lv_room (Nat.le_of_ble_eq_true rfl)) dX12_letter_69 ⟨Nat.le_of_ble_eq_true rfl, Nat.le_of_ble_eq_true rfl⟩) (fun r16 hr16 => ?_)
          rcases hr16 with ⟨rfl, fr16⟩ | ⟨rfl, fr16⟩
          · skip
            refine lv_if_eq (tgt := 89) hx hb dX12_letter_72 (by decide) (fun c17 => ?_) (fun c17 => ?_)
            · exact absurd c17 (by decide)
            · skip
              refine lv_aload_n hx hb dX12_letter_75 rfl (lv_at hl 1 rfl) ?_
              refine gM_12_31 hx hb ht hown hK hP m_1170 dX12_letter_76 ?_
              refine lv_bipush (v := 8) hx hb dX12_letter_79 (by decide) ?_
              refine lv_iload_n hx hb dX12_letter_81 rfl (lv_at hl 0 rfl) ?_
              refine lv_imul hx hb dX12_letter_82 ?_
              refine lv_topi (fun v18 ev18 => ?_)
              have tv18 := z_mul ev18 (by decide : (8 : Int32).toInt = 8) (rfl : (v11).toInt = _) (by omega) (by omega)
              refine lv_iload_n hx hb dX12_letter_83 rfl (lv_at hl 3 rfl) ?_
              refine lv_iadd hx hb dX12_letter_84 ?_
              refine lv_topi (fun v19 ev19 => ?_)
              have tv19 := z_add ev19 (rfl : (v18).toInt = _) (rfl : (b).toInt = _) (by omega) (by omega)
              refine lM_12_31 hx hb hK hP (f := (fa 12 31)) rfl (vp_in_iff.mpr ⟨by omega, by omega⟩) dX12_letter_85 ?_
              refine lv_topi (fun v20 ev20 => ?_)
              refine lv_goto (tgt := 90) hx hb dX12_letter_86 (by decide) ?_
              exact W.iret (v := v20) hx hb hr (fun t ht9 hW => ⟨v20, rfl, trivial, ht9⟩) (fun q hq => by cases hq) dX12_letter_90
          · skip
            refine lv_if_eq (tgt := 89) hx hb dX12_letter_72 (by decide) (fun c21 => ?_) (fun c21 => ?_)
            · skip
              refine lv_iconst (v := (-1)) hx hb dX12_letter_89 (by decide) ?_
              exact W.iret (v := (-1)) hx hb hr (fun t ht9 hW => ⟨(-1), rfl, trivial, ht9⟩) (fun q hq => by cases hq) dX12_letter_90
            · exact absurd rfl c21
      · have fc7 := z_nlt (rfl : (v4).toInt = _) (rfl : (v6).toInt = _) c7
        refine lv_ldc hx hb hown (ht _ m_1389) dX12_letter_31 ?_
        exact W.iret (v := (-100001)) hx hb hr (fun t ht9 hW => ⟨(-100001), rfl, trivial, ht9⟩) (fun q hq => by cases hq) dX12_letter_33
set_option maxHeartbeats 4000000 in
set_option maxRecDepth 100000 in
/-- X12_half -/
theorem c_X12_half (l : Launch) (dC : Nat → ClassId) (dI : Nat → Nat → Nat) (sz : Nat) (h : Nat) (g : Nat → Nat → Nat) (ca : Nat → Nat → ClassId) (iv : Nat → Nat → Int32) (lv : Nat → Nat → Int64) (fa : Nat → Nat → Nat → Int32) (la : Nat → Nat → Nat → Int64) (hI : IX iv fa) (a : Int32) (b : Int32) (h_a : 0 ≤ a.toInt ∧ a.toInt ≤ 2) (h_b : 0 ≤ b.toInt ∧ b.toInt ≤ 2) : Met l yX12_half (wc yX12_half cX12_half 3 none) ({ frames := 0, cells := 0, slots := 0, locals := 0 } : Room) (pW (dC, dI) classes (WM h g ca iv lv fa la) (TM ca) sz [.ref h, .int a, .int b]) (va_Qv (fun (u : SS) => ∃ (nl_12_44 : Int64) (nl_12_45 : Int64), u = (iv, (u2 (u2 lv 12 44 nl_12_44) 12 45 nl_12_45), fa, la)) (bM (dC, dI) h g ca (va_A (WM h g ca iv lv fa la) sz)) (va_A (WM h g ca iv lv fa la) sz)) 0 0 (va_A (WM h g ca iv lv fa la) sz) := by
  refine Met.ofW (cc := cX12_half) (maxL := 3) (ret := none) (by decide) rfl ?_
  intro p e s m args below meth c s₁ B hml hv
  obtain ⟨rfl, hsz, hP, hK, hD0⟩ := hv
  have hx := B.exec
  have hb := B.bytes
  have hr := B.returns
  have ht := tb_tl (atoms_spec (ws := wc yX12_half cX12_half 3 none) B.pre)
  have hown : s.vm.findClass RX12 = some m.cls := findClass_of_methodNamed B.named
  have hlocks := B.notSynchronized
  subst hsz
  have hD := hD0.self (sz := s.heap.size)
  generalize hAe : va_A (WM h g ca iv lv fa la) s.heap.size = A at hD ⊢
  have hA : ∀ q : Nat, s.heap.size ≤ q → A q := fun q h => by rw [← hAe]; exact Or.inr h
  have hS : va_S A s.heap s.heap [] := va_S.rf
  have hl := lv_entry [.ref h, .int a, .int b] (n := 3) (Nat.le_of_ble_eq_true rfl)
  rw [lg_entry_eq]
  generalize (lg_sl [.ref h, .int a, .int b] ++ List.replicate (3 - (lg_sl [.ref h, .int a, .int b]).length) Slot.unset).toArray = ls at hl ⊢
  have hl : lv_has ls 3 [(0, .ref h), (1, .int a), (2, .int b)] := hl
  refine lv_aload_n hx hb dX12_half_0 rfl (lv_at hl 0 rfl) ?_
  refine lv_aload_n hx hb dX12_half_1 rfl (lv_at hl 0 rfl) ?_
  refine gM_12_42 hx hb ht hown hK hP m_1181 dX12_half_2 ?_
  refine lv_iload_n hx hb dX12_half_5 rfl (lv_at hl 1 rfl) ?_
  refine lM_12_42 hx hb hK hP (f := (la 12 42)) rfl (vp_in_iff.mpr ⟨by omega, by omega⟩) dX12_half_6 ?_
  refine lv_topl (fun w1 ew1 => ?_)
  refine lv_aload_n hx hb dX12_half_7 rfl (lv_at hl 0 rfl) ?_
  refine gM_12_43 hx hb ht hown hK hP m_1182 dX12_half_8 ?_
  refine lv_iload_n hx hb dX12_half_11 rfl (lv_at hl 2 rfl) ?_
  refine lM_12_43 hx hb hK hP (f := (la 12 43)) rfl (vp_in_iff.mpr ⟨by omega, by omega⟩) dX12_half_12 ?_
  refine lv_topl (fun w2 ew2 => ?_)
  refine lv_lmul hx hb dX12_half_13 ?_
  refine lv_topl (fun w3 ew3 => ?_)
  refine lv_aload_n hx hb dX12_half_14 rfl (lv_at hl 0 rfl) ?_
  refine gM_12_42 hx hb ht hown hK hP m_1181 dX12_half_15 ?_
  refine lv_iload_n hx hb dX12_half_18 rfl (lv_at hl 2 rfl) ?_
  refine lM_12_42 hx hb hK hP (f := (la 12 42)) rfl (vp_in_iff.mpr ⟨by omega, by omega⟩) dX12_half_19 ?_
  refine lv_topl (fun w4 ew4 => ?_)
  refine lv_aload_n hx hb dX12_half_20 rfl (lv_at hl 0 rfl) ?_
  refine gM_12_43 hx hb ht hown hK hP m_1182 dX12_half_21 ?_
  refine lv_iload_n hx hb dX12_half_24 rfl (lv_at hl 1 rfl) ?_
  refine lM_12_43 hx hb hK hP (f := (la 12 43)) rfl (vp_in_iff.mpr ⟨by omega, by omega⟩) dX12_half_25 ?_
  refine lv_topl (fun w5 ew5 => ?_)
  refine lv_lmul hx hb dX12_half_26 ?_
  refine lv_topl (fun w6 ew6 => ?_)
  refine lv_ladd hx hb dX12_half_27 ?_
  refine lv_topl (fun w7 ew7 => ?_)
  refine pM_12_44 (v := w7) hx hb ht hown hK hP hD hS m_1183 dX12_half_28 (fun H locs hP hD hS => ?_)
  refine lv_aload_n hx hb dX12_half_31 rfl (lv_at hl 0 rfl) ?_
  refine lv_ldc2 hx hb hown (ht _ m_1390) dX12_half_32 ?_
  refine lv_aload_n hx hb dX12_half_35 rfl (lv_at hl 0 rfl) ?_
  refine gM_12_43 hx hb ht hown hK hP m_1182 dX12_half_36 ?_
  refine lv_iload_n hx hb dX12_half_39 rfl (lv_at hl 1 rfl) ?_
  refine lM_12_43 hx hb hK hP (f := (la 12 43)) rfl (vp_in_iff.mpr ⟨by omega, by omega⟩) dX12_half_40 ?_
  refine lv_topl (fun w8 ew8 => ?_)
  refine lv_lmul hx hb dX12_half_41 ?_
  refine lv_topl (fun w9 ew9 => ?_)
  refine lv_aload_n hx hb dX12_half_42 rfl (lv_at hl 0 rfl) ?_
  refine gM_12_43 hx hb ht hown hK hP m_1182 dX12_half_43 ?_
  refine lv_iload_n hx hb dX12_half_46 rfl (lv_at hl 2 rfl) ?_
  refine lM_12_43 hx hb hK hP (f := (la 12 43)) rfl (vp_in_iff.mpr ⟨by omega, by omega⟩) dX12_half_47 ?_
  refine lv_topl (fun w10 ew10 => ?_)
  refine lv_lmul hx hb dX12_half_48 ?_
  refine lv_topl (fun w11 ew11 => ?_)
  refine pM_12_45 (v := w11) hx hb ht hown hK hP hD hS m_1184 dX12_half_49 (fun H locs hP hD hS => ?_)
  have hP9 : va_P (dC, dI) classes (WM h g ca iv (u2 (u2 lv 12 44 w7) 12 45 w11) fa la) H := hP
  have hD9 : va_D A (WM h g ca iv (u2 (u2 lv 12 44 w7) 12 45 w11) fa la) := hD
  exact W.vret hx hb hr (fun t ht9 hW => ⟨⟨(iv, (u2 (u2 lv 12 44 w7) 12 45 w11), fa, la), rfl, ⟨w7, w11, rfl⟩, by rw [ht9]; exact hP9, hD9⟩, hS.F ht9⟩) hS.2.2 dX12_half_52
set_option maxHeartbeats 4000000 in
set_option maxRecDepth 100000 in
/-- X12_only -/
theorem c_X12_only (l : Launch) (dC : Nat → ClassId) (dI : Nat → Nat → Nat) (sz : Nat) (h : Nat) (g : Nat → Nat → Nat) (ca : Nat → Nat → ClassId) (iv : Nat → Nat → Int32) (lv : Nat → Nat → Int64) (fa : Nat → Nat → Nat → Int32) (la : Nat → Nat → Nat → Int64) (hI : IX iv fa) (a : Int32) (h_a : 0 ≤ a.toInt ∧ a.toInt ≤ 2) : Met l yX12_only (wc yX12_only cX12_only 2 none) ({ frames := 0, cells := 0, slots := 0, locals := 0 } : Room) (pW (dC, dI) classes (WM h g ca iv lv fa la) (TM ca) sz [.ref h, .int a]) (va_Qv (fun (u : SS) => ∃ (nl_12_44 : Int64) (nl_12_45 : Int64), u = (iv, (u2 (u2 lv 12 44 nl_12_44) 12 45 nl_12_45), fa, la)) (bM (dC, dI) h g ca (va_A (WM h g ca iv lv fa la) sz)) (va_A (WM h g ca iv lv fa la) sz)) 0 0 (va_A (WM h g ca iv lv fa la) sz) := by
  refine Met.ofW (cc := cX12_only) (maxL := 2) (ret := none) (by decide) rfl ?_
  intro p e s m args below meth c s₁ B hml hv
  obtain ⟨rfl, hsz, hP, hK, hD0⟩ := hv
  have hx := B.exec
  have hb := B.bytes
  have hr := B.returns
  have ht := tb_tl (atoms_spec (ws := wc yX12_only cX12_only 2 none) B.pre)
  have hown : s.vm.findClass RX12 = some m.cls := findClass_of_methodNamed B.named
  have hlocks := B.notSynchronized
  subst hsz
  have hD := hD0.self (sz := s.heap.size)
  generalize hAe : va_A (WM h g ca iv lv fa la) s.heap.size = A at hD ⊢
  have hA : ∀ q : Nat, s.heap.size ≤ q → A q := fun q h => by rw [← hAe]; exact Or.inr h
  have hS : va_S A s.heap s.heap [] := va_S.rf
  have hl := lv_entry [.ref h, .int a] (n := 2) (Nat.le_of_ble_eq_true rfl)
  rw [lg_entry_eq]
  generalize (lg_sl [.ref h, .int a] ++ List.replicate (2 - (lg_sl [.ref h, .int a]).length) Slot.unset).toArray = ls at hl ⊢
  have hl : lv_has ls 2 [(0, .ref h), (1, .int a)] := hl
  refine lv_aload_n hx hb dX12_only_0 rfl (lv_at hl 0 rfl) ?_
  refine lv_aload_n hx hb dX12_only_1 rfl (lv_at hl 0 rfl) ?_
  refine gM_12_42 hx hb ht hown hK hP m_1181 dX12_only_2 ?_
  refine lv_iload_n hx hb dX12_only_5 rfl (lv_at hl 1 rfl) ?_
  refine lM_12_42 hx hb hK hP (f := (la 12 42)) rfl (vp_in_iff.mpr ⟨by omega, by omega⟩) dX12_only_6 ?_
  refine lv_topl (fun w1 ew1 => ?_)
  refine pM_12_44 (v := w1) hx hb ht hown hK hP hD hS m_1183 dX12_only_7 (fun H locs hP hD hS => ?_)
  refine lv_aload_n hx hb dX12_only_10 rfl (lv_at hl 0 rfl) ?_
  refine lv_aload_n hx hb dX12_only_11 rfl (lv_at hl 0 rfl) ?_
  refine gM_12_43 hx hb ht hown hK hP m_1182 dX12_only_12 ?_
  refine lv_iload_n hx hb dX12_only_15 rfl (lv_at hl 1 rfl) ?_
  refine lM_12_43 hx hb hK hP (f := (la 12 43)) rfl (vp_in_iff.mpr ⟨by omega, by omega⟩) dX12_only_16 ?_
  refine lv_topl (fun w2 ew2 => ?_)
  refine pM_12_45 (v := w2) hx hb ht hown hK hP hD hS m_1184 dX12_only_17 (fun H locs hP hD hS => ?_)
  have hP9 : va_P (dC, dI) classes (WM h g ca iv (u2 (u2 lv 12 44 w1) 12 45 w2) fa la) H := hP
  have hD9 : va_D A (WM h g ca iv (u2 (u2 lv 12 44 w1) 12 45 w2) fa la) := hD
  exact W.vret hx hb hr (fun t ht9 hW => ⟨⟨(iv, (u2 (u2 lv 12 44 w1) 12 45 w2), fa, la), rfl, ⟨w1, w2, rfl⟩, by rw [ht9]; exact hP9, hD9⟩, hS.F ht9⟩) hS.2.2 dX12_only_20
set_option maxHeartbeats 4000000 in
set_option maxRecDepth 100000 in
/-- X12_isLess -/
theorem c_X12_isLess (l : Launch) (dC : Nat → ClassId) (dI : Nat → Nat → Nat) (h : Nat) (g : Nat → Nat → Nat) (ca : Nat → Nat → ClassId) (iv : Nat → Nat → Int32) (lv : Nat → Nat → Int64) (fa : Nat → Nat → Nat → Int32) (la : Nat → Nat → Nat → Int64) (hI : IX iv fa) (a : Int32) (b : Int32) (h_a : 0 ≤ a.toInt ∧ a.toInt ≤ 2) (h_b : 0 ≤ b.toInt ∧ b.toInt ≤ 2) : Met l yX12_isLess (wc yX12_isLess cX12_isLess 3 (some .boolean)) ({ frames := 0, cells := 0, slots := 0, locals := 0 } : Room) (pR (dC, dI) classes (WM h g ca iv lv fa la) (TM ca) [.ref h, .int a, .int b]) (vp_Si (fun r => 0 ≤ r.toInt ∧ r.toInt ≤ 1)) 0 0 (fun _ => False) := by
  refine Met.ofW (cc := cX12_isLess) (maxL := 3) (ret := (some .boolean)) (by decide) rfl ?_
  intro p e s m args below meth c s₁ B hml hv
  obtain ⟨rfl, hP, hK⟩ := hv
  have hx := B.exec
  have hb := B.bytes
  have hr := B.returns
  have ht := tb_tl (atoms_spec (ws := wc yX12_isLess cX12_isLess 3 (some .boolean)) B.pre)
  have hown : s.vm.findClass RX12 = some m.cls := findClass_of_methodNamed B.named
  have hlocks := B.notSynchronized
  have hl := lv_entry [.ref h, .int a, .int b] (n := 3) (Nat.le_of_ble_eq_true rfl)
  rw [lg_entry_eq]
  generalize (lg_sl [.ref h, .int a, .int b] ++ List.replicate (3 - (lg_sl [.ref h, .int a, .int b]).length) Slot.unset).toArray = ls at hl ⊢
  have hl : lv_has ls 3 [(0, .ref h), (1, .int a), (2, .int b)] := hl
  refine lv_aload_n hx hb dX12_isLess_0 rfl (lv_at hl 0 rfl) ?_
  refine gM_12_42 hx hb ht hown hK hP m_1181 dX12_isLess_1 ?_
  refine lv_iload_n hx hb dX12_isLess_4 rfl (lv_at hl 1 rfl) ?_
  refine lM_12_42 hx hb hK hP (f := (la 12 42)) rfl (vp_in_iff.mpr ⟨by omega, by omega⟩) dX12_isLess_5 ?_
  refine lv_topl (fun w1 ew1 => ?_)
  refine lv_aload_n hx hb dX12_isLess_6 rfl (lv_at hl 0 rfl) ?_
  refine gM_12_43 hx hb ht hown hK hP m_1182 dX12_isLess_7 ?_
  refine lv_iload_n hx hb dX12_isLess_10 rfl (lv_at hl 2 rfl) ?_
  refine lM_12_43 hx hb hK hP (f := (la 12 43)) rfl (vp_in_iff.mpr ⟨by omega, by omega⟩) dX12_isLess_11 ?_
  refine lv_topl (fun w2 ew2 => ?_)
  refine lv_lmul hx hb dX12_isLess_12 ?_
  refine lv_topl (fun w3 ew3 => ?_)
  refine lv_aload_n hx hb dX12_isLess_13 rfl (lv_at hl 0 rfl) ?_
  refine gM_12_42 hx hb ht hown hK hP m_1181 dX12_isLess_14 ?_
  refine lv_iload_n hx hb dX12_isLess_17 rfl (lv_at hl 2 rfl) ?_
  refine lM_12_42 hx hb hK hP (f := (la 12 42)) rfl (vp_in_iff.mpr ⟨by omega, by omega⟩) dX12_isLess_18 ?_
  refine lv_topl (fun w4 ew4 => ?_)
  refine lv_aload_n hx hb dX12_isLess_19 rfl (lv_at hl 0 rfl) ?_
  refine gM_12_43 hx hb ht hown hK hP m_1182 dX12_isLess_20 ?_
  refine lv_iload_n hx hb dX12_isLess_23 rfl (lv_at hl 1 rfl) ?_
  refine lM_12_43 hx hb hK hP (f := (la 12 43)) rfl (vp_in_iff.mpr ⟨by omega, by omega⟩) dX12_isLess_24 ?_
  refine lv_topl (fun w5 ew5 => ?_)
  refine lv_lmul hx hb dX12_isLess_25 ?_
  refine lv_topl (fun w6 ew6 => ?_)
  refine W.lcmp hx hb dX12_isLess_26 ?_
  refine lv_topi (fun v7 ev7 => ?_)
  refine lv_if_ge (tgt := 34) hx hb dX12_isLess_27 (by decide) (fun c8 => ?_) (fun c8 => ?_)
  · have fc8 := zc_nlt ev7 (rfl : (w3).toInt = _) (rfl : (w6).toInt = _) (Int32.not_lt.mpr c8)
    refine lv_iconst (v := 0) hx hb dX12_isLess_34 (by decide) ?_
    exact W.zret (v := 0) hx hb hr rfl (fun t ht9 hW => ⟨0, rfl, ⟨by decide, by decide⟩, ht9⟩) (fun q hq => by cases hq) dX12_isLess_35
  · have fc8 := zc_lt ev7 (rfl : (w3).toInt = _) (rfl : (w6).toInt = _) (Int32.not_le.mp c8)
    refine lv_iconst (v := 1) hx hb dX12_isLess_30 (by decide) ?_
    refine lv_goto (tgt := 35) hx hb dX12_isLess_31 (by decide) ?_
    exact W.zret (v := 1) hx hb hr rfl (fun t ht9 hW => ⟨1, rfl, ⟨by decide, by decide⟩, ht9⟩) (fun q hq => by cases hq) dX12_isLess_35
set_option maxHeartbeats 4000000 in
set_option maxRecDepth 100000 in
/-- X12_settleThree -/
theorem c_X12_settleThree (l : Launch) (dC : Nat → ClassId) (dI : Nat → Nat → Nat) (sz : Nat) (h : Nat) (g : Nat → Nat → Nat) (ca : Nat → Nat → ClassId) (iv : Nat → Nat → Int32) (lv : Nat → Nat → Int64) (fa : Nat → Nat → Nat → Int32) (la : Nat → Nat → Nat → Int64) (hI : IX iv fa) (a : Int32) : Met l yX12_settleThree (wc yX12_settleThree cX12_settleThree 14 none) ({ frames := 1, cells := 0, slots := 0, locals := 22 } : Room) (pW (dC, dI) classes (WM h g ca iv lv fa la) (TM ca) sz [.ref h, .int a]) (va_Qv (fun (u : SS) => ∃ (nl_12_44 : Int64) (nl_12_45 : Int64), u = (iv, (u2 (u2 lv 12 44 nl_12_44) 12 45 nl_12_45), fa, la)) (bM (dC, dI) h g ca (va_A (WM h g ca iv lv fa la) sz)) (va_A (WM h g ca iv lv fa la) sz)) 0 0 (va_A (WM h g ca iv lv fa la) sz) := by
  refine Met.ofW (cc := cX12_settleThree) (maxL := 14) (ret := none) (by decide) rfl ?_
  intro p e s m args below meth c s₁ B hml hv
  obtain ⟨rfl, hsz, hP, hK, hD0⟩ := hv
  have hx := B.exec
  have hb := B.bytes
  have hr := B.returns
  have ht := tb_tl (atoms_spec (ws := wc yX12_settleThree cX12_settleThree 14 none) B.pre)
  have hown : s.vm.findClass RX12 = some m.cls := findClass_of_methodNamed B.named
  have hlocks := B.notSynchronized
  subst hsz
  have hD := hD0.self (sz := s.heap.size)
  generalize hAe : va_A (WM h g ca iv lv fa la) s.heap.size = A at hD ⊢
  have hA : ∀ q : Nat, s.heap.size ≤ q → A q := fun q h => by rw [← hAe]; exact Or.inr h
  have hS : va_S A s.heap s.heap [] := va_S.rf
  have hl := lv_entry [.ref h, .int a] (n := 14) (Nat.le_of_ble_eq_true rfl)
  rw [lg_entry_eq]
  generalize (lg_sl [.ref h, .int a] ++ List.replicate (14 - (lg_sl [.ref h, .int a]).length) Slot.unset).toArray = ls at hl ⊢
  have hl : lv_has ls 14 [(0, .ref h), (1, .int a)] := hl
  refine lv_aload_n hx hb dX12_settleThree_0 rfl (lv_at hl 0 rfl) ?_
  refine gM_12_42 hx hb ht hown hK hP m_1181 dX12_settleThree_1 ?_
  refine lv_iconst (v := 0) hx hb dX12_settleThree_4 (by decide) ?_
  refine lM_12_42 hx hb hK hP (f := (la 12 42)) rfl (vp_in_iff.mpr (by decide)) dX12_settleThree_5 ?_
  refine lv_topl (fun w1 ew1 => ?_)
  refine lv_aload_n hx hb dX12_settleThree_6 rfl (lv_at hl 0 rfl) ?_
  refine gM_12_43 hx hb ht hown hK hP m_1182 dX12_settleThree_7 ?_
  refine lv_iconst (v := 1) hx hb dX12_settleThree_10 (by decide) ?_
  refine lM_12_43 hx hb hK hP (f := (la 12 43)) rfl (vp_in_iff.mpr (by decide)) dX12_settleThree_11 ?_
  refine lv_topl (fun w2 ew2 => ?_)
  refine lv_lmul hx hb dX12_settleThree_12 ?_
  refine lv_topl (fun w3 ew3 => ?_)
  refine lv_aload_n hx hb dX12_settleThree_13 rfl (lv_at hl 0 rfl) ?_
  refine gM_12_43 hx hb ht hown hK hP m_1182 dX12_settleThree_14 ?_
  refine lv_iconst (v := 2) hx hb dX12_settleThree_17 (by decide) ?_
  refine lM_12_43 hx hb hK hP (f := (la 12 43)) rfl (vp_in_iff.mpr (by decide)) dX12_settleThree_18 ?_
  refine lv_topl (fun w4 ew4 => ?_)
  refine lv_lmul hx hb dX12_settleThree_19 ?_
  refine lv_topl (fun w5 ew5 => ?_)
  refine lv_lstore_n (lv' := [(2, .long w5), (0, .ref h), (1, .int a)]) hx hb dX12_settleThree_20 rfl hl (by decide) rfl (fun ls hl => ?_)
  refine lv_aload_n hx hb dX12_settleThree_21 rfl (lv_at hl 1 rfl) ?_
  refine gM_12_42 hx hb ht hown hK hP m_1181 dX12_settleThree_22 ?_
  refine lv_iconst (v := 1) hx hb dX12_settleThree_25 (by decide) ?_
  refine lM_12_42 hx hb hK hP (f := (la 12 42)) rfl (vp_in_iff.mpr (by decide)) dX12_settleThree_26 ?_
  refine lv_topl (fun w6 ew6 => ?_)
  refine lv_aload_n hx hb dX12_settleThree_27 rfl (lv_at hl 1 rfl) ?_
  refine gM_12_43 hx hb ht hown hK hP m_1182 dX12_settleThree_28 ?_
  refine lv_iconst (v := 0) hx hb dX12_settleThree_31 (by decide) ?_
  refine lM_12_43 hx hb hK hP (f := (la 12 43)) rfl (vp_in_iff.mpr (by decide)) dX12_settleThree_32 ?_
  refine lv_topl (fun w7 ew7 => ?_)
  refine lv_lmul hx hb dX12_settleThree_33 ?_
  refine lv_topl (fun w8 ew8 => ?_)
  refine lv_aload_n hx hb dX12_settleThree_34 rfl (lv_at hl 1 rfl) ?_
  refine gM_12_43 hx hb ht hown hK hP m_1182 dX12_settleThree_35 ?_
  refine lv_iconst (v := 2) hx hb dX12_settleThree_38 (by decide) ?_
  refine lM_12_43 hx hb hK hP (f := (la 12 43)) rfl (vp_in_iff.mpr (by decide)) dX12_settleThree_39 ?_
  refine lv_topl (fun w9 ew9 => ?_)
  refine lv_lmul hx hb dX12_settleThree_40 ?_
  refine lv_topl (fun w10 ew10 => ?_)
  refine lv_lstore (lv' := [(4, .long w10), (2, .long w5), (0, .ref h), (1, .int a)]) hx hb dX12_settleThree_41 hl (by decide) rfl (fun ls hl => ?_)
  refine lv_aload_n hx hb dX12_settleThree_43 rfl (lv_at hl 2 rfl) ?_
  refine gM_12_42 hx hb ht hown hK hP m_1181 dX12_settleThree_44 ?_
  refine lv_iconst (v := 2) hx hb dX12_settleThree_47 (by decide) ?_
  refine lM_12_42 hx hb hK hP (f := (la 12 42)) rfl (vp_in_iff.mpr (by decide)) dX12_settleThree_48 ?_
  refine lv_topl (fun w11 ew11 => ?_)
  refine lv_aload_n hx hb dX12_settleThree_49 rfl (lv_at hl 2 rfl) ?_
  refine gM_12_43 hx hb ht hown hK hP m_1182 dX12_settleThree_50 ?_
  refine lv_iconst (v := 0) hx hb dX12_settleThree_53 (by decide) ?_
  refine lM_12_43 hx hb hK hP (f := (la 12 43)) rfl (vp_in_iff.mpr (by decide)) dX12_settleThree_54 ?_
  refine lv_topl (fun w12 ew12 => ?_)
  refine lv_lmul hx hb dX12_settleThree_55 ?_
  refine lv_topl (fun w13 ew13 => ?_)
  refine lv_aload_n hx hb dX12_settleThree_56 rfl (lv_at hl 2 rfl) ?_
  refine gM_12_43 hx hb ht hown hK hP m_1182 dX12_settleThree_57 ?_
  refine lv_iconst (v := 1) hx hb dX12_settleThree_60 (by decide) ?_
  refine lM_12_43 hx hb hK hP (f := (la 12 43)) rfl (vp_in_iff.mpr (by decide)) dX12_settleThree_61 ?_
  refine lv_topl (fun w14 ew14 => ?_)
  refine lv_lmul hx hb dX12_settleThree_62 ?_
  refine lv_topl (fun w15 ew15 => ?_)
  refine lv_lstore (lv' := [(6, .long w15), (4, .long w10), (2, .long w5), (0, .ref h), (1, .int a)]) hx hb dX12_settleThree_63 hl (by decide) rfl (fun ls hl => ?_)
  refine lv_iload_n hx hb dX12_settleThree_65 rfl (lv_at hl 4 rfl) ?_
  refine lv_if_ne (tgt := 148) hx hb dX12_settleThree_66 (by decide) (fun c16 => ?_) (fun c16 => ?_)
  · have fc16 := z_ne (rfl : (a).toInt = _) (by decide : (0 : Int32).toInt = 0) c16
    refine lv_iload_n hx hb dX12_settleThree_148 rfl (lv_at hl 4 rfl) ?_
    refine lv_iconst (v := 1) hx hb dX12_settleThree_149 (by decide) ?_
    refine lv_icmp_ne (tgt := 191) hx hb dX12_settleThree_150 (by decide) (fun c17 => ?_) (fun c17 => ?_)
    · have fc17 := z_ne (rfl : (a).toInt = _) (by decide : (1 : Int32).toInt = 1) c17
      refine lv_aload_n hx hb dX12_settleThree_191 rfl (lv_at hl 3 rfl) ?_
      refine lv_lload_n hx hb dX12_settleThree_192 rfl (lv_at hl 2 rfl) ?_
      refine lv_lload hx hb dX12_settleThree_193 (lv_at hl 1 rfl) ?_
      refine W.lcmp hx hb dX12_settleThree_195 ?_
      refine lv_topi (fun v18 ev18 => ?_)
      refine lv_if_gt (tgt := 203) hx hb dX12_settleThree_196 (by decide) (fun c19 => ?_) (fun c19 => ?_)
      · have fc19 := zc_gt ev18 (rfl : (w5).toInt = _) (rfl : (w10).toInt = _) c19
        refine lv_iconst (v := 0) hx hb dX12_settleThree_203 (by decide) ?_
        refine lv_lload hx hb dX12_settleThree_204 (lv_at hl 1 rfl) ?_
        refine lv_lload hx hb dX12_settleThree_206 (lv_at hl 0 rfl) ?_
        refine W.lcmp hx hb dX12_settleThree_208 ?_
        refine lv_topi (fun v20 ev20 => ?_)
        refine lv_if_gt (tgt := 216) hx hb dX12_settleThree_209 (by decide) (fun c21 => ?_) (fun c21 => ?_)
        · have fc21 := zc_gt ev20 (rfl : (w10).toInt = _) (rfl : (w15).toInt = _) c21
          refine lv_iconst (v := 0) hx hb dX12_settleThree_216 (by decide) ?_
          refine lv_icmp_ne (tgt := 224) hx hb dX12_settleThree_217 (by decide) (fun c22 => ?_) (fun c22 => ?_)
          · exact absurd rfl c22
          · skip
            refine lv_iconst (v := 1) hx hb dX12_settleThree_220 (by decide) ?_
            refine lv_goto (tgt := 256) hx hb dX12_settleThree_221 (by decide) ?_
            have hFc := free_all hD hS hA
            refine va_callv (va_runV (As := [.int 1]) (rest := []) ⟨hx, hb, hml, hown, ht⟩ (c_X12_only l dC dI s.heap.size h g ca iv lv fa la hI 1 ⟨by decide, by decide⟩) (kV 1 ht m_1536 m_1538 m_59 m_89 m_1539 rfl rfl hd_X12_only_v ⟨Nat.le_of_ble_eq_true rfl, Nat.le_of_ble_eq_true rfl⟩) (vW hP hK hD (rM_12 hK hP)) rfl rfl hl.1 rfl (lv_room (Nat.le_of_ble_eq_true rfl)) dX12_settleThree_256 ⟨Nat.le_of_ble_eq_true rfl, Nat.le_of_ble_eq_true rfl⟩) hS (fun q _ h => hFc q h) hFc (fun u t H1 locs ht9 hvm hr23 hB hz1 hk1 hS => ?_)
            obtain ⟨n24, n25, rfl⟩ := hr23
            obtain ⟨hP, hD⟩ := hB
            rw [ht9] at hP
            generalize H1 = H at hP hS ⊢
            have hP : va_P (dC, dI) classes (WM h g ca iv (u2 (u2 lv 12 44 n24) 12 45 n25) fa la) H := hP
            have hD : va_D A (WM h g ca iv (u2 (u2 lv 12 44 n24) 12 45 n25) fa la) := (show va_D _ (WM h g ca iv (u2 (u2 lv 12 44 n24) 12 45 n25) fa la) from hD).weaken (fun _ _ _ h => hFc _ h)
            have hP9 : va_P (dC, dI) classes (WM h g ca iv (u2 (u2 lv 12 44 n24) 12 45 n25) fa la) H := hP
            have hD9 : va_D A (WM h g ca iv (u2 (u2 lv 12 44 n24) 12 45 n25) fa la) := hD
            exact W.vret hx hb hr (fun t ht9 hW => ⟨⟨(iv, (u2 (u2 lv 12 44 n24) 12 45 n25), fa, la), rfl, ⟨n24, n25, rfl⟩, by rw [ht9]; exact hP9, hD9⟩, hS.F ht9⟩) hS.2.2 dX12_settleThree_259
        · have fc21 := zc_ngt ev20 (rfl : (w10).toInt = _) (rfl : (w15).toInt = _) c21
          refine lv_iconst (v := 1) hx hb dX12_settleThree_212 (by decide) ?_
          refine lv_goto (tgt := 217) hx hb dX12_settleThree_213 (by decide) ?_
          refine lv_icmp_ne (tgt := 224) hx hb dX12_settleThree_217 (by decide) (fun c26 => ?_) (fun c26 => ?_)
          · skip
            refine lv_lload hx hb dX12_settleThree_224 (lv_at hl 1 rfl) ?_
            refine lv_lload_n hx hb dX12_settleThree_226 rfl (lv_at hl 2 rfl) ?_
            refine W.lcmp hx hb dX12_settleThree_227 ?_
            refine lv_topi (fun v27 ev27 => ?_)
            refine lv_if_gt (tgt := 235) hx hb dX12_settleThree_228 (by decide) (fun c28 => ?_) (fun c28 => ?_)
            · have fc28 := zc_gt ev27 (rfl : (w10).toInt = _) (rfl : (w5).toInt = _) c28
              refine lv_iconst (v := 0) hx hb dX12_settleThree_235 (by decide) ?_
              refine lv_lload_n hx hb dX12_settleThree_236 rfl (lv_at hl 2 rfl) ?_
              refine lv_lload hx hb dX12_settleThree_237 (lv_at hl 0 rfl) ?_
              refine W.lcmp hx hb dX12_settleThree_239 ?_
              refine lv_topi (fun v29 ev29 => ?_)
              refine lv_if_gt (tgt := 247) hx hb dX12_settleThree_240 (by decide) (fun c30 => ?_) (fun c30 => ?_)
              · have fc30 := zc_gt ev29 (rfl : (w5).toInt = _) (rfl : (w15).toInt = _) c30
                refine lv_iconst (v := 0) hx hb dX12_settleThree_247 (by decide) ?_
                refine lv_icmp_ne (tgt := 255) hx hb dX12_settleThree_248 (by decide) (fun c31 => ?_) (fun c31 => ?_)
                · exact absurd rfl c31
                · skip
                  refine lv_iconst (v := 0) hx hb dX12_settleThree_251 (by decide) ?_
                  refine lv_goto (tgt := 256) hx hb dX12_settleThree_252 (by decide) ?_
                  have hFc := free_all hD hS hA
                  refine va_callv (va_runV (As := [.int 0]) (rest := []) ⟨hx, hb, hml, hown, ht⟩ (c_X12_only l dC dI s.heap.size h g ca iv lv fa la hI 0 ⟨by decide, by decide⟩) (kV 1 ht m_1536 m_1538 m_59 m_89 m_1539 rfl rfl hd_X12_only_v ⟨Nat.le_of_ble_eq_true rfl, Nat.le_of_ble_eq_true rfl⟩) (vW hP hK hD (rM_12 hK hP)) rfl rfl hl.1 rfl (lv_room (Nat.le_of_ble_eq_true rfl)) dX12_settleThree_256 ⟨Nat.le_of_ble_eq_true rfl, Nat.le_of_ble_eq_true rfl⟩) hS (fun q _ h => hFc q h) hFc (fun u t H1 locs ht9 hvm hr32 hB hz1 hk1 hS => ?_)
                  obtain ⟨n33, n34, rfl⟩ := hr32
                  obtain ⟨hP, hD⟩ := hB
                  rw [ht9] at hP
                  generalize H1 = H at hP hS ⊢
                  have hP : va_P (dC, dI) classes (WM h g ca iv (u2 (u2 lv 12 44 n33) 12 45 n34) fa la) H := hP
                  have hD : va_D A (WM h g ca iv (u2 (u2 lv 12 44 n33) 12 45 n34) fa la) := (show va_D _ (WM h g ca iv (u2 (u2 lv 12 44 n33) 12 45 n34) fa la) from hD).weaken (fun _ _ _ h => hFc _ h)
                  have hP9 : va_P (dC, dI) classes (WM h g ca iv (u2 (u2 lv 12 44 n33) 12 45 n34) fa la) H := hP
                  have hD9 : va_D A (WM h g ca iv (u2 (u2 lv 12 44 n33) 12 45 n34) fa la) := hD
                  exact W.vret hx hb hr (fun t ht9 hW => ⟨⟨(iv, (u2 (u2 lv 12 44 n33) 12 45 n34), fa, la), rfl, ⟨n33, n34, rfl⟩, by rw [ht9]; exact hP9, hD9⟩, hS.F ht9⟩) hS.2.2 dX12_settleThree_259
              · have fc30 := zc_ngt ev29 (rfl : (w5).toInt = _) (rfl : (w15).toInt = _) c30
                refine lv_iconst (v := 1) hx hb dX12_settleThree_243 (by decide) ?_
                refine lv_goto (tgt := 248) hx hb dX12_settleThree_244 (by decide) ?_
                refine lv_icmp_ne (tgt := 255) hx hb dX12_settleThree_248 (by decide) (fun c35 => ?_) (fun c35 => ?_)
                · skip
                  refine lv_iconst (v := 2) hx hb dX12_settleThree_255 (by decide) ?_
                  have hFc := free_all hD hS hA
                  refine va_callv (va_runV (As := [.int 2]) (rest := []) ⟨hx, hb, hml, hown, ht⟩ (c_X12_only l dC dI s.heap.size h g ca iv lv fa la hI 2 ⟨by decide, by decide⟩) (kV 1 ht m_1536 m_1538 m_59 m_89 m_1539 rfl rfl hd_X12_only_v ⟨Nat.le_of_ble_eq_true rfl, Nat.le_of_ble_eq_true rfl⟩) (vW hP hK hD (rM_12 hK hP)) rfl rfl hl.1 rfl (lv_room (Nat.le_of_ble_eq_true rfl)) dX12_settleThree_256 ⟨Nat.le_of_ble_eq_true rfl, Nat.le_of_ble_eq_true rfl⟩) hS (fun q _ h => hFc q h) hFc (fun u t H1 locs ht9 hvm hr36 hB hz1 hk1 hS => ?_)
                  obtain ⟨n37, n38, rfl⟩ := hr36
                  obtain ⟨hP, hD⟩ := hB
                  rw [ht9] at hP
                  generalize H1 = H at hP hS ⊢
                  have hP : va_P (dC, dI) classes (WM h g ca iv (u2 (u2 lv 12 44 n37) 12 45 n38) fa la) H := hP
                  have hD : va_D A (WM h g ca iv (u2 (u2 lv 12 44 n37) 12 45 n38) fa la) := (show va_D _ (WM h g ca iv (u2 (u2 lv 12 44 n37) 12 45 n38) fa la) from hD).weaken (fun _ _ _ h => hFc _ h)
                  have hP9 : va_P (dC, dI) classes (WM h g ca iv (u2 (u2 lv 12 44 n37) 12 45 n38) fa la) H := hP
                  have hD9 : va_D A (WM h g ca iv (u2 (u2 lv 12 44 n37) 12 45 n38) fa la) := hD
                  exact W.vret hx hb hr (fun t ht9 hW => ⟨⟨(iv, (u2 (u2 lv 12 44 n37) 12 45 n38), fa, la), rfl, ⟨n37, n38, rfl⟩, by rw [ht9]; exact hP9, hD9⟩, hS.F ht9⟩) hS.2.2 dX12_settleThree_259
                · exact absurd c35 (by decide)
            · have fc28 := zc_ngt ev27 (rfl : (w10).toInt = _) (rfl : (w5).toInt = _) c28
              refine lv_iconst (v := 1) hx hb dX12_settleThree_231 (by decide) ?_
              refine lv_goto (tgt := 236) hx hb dX12_settleThree_232 (by decide) ?_
              refine lv_lload_n hx hb dX12_settleThree_236 rfl (lv_at hl 2 rfl) ?_
              refine lv_lload hx hb dX12_settleThree_237 (lv_at hl 0 rfl) ?_
              refine W.lcmp hx hb dX12_settleThree_239 ?_
              refine lv_topi (fun v39 ev39 => ?_)
              refine lv_if_gt (tgt := 247) hx hb dX12_settleThree_240 (by decide) (fun c40 => ?_) (fun c40 => ?_)
              · have fc40 := zc_gt ev39 (rfl : (w5).toInt = _) (rfl : (w15).toInt = _) c40
                refine lv_iconst (v := 0) hx hb dX12_settleThree_247 (by decide) ?_
                refine lv_icmp_ne (tgt := 255) hx hb dX12_settleThree_248 (by decide) (fun c41 => ?_) (fun c41 => ?_)
                · skip
                  refine lv_iconst (v := 2) hx hb dX12_settleThree_255 (by decide) ?_
                  have hFc := free_all hD hS hA
                  refine va_callv (va_runV (As := [.int 2]) (rest := []) ⟨hx, hb, hml, hown, ht⟩ (c_X12_only l dC dI s.heap.size h g ca iv lv fa la hI 2 ⟨by decide, by decide⟩) (kV 1 ht m_1536 m_1538 m_59 m_89 m_1539 rfl rfl hd_X12_only_v ⟨Nat.le_of_ble_eq_true rfl, Nat.le_of_ble_eq_true rfl⟩) (vW hP hK hD (rM_12 hK hP)) rfl rfl hl.1 rfl (lv_room (Nat.le_of_ble_eq_true rfl)) dX12_settleThree_256 ⟨Nat.le_of_ble_eq_true rfl, Nat.le_of_ble_eq_true rfl⟩) hS (fun q _ h => hFc q h) hFc (fun u t H1 locs ht9 hvm hr42 hB hz1 hk1 hS => ?_)
                  obtain ⟨n43, n44, rfl⟩ := hr42
                  obtain ⟨hP, hD⟩ := hB
                  rw [ht9] at hP
                  generalize H1 = H at hP hS ⊢
                  have hP : va_P (dC, dI) classes (WM h g ca iv (u2 (u2 lv 12 44 n43) 12 45 n44) fa la) H := hP
                  have hD : va_D A (WM h g ca iv (u2 (u2 lv 12 44 n43) 12 45 n44) fa la) := (show va_D _ (WM h g ca iv (u2 (u2 lv 12 44 n43) 12 45 n44) fa la) from hD).weaken (fun _ _ _ h => hFc _ h)
                  have hP9 : va_P (dC, dI) classes (WM h g ca iv (u2 (u2 lv 12 44 n43) 12 45 n44) fa la) H := hP
                  have hD9 : va_D A (WM h g ca iv (u2 (u2 lv 12 44 n43) 12 45 n44) fa la) := hD
                  exact W.vret hx hb hr (fun t ht9 hW => ⟨⟨(iv, (u2 (u2 lv 12 44 n43) 12 45 n44), fa, la), rfl, ⟨n43, n44, rfl⟩, by rw [ht9]; exact hP9, hD9⟩, hS.F ht9⟩) hS.2.2 dX12_settleThree_259
                · exact absurd c41 (by decide)
              · have fc40 := zc_ngt ev39 (rfl : (w5).toInt = _) (rfl : (w15).toInt = _) c40
                refine lv_iconst (v := 1) hx hb dX12_settleThree_243 (by decide) ?_
                refine lv_goto (tgt := 248) hx hb dX12_settleThree_244 (by decide) ?_
                refine lv_icmp_ne (tgt := 255) hx hb dX12_settleThree_248 (by decide) (fun c45 => ?_) (fun c45 => ?_)
                · exact absurd rfl c45
                · skip
                  refine lv_iconst (v := 0) hx hb dX12_settleThree_251 (by decide) ?_
                  refine lv_goto (tgt := 256) hx hb dX12_settleThree_252 (by decide) ?_
                  have hFc := free_all hD hS hA
                  refine va_callv (va_runV (As := [.int 0]) (rest := []) ⟨hx, hb, hml, hown, ht⟩ (c_X12_only l dC dI s.heap.size h g ca iv lv fa la hI 0 ⟨by decide, by decide⟩) (kV 1 ht m_1536 m_1538 m_59 m_89 m_1539 rfl rfl hd_X12_only_v ⟨Nat.le_of_ble_eq_true rfl, Nat.le_of_ble_eq_true rfl⟩) (vW hP hK hD (rM_12 hK hP)) rfl rfl hl.1 rfl (lv_room (Nat.le_of_ble_eq_true rfl)) dX12_settleThree_256 ⟨Nat.le_of_ble_eq_true rfl, Nat.le_of_ble_eq_true rfl⟩) hS (fun q _ h => hFc q h) hFc (fun u t H1 locs ht9 hvm hr46 hB hz1 hk1 hS => ?_)
                  obtain ⟨n47, n48, rfl⟩ := hr46
                  obtain ⟨hP, hD⟩ := hB
                  rw [ht9] at hP
                  generalize H1 = H at hP hS ⊢
                  have hP : va_P (dC, dI) classes (WM h g ca iv (u2 (u2 lv 12 44 n47) 12 45 n48) fa la) H := hP
                  have hD : va_D A (WM h g ca iv (u2 (u2 lv 12 44 n47) 12 45 n48) fa la) := (show va_D _ (WM h g ca iv (u2 (u2 lv 12 44 n47) 12 45 n48) fa la) from hD).weaken (fun _ _ _ h => hFc _ h)
                  have hP9 : va_P (dC, dI) classes (WM h g ca iv (u2 (u2 lv 12 44 n47) 12 45 n48) fa la) H := hP
                  have hD9 : va_D A (WM h g ca iv (u2 (u2 lv 12 44 n47) 12 45 n48) fa la) := hD
                  exact W.vret hx hb hr (fun t ht9 hW => ⟨⟨(iv, (u2 (u2 lv 12 44 n47) 12 45 n48), fa, la), rfl, ⟨n47, n48, rfl⟩, by rw [ht9]; exact hP9, hD9⟩, hS.F ht9⟩) hS.2.2 dX12_settleThree_259
          · exact absurd c26 (by decide)
      · have fc19 := zc_ngt ev18 (rfl : (w5).toInt = _) (rfl : (w10).toInt = _) c19
        refine lv_iconst (v := 1) hx hb dX12_settleThree_199 (by decide) ?_
        refine lv_goto (tgt := 204) hx hb dX12_settleThree_200 (by decide) ?_
        refine lv_lload hx hb dX12_settleThree_204 (lv_at hl 1 rfl) ?_
        refine lv_lload hx hb dX12_settleThree_206 (lv_at hl 0 rfl) ?_
        refine W.lcmp hx hb dX12_settleThree_208 ?_
        refine lv_topi (fun v49 ev49 => ?_)
        refine lv_if_gt (tgt := 216) hx hb dX12_settleThree_209 (by decide) (fun c50 => ?_) (fun c50 => ?_)
        · have fc50 := zc_gt ev49 (rfl : (w10).toInt = _) (rfl : (w15).toInt = _) c50
          refine lv_iconst (v := 0) hx hb dX12_settleThree_216 (by decide) ?_
          refine lv_icmp_ne (tgt := 224) hx hb dX12_settleThree_217 (by decide) (fun c51 => ?_) (fun c51 => ?_)
          · skip
            refine lv_lload hx hb dX12_settleThree_224 (lv_at hl 1 rfl) ?_
            refine lv_lload_n hx hb dX12_settleThree_226 rfl (lv_at hl 2 rfl) ?_
            refine W.lcmp hx hb dX12_settleThree_227 ?_
            refine lv_topi (fun v52 ev52 => ?_)
            refine lv_if_gt (tgt := 235) hx hb dX12_settleThree_228 (by decide) (fun c53 => ?_) (fun c53 => ?_)
            · have fc53 := zc_gt ev52 (rfl : (w10).toInt = _) (rfl : (w5).toInt = _) c53
              refine lv_iconst (v := 0) hx hb dX12_settleThree_235 (by decide) ?_
              refine lv_lload_n hx hb dX12_settleThree_236 rfl (lv_at hl 2 rfl) ?_
              refine lv_lload hx hb dX12_settleThree_237 (lv_at hl 0 rfl) ?_
              refine W.lcmp hx hb dX12_settleThree_239 ?_
              refine lv_topi (fun v54 ev54 => ?_)
              refine lv_if_gt (tgt := 247) hx hb dX12_settleThree_240 (by decide) (fun c55 => ?_) (fun c55 => ?_)
              · have fc55 := zc_gt ev54 (rfl : (w5).toInt = _) (rfl : (w15).toInt = _) c55
                refine lv_iconst (v := 0) hx hb dX12_settleThree_247 (by decide) ?_
                refine lv_icmp_ne (tgt := 255) hx hb dX12_settleThree_248 (by decide) (fun c56 => ?_) (fun c56 => ?_)
                · exact absurd rfl c56
                · skip
                  refine lv_iconst (v := 0) hx hb dX12_settleThree_251 (by decide) ?_
                  refine lv_goto (tgt := 256) hx hb dX12_settleThree_252 (by decide) ?_
                  have hFc := free_all hD hS hA
                  refine va_callv (va_runV (As := [.int 0]) (rest := []) ⟨hx, hb, hml, hown, ht⟩ (c_X12_only l dC dI s.heap.size h g ca iv lv fa la hI 0 ⟨by decide, by decide⟩) (kV 1 ht m_1536 m_1538 m_59 m_89 m_1539 rfl rfl hd_X12_only_v ⟨Nat.le_of_ble_eq_true rfl, Nat.le_of_ble_eq_true rfl⟩) (vW hP hK hD (rM_12 hK hP)) rfl rfl hl.1 rfl (lv_room (Nat.le_of_ble_eq_true rfl)) dX12_settleThree_256 ⟨Nat.le_of_ble_eq_true rfl, Nat.le_of_ble_eq_true rfl⟩) hS (fun q _ h => hFc q h) hFc (fun u t H1 locs ht9 hvm hr57 hB hz1 hk1 hS => ?_)
                  obtain ⟨n58, n59, rfl⟩ := hr57
                  obtain ⟨hP, hD⟩ := hB
                  rw [ht9] at hP
                  generalize H1 = H at hP hS ⊢
                  have hP : va_P (dC, dI) classes (WM h g ca iv (u2 (u2 lv 12 44 n58) 12 45 n59) fa la) H := hP
                  have hD : va_D A (WM h g ca iv (u2 (u2 lv 12 44 n58) 12 45 n59) fa la) := (show va_D _ (WM h g ca iv (u2 (u2 lv 12 44 n58) 12 45 n59) fa la) from hD).weaken (fun _ _ _ h => hFc _ h)
                  have hP9 : va_P (dC, dI) classes (WM h g ca iv (u2 (u2 lv 12 44 n58) 12 45 n59) fa la) H := hP
                  have hD9 : va_D A (WM h g ca iv (u2 (u2 lv 12 44 n58) 12 45 n59) fa la) := hD
                  exact W.vret hx hb hr (fun t ht9 hW => ⟨⟨(iv, (u2 (u2 lv 12 44 n58) 12 45 n59), fa, la), rfl, ⟨n58, n59, rfl⟩, by rw [ht9]; exact hP9, hD9⟩, hS.F ht9⟩) hS.2.2 dX12_settleThree_259
              · have fc55 := zc_ngt ev54 (rfl : (w5).toInt = _) (rfl : (w15).toInt = _) c55
                refine lv_iconst (v := 1) hx hb dX12_settleThree_243 (by decide) ?_
                refine lv_goto (tgt := 248) hx hb dX12_settleThree_244 (by decide) ?_
                refine lv_icmp_ne (tgt := 255) hx hb dX12_settleThree_248 (by decide) (fun c60 => ?_) (fun c60 => ?_)
                · skip
                  refine lv_iconst (v := 2) hx hb dX12_settleThree_255 (by decide) ?_
                  have hFc := free_all hD hS hA
                  refine va_callv (va_runV (As := [.int 2]) (rest := []) ⟨hx, hb, hml, hown, ht⟩ (c_X12_only l dC dI s.heap.size h g ca iv lv fa la hI 2 ⟨by decide, by decide⟩) (kV 1 ht m_1536 m_1538 m_59 m_89 m_1539 rfl rfl hd_X12_only_v ⟨Nat.le_of_ble_eq_true rfl, Nat.le_of_ble_eq_true rfl⟩) (vW hP hK hD (rM_12 hK hP)) rfl rfl hl.1 rfl (lv_room (Nat.le_of_ble_eq_true rfl)) dX12_settleThree_256 ⟨Nat.le_of_ble_eq_true rfl, Nat.le_of_ble_eq_true rfl⟩) hS (fun q _ h => hFc q h) hFc (fun u t H1 locs ht9 hvm hr61 hB hz1 hk1 hS => ?_)
                  obtain ⟨n62, n63, rfl⟩ := hr61
                  obtain ⟨hP, hD⟩ := hB
                  rw [ht9] at hP
                  generalize H1 = H at hP hS ⊢
                  have hP : va_P (dC, dI) classes (WM h g ca iv (u2 (u2 lv 12 44 n62) 12 45 n63) fa la) H := hP
                  have hD : va_D A (WM h g ca iv (u2 (u2 lv 12 44 n62) 12 45 n63) fa la) := (show va_D _ (WM h g ca iv (u2 (u2 lv 12 44 n62) 12 45 n63) fa la) from hD).weaken (fun _ _ _ h => hFc _ h)
                  have hP9 : va_P (dC, dI) classes (WM h g ca iv (u2 (u2 lv 12 44 n62) 12 45 n63) fa la) H := hP
                  have hD9 : va_D A (WM h g ca iv (u2 (u2 lv 12 44 n62) 12 45 n63) fa la) := hD
                  exact W.vret hx hb hr (fun t ht9 hW => ⟨⟨(iv, (u2 (u2 lv 12 44 n62) 12 45 n63), fa, la), rfl, ⟨n62, n63, rfl⟩, by rw [ht9]; exact hP9, hD9⟩, hS.F ht9⟩) hS.2.2 dX12_settleThree_259
                · exact absurd c60 (by decide)
            · have fc53 := zc_ngt ev52 (rfl : (w10).toInt = _) (rfl : (w5).toInt = _) c53
              refine lv_iconst (v := 1) hx hb dX12_settleThree_231 (by decide) ?_
              refine lv_goto (tgt := 236) hx hb dX12_settleThree_232 (by decide) ?_
              refine lv_lload_n hx hb dX12_settleThree_236 rfl (lv_at hl 2 rfl) ?_
              refine lv_lload hx hb dX12_settleThree_237 (lv_at hl 0 rfl) ?_
              refine W.lcmp hx hb dX12_settleThree_239 ?_
              refine lv_topi (fun v64 ev64 => ?_)
              refine lv_if_gt (tgt := 247) hx hb dX12_settleThree_240 (by decide) (fun c65 => ?_) (fun c65 => ?_)
              · have fc65 := zc_gt ev64 (rfl : (w5).toInt = _) (rfl : (w15).toInt = _) c65
                refine lv_iconst (v := 0) hx hb dX12_settleThree_247 (by decide) ?_
                refine lv_icmp_ne (tgt := 255) hx hb dX12_settleThree_248 (by decide) (fun c66 => ?_) (fun c66 => ?_)
                · skip
                  refine lv_iconst (v := 2) hx hb dX12_settleThree_255 (by decide) ?_
                  have hFc := free_all hD hS hA
                  refine va_callv (va_runV (As := [.int 2]) (rest := []) ⟨hx, hb, hml, hown, ht⟩ (c_X12_only l dC dI s.heap.size h g ca iv lv fa la hI 2 ⟨by decide, by decide⟩) (kV 1 ht m_1536 m_1538 m_59 m_89 m_1539 rfl rfl hd_X12_only_v ⟨Nat.le_of_ble_eq_true rfl, Nat.le_of_ble_eq_true rfl⟩) (vW hP hK hD (rM_12 hK hP)) rfl rfl hl.1 rfl (lv_room (Nat.le_of_ble_eq_true rfl)) dX12_settleThree_256 ⟨Nat.le_of_ble_eq_true rfl, Nat.le_of_ble_eq_true rfl⟩) hS (fun q _ h => hFc q h) hFc (fun u t H1 locs ht9 hvm hr67 hB hz1 hk1 hS => ?_)
                  obtain ⟨n68, n69, rfl⟩ := hr67
                  obtain ⟨hP, hD⟩ := hB
                  rw [ht9] at hP
                  generalize H1 = H at hP hS ⊢
                  have hP : va_P (dC, dI) classes (WM h g ca iv (u2 (u2 lv 12 44 n68) 12 45 n69) fa la) H := hP
                  have hD : va_D A (WM h g ca iv (u2 (u2 lv 12 44 n68) 12 45 n69) fa la) := (show va_D _ (WM h g ca iv (u2 (u2 lv 12 44 n68) 12 45 n69) fa la) from hD).weaken (fun _ _ _ h => hFc _ h)
                  have hP9 : va_P (dC, dI) classes (WM h g ca iv (u2 (u2 lv 12 44 n68) 12 45 n69) fa la) H := hP
                  have hD9 : va_D A (WM h g ca iv (u2 (u2 lv 12 44 n68) 12 45 n69) fa la) := hD
                  exact W.vret hx hb hr (fun t ht9 hW => ⟨⟨(iv, (u2 (u2 lv 12 44 n68) 12 45 n69), fa, la), rfl, ⟨n68, n69, rfl⟩, by rw [ht9]; exact hP9, hD9⟩, hS.F ht9⟩) hS.2.2 dX12_settleThree_259
                · exact absurd c66 (by decide)
              · have fc65 := zc_ngt ev64 (rfl : (w5).toInt = _) (rfl : (w15).toInt = _) c65
                refine lv_iconst (v := 1) hx hb dX12_settleThree_243 (by decide) ?_
                refine lv_goto (tgt := 248) hx hb dX12_settleThree_244 (by decide) ?_
                refine lv_icmp_ne (tgt := 255) hx hb dX12_settleThree_248 (by decide) (fun c70 => ?_) (fun c70 => ?_)
                · exact absurd rfl c70
                · skip
                  refine lv_iconst (v := 0) hx hb dX12_settleThree_251 (by decide) ?_
                  refine lv_goto (tgt := 256) hx hb dX12_settleThree_252 (by decide) ?_
                  have hFc := free_all hD hS hA
                  refine va_callv (va_runV (As := [.int 0]) (rest := []) ⟨hx, hb, hml, hown, ht⟩ (c_X12_only l dC dI s.heap.size h g ca iv lv fa la hI 0 ⟨by decide, by decide⟩) (kV 1 ht m_1536 m_1538 m_59 m_89 m_1539 rfl rfl hd_X12_only_v ⟨Nat.le_of_ble_eq_true rfl, Nat.le_of_ble_eq_true rfl⟩) (vW hP hK hD (rM_12 hK hP)) rfl rfl hl.1 rfl (lv_room (Nat.le_of_ble_eq_true rfl)) dX12_settleThree_256 ⟨Nat.le_of_ble_eq_true rfl, Nat.le_of_ble_eq_true rfl⟩) hS (fun q _ h => hFc q h) hFc (fun u t H1 locs ht9 hvm hr71 hB hz1 hk1 hS => ?_)
                  obtain ⟨n72, n73, rfl⟩ := hr71
                  obtain ⟨hP, hD⟩ := hB
                  rw [ht9] at hP
                  generalize H1 = H at hP hS ⊢
                  have hP : va_P (dC, dI) classes (WM h g ca iv (u2 (u2 lv 12 44 n72) 12 45 n73) fa la) H := hP
                  have hD : va_D A (WM h g ca iv (u2 (u2 lv 12 44 n72) 12 45 n73) fa la) := (show va_D _ (WM h g ca iv (u2 (u2 lv 12 44 n72) 12 45 n73) fa la) from hD).weaken (fun _ _ _ h => hFc _ h)
                  have hP9 : va_P (dC, dI) classes (WM h g ca iv (u2 (u2 lv 12 44 n72) 12 45 n73) fa la) H := hP
                  have hD9 : va_D A (WM h g ca iv (u2 (u2 lv 12 44 n72) 12 45 n73) fa la) := hD
                  exact W.vret hx hb hr (fun t ht9 hW => ⟨⟨(iv, (u2 (u2 lv 12 44 n72) 12 45 n73), fa, la), rfl, ⟨n72, n73, rfl⟩, by rw [ht9]; exact hP9, hD9⟩, hS.F ht9⟩) hS.2.2 dX12_settleThree_259
          · exact absurd c51 (by decide)
        · have fc50 := zc_ngt ev49 (rfl : (w10).toInt = _) (rfl : (w15).toInt = _) c50
          refine lv_iconst (v := 1) hx hb dX12_settleThree_212 (by decide) ?_
          refine lv_goto (tgt := 217) hx hb dX12_settleThree_213 (by decide) ?_
          refine lv_icmp_ne (tgt := 224) hx hb dX12_settleThree_217 (by decide) (fun c74 => ?_) (fun c74 => ?_)
          · exact absurd rfl c74
          · skip
            refine lv_iconst (v := 1) hx hb dX12_settleThree_220 (by decide) ?_
            refine lv_goto (tgt := 256) hx hb dX12_settleThree_221 (by decide) ?_
            have hFc := free_all hD hS hA
            refine va_callv (va_runV (As := [.int 1]) (rest := []) ⟨hx, hb, hml, hown, ht⟩ (c_X12_only l dC dI s.heap.size h g ca iv lv fa la hI 1 ⟨by decide, by decide⟩) (kV 1 ht m_1536 m_1538 m_59 m_89 m_1539 rfl rfl hd_X12_only_v ⟨Nat.le_of_ble_eq_true rfl, Nat.le_of_ble_eq_true rfl⟩) (vW hP hK hD (rM_12 hK hP)) rfl rfl hl.1 rfl (lv_room (Nat.le_of_ble_eq_true rfl)) dX12_settleThree_256 ⟨Nat.le_of_ble_eq_true rfl, Nat.le_of_ble_eq_true rfl⟩) hS (fun q _ h => hFc q h) hFc (fun u t H1 locs ht9 hvm hr75 hB hz1 hk1 hS => ?_)
            obtain ⟨n76, n77, rfl⟩ := hr75
            obtain ⟨hP, hD⟩ := hB
            rw [ht9] at hP
            generalize H1 = H at hP hS ⊢
            have hP : va_P (dC, dI) classes (WM h g ca iv (u2 (u2 lv 12 44 n76) 12 45 n77) fa la) H := hP
            have hD : va_D A (WM h g ca iv (u2 (u2 lv 12 44 n76) 12 45 n77) fa la) := (show va_D _ (WM h g ca iv (u2 (u2 lv 12 44 n76) 12 45 n77) fa la) from hD).weaken (fun _ _ _ h => hFc _ h)
            have hP9 : va_P (dC, dI) classes (WM h g ca iv (u2 (u2 lv 12 44 n76) 12 45 n77) fa la) H := hP
            have hD9 : va_D A (WM h g ca iv (u2 (u2 lv 12 44 n76) 12 45 n77) fa la) := hD
            exact W.vret hx hb hr (fun t ht9 hW => ⟨⟨(iv, (u2 (u2 lv 12 44 n76) 12 45 n77), fa, la), rfl, ⟨n76, n77, rfl⟩, by rw [ht9]; exact hP9, hD9⟩, hS.F ht9⟩) hS.2.2 dX12_settleThree_259
    · have fc17 := z_eq (rfl : (a).toInt = _) (by decide : (1 : Int32).toInt = 1) c17
      refine lv_aload_n hx hb dX12_settleThree_153 rfl (lv_at hl 3 rfl) ?_
      refine lv_lload_n hx hb dX12_settleThree_154 rfl (lv_at hl 2 rfl) ?_
      refine lv_lload hx hb dX12_settleThree_155 (lv_at hl 1 rfl) ?_
      refine W.lcmp hx hb dX12_settleThree_157 ?_
      refine lv_topi (fun v78 ev78 => ?_)
      refine lv_if_gt (tgt := 172) hx hb dX12_settleThree_158 (by decide) (fun c79 => ?_) (fun c79 => ?_)
      · have fc79 := zc_gt ev78 (rfl : (w5).toInt = _) (rfl : (w10).toInt = _) c79
        refine lv_lload hx hb dX12_settleThree_172 (lv_at hl 1 rfl) ?_
        refine lv_lload hx hb dX12_settleThree_174 (lv_at hl 0 rfl) ?_
        refine W.lcmp hx hb dX12_settleThree_176 ?_
        refine lv_topi (fun v80 ev80 => ?_)
        refine lv_if_gt (tgt := 184) hx hb dX12_settleThree_177 (by decide) (fun c81 => ?_) (fun c81 => ?_)
        · have fc81 := zc_gt ev80 (rfl : (w10).toInt = _) (rfl : (w15).toInt = _) c81
          refine lv_iconst (v := 2) hx hb dX12_settleThree_184 (by decide) ?_
          have hFc := free_all hD hS hA
          refine va_callv (va_runV (As := [.int 2]) (rest := []) ⟨hx, hb, hml, hown, ht⟩ (c_X12_only l dC dI s.heap.size h g ca iv lv fa la hI 2 ⟨by decide, by decide⟩) (kV 1 ht m_1536 m_1538 m_59 m_89 m_1539 rfl rfl hd_X12_only_v ⟨Nat.le_of_ble_eq_true rfl, Nat.le_of_ble_eq_true rfl⟩) (vW hP hK hD (rM_12 hK hP)) rfl rfl hl.1 rfl (lv_room (Nat.le_of_ble_eq_true rfl)) dX12_settleThree_185 ⟨Nat.le_of_ble_eq_true rfl, Nat.le_of_ble_eq_true rfl⟩) hS (fun q _ h => hFc q h) hFc (fun u t H1 locs ht9 hvm hr82 hB hz1 hk1 hS => ?_)
          obtain ⟨n83, n84, rfl⟩ := hr82
          obtain ⟨hP, hD⟩ := hB
          rw [ht9] at hP
          generalize H1 = H at hP hS ⊢
          have hP : va_P (dC, dI) classes (WM h g ca iv (u2 (u2 lv 12 44 n83) 12 45 n84) fa la) H := hP
          have hD : va_D A (WM h g ca iv (u2 (u2 lv 12 44 n83) 12 45 n84) fa la) := (show va_D _ (WM h g ca iv (u2 (u2 lv 12 44 n83) 12 45 n84) fa la) from hD).weaken (fun _ _ _ h => hFc _ h)
          refine lv_goto (tgt := 259) hx hb dX12_settleThree_188 (by decide) ?_
          have hP9 : va_P (dC, dI) classes (WM h g ca iv (u2 (u2 lv 12 44 n83) 12 45 n84) fa la) H := hP
          have hD9 : va_D A (WM h g ca iv (u2 (u2 lv 12 44 n83) 12 45 n84) fa la) := hD
          exact W.vret hx hb hr (fun t ht9 hW => ⟨⟨(iv, (u2 (u2 lv 12 44 n83) 12 45 n84), fa, la), rfl, ⟨n83, n84, rfl⟩, by rw [ht9]; exact hP9, hD9⟩, hS.F ht9⟩) hS.2.2 dX12_settleThree_259
        · have fc81 := zc_ngt ev80 (rfl : (w10).toInt = _) (rfl : (w15).toInt = _) c81
          refine lv_iconst (v := 1) hx hb dX12_settleThree_180 (by decide) ?_
          refine lv_goto (tgt := 185) hx hb dX12_settleThree_181 (by decide) ?_
          have hFc := free_all hD hS hA
          refine va_callv (va_runV (As := [.int 1]) (rest := []) ⟨hx, hb, hml, hown, ht⟩ (c_X12_only l dC dI s.heap.size h g ca iv lv fa la hI 1 ⟨by decide, by decide⟩) (kV 1 ht m_1536 m_1538 m_59 m_89 m_1539 rfl rfl hd_X12_only_v ⟨Nat.le_of_ble_eq_true rfl, Nat.le_of_ble_eq_true rfl⟩) (vW hP hK hD (rM_12 hK hP)) rfl rfl hl.1 rfl (lv_room (Nat.le_of_ble_eq_true rfl)) dX12_settleThree_185 ⟨Nat.le_of_ble_eq_true rfl, Nat.le_of_ble_eq_true rfl⟩) hS (fun q _ h => hFc q h) hFc (fun u t H1 locs ht9 hvm hr85 hB hz1 hk1 hS => ?_)
          obtain ⟨n86, n87, rfl⟩ := hr85
          obtain ⟨hP, hD⟩ := hB
          rw [ht9] at hP
          generalize H1 = H at hP hS ⊢
          have hP : va_P (dC, dI) classes (WM h g ca iv (u2 (u2 lv 12 44 n86) 12 45 n87) fa la) H := hP
          have hD : va_D A (WM h g ca iv (u2 (u2 lv 12 44 n86) 12 45 n87) fa la) := (show va_D _ (WM h g ca iv (u2 (u2 lv 12 44 n86) 12 45 n87) fa la) from hD).weaken (fun _ _ _ h => hFc _ h)
          refine lv_goto (tgt := 259) hx hb dX12_settleThree_188 (by decide) ?_
          have hP9 : va_P (dC, dI) classes (WM h g ca iv (u2 (u2 lv 12 44 n86) 12 45 n87) fa la) H := hP
          have hD9 : va_D A (WM h g ca iv (u2 (u2 lv 12 44 n86) 12 45 n87) fa la) := hD
          exact W.vret hx hb hr (fun t ht9 hW => ⟨⟨(iv, (u2 (u2 lv 12 44 n86) 12 45 n87), fa, la), rfl, ⟨n86, n87, rfl⟩, by rw [ht9]; exact hP9, hD9⟩, hS.F ht9⟩) hS.2.2 dX12_settleThree_259
      · have fc79 := zc_ngt ev78 (rfl : (w5).toInt = _) (rfl : (w10).toInt = _) c79
        refine lv_lload_n hx hb dX12_settleThree_161 rfl (lv_at hl 2 rfl) ?_
        refine lv_lload hx hb dX12_settleThree_162 (lv_at hl 0 rfl) ?_
        refine W.lcmp hx hb dX12_settleThree_164 ?_
        refine lv_topi (fun v88 ev88 => ?_)
        refine lv_if_gt (tgt := 172) hx hb dX12_settleThree_165 (by decide) (fun c89 => ?_) (fun c89 => ?_)
        · have fc89 := zc_gt ev88 (rfl : (w5).toInt = _) (rfl : (w15).toInt = _) c89
          refine lv_lload hx hb dX12_settleThree_172 (lv_at hl 1 rfl) ?_
          refine lv_lload hx hb dX12_settleThree_174 (lv_at hl 0 rfl) ?_
          refine W.lcmp hx hb dX12_settleThree_176 ?_
          refine lv_topi (fun v90 ev90 => ?_)
          refine lv_if_gt (tgt := 184) hx hb dX12_settleThree_177 (by decide) (fun c91 => ?_) (fun c91 => ?_)
          · have fc91 := zc_gt ev90 (rfl : (w10).toInt = _) (rfl : (w15).toInt = _) c91
            refine lv_iconst (v := 2) hx hb dX12_settleThree_184 (by decide) ?_
            have hFc := free_all hD hS hA
            refine va_callv (va_runV (As := [.int 2]) (rest := []) ⟨hx, hb, hml, hown, ht⟩ (c_X12_only l dC dI s.heap.size h g ca iv lv fa la hI 2 ⟨by decide, by decide⟩) (kV 1 ht m_1536 m_1538 m_59 m_89 m_1539 rfl rfl hd_X12_only_v ⟨Nat.le_of_ble_eq_true rfl, Nat.le_of_ble_eq_true rfl⟩) (vW hP hK hD (rM_12 hK hP)) rfl rfl hl.1 rfl (lv_room (Nat.le_of_ble_eq_true rfl)) dX12_settleThree_185 ⟨Nat.le_of_ble_eq_true rfl, Nat.le_of_ble_eq_true rfl⟩) hS (fun q _ h => hFc q h) hFc (fun u t H1 locs ht9 hvm hr92 hB hz1 hk1 hS => ?_)
            obtain ⟨n93, n94, rfl⟩ := hr92
            obtain ⟨hP, hD⟩ := hB
            rw [ht9] at hP
            generalize H1 = H at hP hS ⊢
            have hP : va_P (dC, dI) classes (WM h g ca iv (u2 (u2 lv 12 44 n93) 12 45 n94) fa la) H := hP
            have hD : va_D A (WM h g ca iv (u2 (u2 lv 12 44 n93) 12 45 n94) fa la) := (show va_D _ (WM h g ca iv (u2 (u2 lv 12 44 n93) 12 45 n94) fa la) from hD).weaken (fun _ _ _ h => hFc _ h)
            refine lv_goto (tgt := 259) hx hb dX12_settleThree_188 (by decide) ?_
            have hP9 : va_P (dC, dI) classes (WM h g ca iv (u2 (u2 lv 12 44 n93) 12 45 n94) fa la) H := hP
            have hD9 : va_D A (WM h g ca iv (u2 (u2 lv 12 44 n93) 12 45 n94) fa la) := hD
            exact W.vret hx hb hr (fun t ht9 hW => ⟨⟨(iv, (u2 (u2 lv 12 44 n93) 12 45 n94), fa, la), rfl, ⟨n93, n94, rfl⟩, by rw [ht9]; exact hP9, hD9⟩, hS.F ht9⟩) hS.2.2 dX12_settleThree_259
          · have fc91 := zc_ngt ev90 (rfl : (w10).toInt = _) (rfl : (w15).toInt = _) c91
            refine lv_iconst (v := 1) hx hb dX12_settleThree_180 (by decide) ?_
            refine lv_goto (tgt := 185) hx hb dX12_settleThree_181 (by decide) ?_
            have hFc := free_all hD hS hA
            refine va_callv (va_runV (As := [.int 1]) (rest := []) ⟨hx, hb, hml, hown, ht⟩ (c_X12_only l dC dI s.heap.size h g ca iv lv fa la hI 1 ⟨by decide, by decide⟩) (kV 1 ht m_1536 m_1538 m_59 m_89 m_1539 rfl rfl hd_X12_only_v ⟨Nat.le_of_ble_eq_true rfl, Nat.le_of_ble_eq_true rfl⟩) (vW hP hK hD (rM_12 hK hP)) rfl rfl hl.1 rfl (lv_room (Nat.le_of_ble_eq_true rfl)) dX12_settleThree_185 ⟨Nat.le_of_ble_eq_true rfl, Nat.le_of_ble_eq_true rfl⟩) hS (fun q _ h => hFc q h) hFc (fun u t H1 locs ht9 hvm hr95 hB hz1 hk1 hS => ?_)
            obtain ⟨n96, n97, rfl⟩ := hr95
            obtain ⟨hP, hD⟩ := hB
            rw [ht9] at hP
            generalize H1 = H at hP hS ⊢
            have hP : va_P (dC, dI) classes (WM h g ca iv (u2 (u2 lv 12 44 n96) 12 45 n97) fa la) H := hP
            have hD : va_D A (WM h g ca iv (u2 (u2 lv 12 44 n96) 12 45 n97) fa la) := (show va_D _ (WM h g ca iv (u2 (u2 lv 12 44 n96) 12 45 n97) fa la) from hD).weaken (fun _ _ _ h => hFc _ h)
            refine lv_goto (tgt := 259) hx hb dX12_settleThree_188 (by decide) ?_
            have hP9 : va_P (dC, dI) classes (WM h g ca iv (u2 (u2 lv 12 44 n96) 12 45 n97) fa la) H := hP
            have hD9 : va_D A (WM h g ca iv (u2 (u2 lv 12 44 n96) 12 45 n97) fa la) := hD
            exact W.vret hx hb hr (fun t ht9 hW => ⟨⟨(iv, (u2 (u2 lv 12 44 n96) 12 45 n97), fa, la), rfl, ⟨n96, n97, rfl⟩, by rw [ht9]; exact hP9, hD9⟩, hS.F ht9⟩) hS.2.2 dX12_settleThree_259
        · have fc89 := zc_ngt ev88 (rfl : (w5).toInt = _) (rfl : (w15).toInt = _) c89
          refine lv_iconst (v := 0) hx hb dX12_settleThree_168 (by decide) ?_
          refine lv_goto (tgt := 185) hx hb dX12_settleThree_169 (by decide) ?_
          have hFc := free_all hD hS hA
          refine va_callv (va_runV (As := [.int 0]) (rest := []) ⟨hx, hb, hml, hown, ht⟩ (c_X12_only l dC dI s.heap.size h g ca iv lv fa la hI 0 ⟨by decide, by decide⟩) (kV 1 ht m_1536 m_1538 m_59 m_89 m_1539 rfl rfl hd_X12_only_v ⟨Nat.le_of_ble_eq_true rfl, Nat.le_of_ble_eq_true rfl⟩) (vW hP hK hD (rM_12 hK hP)) rfl rfl hl.1 rfl (lv_room (Nat.le_of_ble_eq_true rfl)) dX12_settleThree_185 ⟨Nat.le_of_ble_eq_true rfl, Nat.le_of_ble_eq_true rfl⟩) hS (fun q _ h => hFc q h) hFc (fun u t H1 locs ht9 hvm hr98 hB hz1 hk1 hS => ?_)
          obtain ⟨n99, n100, rfl⟩ := hr98
          obtain ⟨hP, hD⟩ := hB
          rw [ht9] at hP
          generalize H1 = H at hP hS ⊢
          have hP : va_P (dC, dI) classes (WM h g ca iv (u2 (u2 lv 12 44 n99) 12 45 n100) fa la) H := hP
          have hD : va_D A (WM h g ca iv (u2 (u2 lv 12 44 n99) 12 45 n100) fa la) := (show va_D _ (WM h g ca iv (u2 (u2 lv 12 44 n99) 12 45 n100) fa la) from hD).weaken (fun _ _ _ h => hFc _ h)
          refine lv_goto (tgt := 259) hx hb dX12_settleThree_188 (by decide) ?_
          have hP9 : va_P (dC, dI) classes (WM h g ca iv (u2 (u2 lv 12 44 n99) 12 45 n100) fa la) H := hP
          have hD9 : va_D A (WM h g ca iv (u2 (u2 lv 12 44 n99) 12 45 n100) fa la) := hD
          exact W.vret hx hb hr (fun t ht9 hW => ⟨⟨(iv, (u2 (u2 lv 12 44 n99) 12 45 n100), fa, la), rfl, ⟨n99, n100, rfl⟩, by rw [ht9]; exact hP9, hD9⟩, hS.F ht9⟩) hS.2.2 dX12_settleThree_259
  · have fc16 := z_eq (rfl : (a).toInt = _) (by decide : (0 : Int32).toInt = 0) c16
    refine lv_lload_n hx hb dX12_settleThree_69 rfl (lv_at hl 2 rfl) ?_
    refine lv_lload hx hb dX12_settleThree_70 (lv_at hl 1 rfl) ?_
    refine lv_lsub hx hb dX12_settleThree_72 ?_
    refine lv_topl (fun w101 ew101 => ?_)
    refine vp_callSl (W.runS (As := [.long w101]) (rest := []) ⟨hx, hb, hml, hown, ht⟩ (c_X12_plain l dC dI w101) (kS 1 ht m_1445 m_1446 m_89 m_1447 rfl rfl hd_X12_plain_v ⟨Nat.le_of_ble_eq_true rfl, Nat.le_of_ble_eq_true rfl⟩) (sR noP (hK.sub (tys' := []) [] rfl)) rfl rfl hl.1 rfl (lv_room (Nat.le_of_ble_eq_true rfl)) dX12_settleThree_73 ⟨Nat.le_of_ble_eq_true rfl, Nat.le_of_ble_eq_true rfl⟩) (fun r102 hr102 => ?_)
    refine lv_lstore (lv' := [(8, .long r102), (6, .long w15), (4, .long w10), (2, .long w5), (0, .ref h), (1, .int a)]) hx hb dX12_settleThree_76 hl (by decide) rfl (fun ls hl => ?_)
    refine lv_lload_n hx hb dX12_settleThree_78 rfl (lv_at hl 3 rfl) ?_
    refine lv_lload hx hb dX12_settleThree_79 (lv_at hl 1 rfl) ?_
    refine lv_lsub hx hb dX12_settleThree_81 ?_
    refine lv_topl (fun w103 ew103 => ?_)
    refine vp_callSl (W.runS (As := [.long w103]) (rest := []) ⟨hx, hb, hml, hown, ht⟩ (c_X12_plain l dC dI w103) (kS 1 ht m_1445 m_1446 m_89 m_1447 rfl rfl hd_X12_plain_v ⟨Nat.le_of_ble_eq_true rfl, Nat.le_of_ble_eq_true rfl⟩) (sR noP (hK.sub (tys' := []) [] rfl)) rfl rfl hl.1 rfl (lv_room (Nat.le_of_ble_eq_true rfl)) dX12_settleThree_82 ⟨Nat.le_of_ble_eq_true rfl, Nat.le_of_ble_eq_true rfl⟩) (fun r104 hr104 => ?_)
    refine lv_lstore (lv' := [(10, .long r104), (8, .long r102), (6, .long w15), (4, .long w10), (2, .long w5), (0, .ref h), (1, .int a)]) hx hb dX12_settleThree_85 hl (by decide) rfl (fun ls hl => ?_)
    refine lv_lload hx hb dX12_settleThree_87 (lv_at hl 3 rfl) ?_
    refine lv_lload hx hb dX12_settleThree_89 (lv_at hl 2 rfl) ?_
    refine lv_lsub hx hb dX12_settleThree_91 ?_
    refine lv_topl (fun w105 ew105 => ?_)
    refine vp_callSl (W.runS (As := [.long w105]) (rest := []) ⟨hx, hb, hml, hown, ht⟩ (c_X12_plain l dC dI w105) (kS 1 ht m_1445 m_1446 m_89 m_1447 rfl rfl hd_X12_plain_v ⟨Nat.le_of_ble_eq_true rfl, Nat.le_of_ble_eq_true rfl⟩) (sR noP (hK.sub (tys' := []) [] rfl)) rfl rfl hl.1 rfl (lv_room (Nat.le_of_ble_eq_true rfl)) dX12_settleThree_92 ⟨Nat.le_of_ble_eq_true rfl, Nat.le_of_ble_eq_true rfl⟩) (fun r106 hr106 => ?_)
    refine lv_lstore (lv' := [(12, .long r106), (10, .long r104), (8, .long r102), (6, .long w15), (4, .long w10), (2, .long w5), (0, .ref h), (1, .int a)]) hx hb dX12_settleThree_95 hl (by decide) rfl (fun ls hl => ?_)
    refine lv_lload hx hb dX12_settleThree_97 (lv_at hl 2 rfl) ?_
    refine lv_lload hx hb dX12_settleThree_99 (lv_at hl 1 rfl) ?_
    refine W.lcmp hx hb dX12_settleThree_101 ?_
    refine lv_topi (fun v107 ev107 => ?_)
    refine lv_if_gt (tgt := 122) hx hb dX12_settleThree_102 (by decide) (fun c108 => ?_) (fun c108 => ?_)
    · have fc108 := zc_gt ev107 (rfl : (r102).toInt = _) (rfl : (r104).toInt = _) c108
      refine lv_lload hx hb dX12_settleThree_122 (lv_at hl 1 rfl) ?_
      refine lv_lload hx hb dX12_settleThree_124 (lv_at hl 0 rfl) ?_
      refine W.lcmp hx hb dX12_settleThree_126 ?_
      refine lv_topi (fun v109 ev109 => ?_)
      refine lv_if_gt (tgt := 139) hx hb dX12_settleThree_127 (by decide) (fun c110 => ?_) (fun c110 => ?_)
      · have fc110 := zc_gt ev109 (rfl : (r104).toInt = _) (rfl : (r106).toInt = _) c110
        refine lv_aload_n hx hb dX12_settleThree_139 rfl (lv_at hl 6 rfl) ?_
        refine lv_iconst (v := 1) hx hb dX12_settleThree_140 (by decide) ?_
        refine lv_iconst (v := 2) hx hb dX12_settleThree_141 (by decide) ?_
        have hFc := free_all hD hS hA
        refine va_callv (va_runV (As := [.int 1, .int 2]) (rest := []) ⟨hx, hb, hml, hown, ht⟩ (c_X12_half l dC dI s.heap.size h g ca iv lv fa la hI 1 2 ⟨by decide, by decide⟩ ⟨by decide, by decide⟩) (kV 2 ht m_1548 m_1550 m_61 m_89 m_1551 rfl rfl hd_X12_half_v ⟨Nat.le_of_ble_eq_true rfl, Nat.le_of_ble_eq_true rfl⟩) (vW hP hK hD (rM_12 hK hP)) rfl rfl hl.1 rfl (lv_room (Nat.le_of_ble_eq_true rfl)) dX12_settleThree_142 ⟨Nat.le_of_ble_eq_true rfl, Nat.le_of_ble_eq_true rfl⟩) hS (fun q _ h => hFc q h) hFc (fun u t H1 locs ht9 hvm hr111 hB hz1 hk1 hS => ?_)
        obtain ⟨n112, n113, rfl⟩ := hr111
        obtain ⟨hP, hD⟩ := hB
        rw [ht9] at hP
        generalize H1 = H at hP hS ⊢
        have hP : va_P (dC, dI) classes (WM h g ca iv (u2 (u2 lv 12 44 n112) 12 45 n113) fa la) H := hP
        have hD : va_D A (WM h g ca iv (u2 (u2 lv 12 44 n112) 12 45 n113) fa la) := (show va_D _ (WM h g ca iv (u2 (u2 lv 12 44 n112) 12 45 n113) fa la) from hD).weaken (fun _ _ _ h => hFc _ h)
        refine lv_goto (tgt := 259) hx hb dX12_settleThree_145 (by decide) ?_
        have hP9 : va_P (dC, dI) classes (WM h g ca iv (u2 (u2 lv 12 44 n112) 12 45 n113) fa la) H := hP
        have hD9 : va_D A (WM h g ca iv (u2 (u2 lv 12 44 n112) 12 45 n113) fa la) := hD
        exact W.vret hx hb hr (fun t ht9 hW => ⟨⟨(iv, (u2 (u2 lv 12 44 n112) 12 45 n113), fa, la), rfl, ⟨n112, n113, rfl⟩, by rw [ht9]; exact hP9, hD9⟩, hS.F ht9⟩) hS.2.2 dX12_settleThree_259
      · have fc110 := zc_ngt ev109 (rfl : (r104).toInt = _) (rfl : (r106).toInt = _) c110
        refine lv_aload_n hx hb dX12_settleThree_130 rfl (lv_at hl 6 rfl) ?_
        refine lv_iconst (v := 0) hx hb dX12_settleThree_131 (by decide) ?_
        refine lv_iconst (v := 2) hx hb dX12_settleThree_132 (by decide) ?_
        have hFc := free_all hD hS hA
        refine va_callv (va_runV (As := [.int 0, .int 2]) (rest := []) ⟨hx, hb, hml, hown, ht⟩ (c_X12_half l dC dI s.heap.size h g ca iv lv fa la hI 0 2 ⟨by decide, by decide⟩ ⟨by decide, by decide⟩) (kV 2 ht m_1548 m_1550 m_61 m_89 m_1551 rfl rfl hd_X12_half_v ⟨Nat.le_of_ble_eq_true rfl, Nat.le_of_ble_eq_true rfl⟩) (vW hP hK hD (rM_12 hK hP)) rfl rfl hl.1 rfl (lv_room (Nat.le_of_ble_eq_true rfl)) dX12_settleThree_133 ⟨Nat.le_of_ble_eq_true rfl, Nat.le_of_ble_eq_true rfl⟩) hS (fun q _ h => hFc q h) hFc (fun u t H1 locs ht9 hvm hr114 hB hz1 hk1 hS => ?_)
        obtain ⟨n115, n116, rfl⟩ := hr114
        obtain ⟨hP, hD⟩ := hB
        rw [ht9] at hP
        generalize H1 = H at hP hS ⊢
        have hP : va_P (dC, dI) classes (WM h g ca iv (u2 (u2 lv 12 44 n115) 12 45 n116) fa la) H := hP
        have hD : va_D A (WM h g ca iv (u2 (u2 lv 12 44 n115) 12 45 n116) fa la) := (show va_D _ (WM h g ca iv (u2 (u2 lv 12 44 n115) 12 45 n116) fa la) from hD).weaken (fun _ _ _ h => hFc _ h)
        refine lv_goto (tgt := 145) hx hb dX12_settleThree_136 (by decide) ?_
        refine lv_goto (tgt := 259) hx hb dX12_settleThree_145 (by decide) ?_
        have hP9 : va_P (dC, dI) classes (WM h g ca iv (u2 (u2 lv 12 44 n115) 12 45 n116) fa la) H := hP
        have hD9 : va_D A (WM h g ca iv (u2 (u2 lv 12 44 n115) 12 45 n116) fa la) := hD
        exact W.vret hx hb hr (fun t ht9 hW => ⟨⟨(iv, (u2 (u2 lv 12 44 n115) 12 45 n116), fa, la), rfl, ⟨n115, n116, rfl⟩, by rw [ht9]; exact hP9, hD9⟩, hS.F ht9⟩) hS.2.2 dX12_settleThree_259
    · have fc108 := zc_ngt ev107 (rfl : (r102).toInt = _) (rfl : (r104).toInt = _) c108
      refine lv_lload hx hb dX12_settleThree_105 (lv_at hl 2 rfl) ?_
      refine lv_lload hx hb dX12_settleThree_107 (lv_at hl 0 rfl) ?_
      refine W.lcmp hx hb dX12_settleThree_109 ?_
      refine lv_topi (fun v117 ev117 => ?_)
      refine lv_if_gt (tgt := 122) hx hb dX12_settleThree_110 (by decide) (fun c118 => ?_) (fun c118 => ?_)
      · have fc118 := zc_gt ev117 (rfl : (r102).toInt = _) (rfl : (r106).toInt = _) c118
        refine lv_lload hx hb dX12_settleThree_122 (lv_at hl 1 rfl) ?_
        refine lv_lload hx hb dX12_settleThree_124 (lv_at hl 0 rfl) ?_
        refine W.lcmp hx hb dX12_settleThree_126 ?_
        refine lv_topi (fun v119 ev119 => ?_)
        refine lv_if_gt (tgt := 139) hx hb dX12_settleThree_127 (by decide) (fun c120 => ?_) (fun c120 => ?_)
        · have fc120 := zc_gt ev119 (rfl : (r104).toInt = _) (rfl : (r106).toInt = _) c120
          refine lv_aload_n hx hb dX12_settleThree_139 rfl (lv_at hl 6 rfl) ?_
          refine lv_iconst (v := 1) hx hb dX12_settleThree_140 (by decide) ?_
          refine lv_iconst (v := 2) hx hb dX12_settleThree_141 (by decide) ?_
          have hFc := free_all hD hS hA
          refine va_callv (va_runV (As := [.int 1, .int 2]) (rest := []) ⟨hx, hb, hml, hown, ht⟩ (c_X12_half l dC dI s.heap.size h g ca iv lv fa la hI 1 2 ⟨by decide, by decide⟩ ⟨by decide, by decide⟩) (kV 2 ht m_1548 m_1550 m_61 m_89 m_1551 rfl rfl hd_X12_half_v ⟨Nat.le_of_ble_eq_true rfl, Nat.le_of_ble_eq_true rfl⟩) (vW hP hK hD (rM_12 hK hP)) rfl rfl hl.1 rfl (lv_room (Nat.le_of_ble_eq_true rfl)) dX12_settleThree_142 ⟨Nat.le_of_ble_eq_true rfl, Nat.le_of_ble_eq_true rfl⟩) hS (fun q _ h => hFc q h) hFc (fun u t H1 locs ht9 hvm hr121 hB hz1 hk1 hS => ?_)
          obtain ⟨n122, n123, rfl⟩ := hr121
          obtain ⟨hP, hD⟩ := hB
          rw [ht9] at hP
          generalize H1 = H at hP hS ⊢
          have hP : va_P (dC, dI) classes (WM h g ca iv (u2 (u2 lv 12 44 n122) 12 45 n123) fa la) H := hP
          have hD : va_D A (WM h g ca iv (u2 (u2 lv 12 44 n122) 12 45 n123) fa la) := (show va_D _ (WM h g ca iv (u2 (u2 lv 12 44 n122) 12 45 n123) fa la) from hD).weaken (fun _ _ _ h => hFc _ h)
          refine lv_goto (tgt := 259) hx hb dX12_settleThree_145 (by decide) ?_
          have hP9 : va_P (dC, dI) classes (WM h g ca iv (u2 (u2 lv 12 44 n122) 12 45 n123) fa la) H := hP
          have hD9 : va_D A (WM h g ca iv (u2 (u2 lv 12 44 n122) 12 45 n123) fa la) := hD
          exact W.vret hx hb hr (fun t ht9 hW => ⟨⟨(iv, (u2 (u2 lv 12 44 n122) 12 45 n123), fa, la), rfl, ⟨n122, n123, rfl⟩, by rw [ht9]; exact hP9, hD9⟩, hS.F ht9⟩) hS.2.2 dX12_settleThree_259
        · have fc120 := zc_ngt ev119 (rfl : (r104).toInt = _) (rfl : (r106).toInt = _) c120
          refine lv_aload_n hx hb dX12_settleThree_130 rfl (lv_at hl 6 rfl) ?_
          refine lv_iconst (v := 0) hx hb dX12_settleThree_131 (by decide) ?_
          refine lv_iconst (v := 2) hx hb dX12_settleThree_132 (by decide) ?_
          have hFc := free_all hD hS hA
          refine va_callv (va_runV (As := [.int 0, .int 2]) (rest := []) ⟨hx, hb, hml, hown, ht⟩ (c_X12_half l dC dI s.heap.size h g ca iv lv fa la hI 0 2 ⟨by decide, by decide⟩ ⟨by decide, by decide⟩) (kV 2 ht m_1548 m_1550 m_61 m_89 m_1551 rfl rfl hd_X12_half_v ⟨Nat.le_of_ble_eq_true rfl, Nat.le_of_ble_eq_true rfl⟩) (vW hP hK hD (rM_12 hK hP)) rfl rfl hl.1 rfl (lv_room (Nat.le_of_ble_eq_true rfl)) dX12_settleThree_133 ⟨Nat.le_of_ble_eq_true rfl, Nat.le_of_ble_eq_true rfl⟩) hS (fun q _ h => hFc q h) hFc (fun u t H1 locs ht9 hvm hr124 hB hz1 hk1 hS => ?_)
          obtain ⟨n125, n126, rfl⟩ := hr124
          obtain ⟨hP, hD⟩ := hB
          rw [ht9] at hP
          generalize H1 = H at hP hS ⊢
          have hP : va_P (dC, dI) classes (WM h g ca iv (u2 (u2 lv 12 44 n125) 12 45 n126) fa la) H := hP
          have hD : va_D A (WM h g ca iv (u2 (u2 lv 12 44 n125) 12 45 n126) fa la) := (show va_D _ (WM h g ca iv (u2 (u2 lv 12 44 n125) 12 45 n126) fa la) from hD).weaken (fun _ _ _ h => hFc _ h)
          refine lv_goto (tgt := 145) hx hb dX12_settleThree_136 (by decide) ?_
          refine lv_goto (tgt := 259) hx hb dX12_settleThree_145 (by decide) ?_
          have hP9 : va_P (dC, dI) classes (WM h g ca iv (u2 (u2 lv 12 44 n125) 12 45 n126) fa la) H := hP
          have hD9 : va_D A (WM h g ca iv (u2 (u2 lv 12 44 n125) 12 45 n126) fa la) := hD
          exact W.vret hx hb hr (fun t ht9 hW => ⟨⟨(iv, (u2 (u2 lv 12 44 n125) 12 45 n126), fa, la), rfl, ⟨n125, n126, rfl⟩, by rw [ht9]; exact hP9, hD9⟩, hS.F ht9⟩) hS.2.2 dX12_settleThree_259
      · have fc118 := zc_ngt ev117 (rfl : (r102).toInt = _) (rfl : (r106).toInt = _) c118
        refine lv_aload_n hx hb dX12_settleThree_113 rfl (lv_at hl 6 rfl) ?_
        refine lv_iconst (v := 0) hx hb dX12_settleThree_114 (by decide) ?_
        refine lv_iconst (v := 1) hx hb dX12_settleThree_115 (by decide) ?_
        have hFc := free_all hD hS hA
        refine va_callv (va_runV (As := [.int 0, .int 1]) (rest := []) ⟨hx, hb, hml, hown, ht⟩ (c_X12_half l dC dI s.heap.size h g ca iv lv fa la hI 0 1 ⟨by decide, by decide⟩ ⟨by decide, by decide⟩) (kV 2 ht m_1548 m_1550 m_61 m_89 m_1551 rfl rfl hd_X12_half_v ⟨Nat.le_of_ble_eq_true rfl, Nat.le_of_ble_eq_true rfl⟩) (vW hP hK hD (rM_12 hK hP)) rfl rfl hl.1 rfl (lv_room (Nat.le_of_ble_eq_true rfl)) dX12_settleThree_116 ⟨Nat.le_of_ble_eq_true rfl, Nat.le_of_ble_eq_true rfl⟩) hS (fun q _ h => hFc q h) hFc (fun u t H1 locs ht9 hvm hr127 hB hz1 hk1 hS => ?_)
        obtain ⟨n128, n129, rfl⟩ := hr127
        obtain ⟨hP, hD⟩ := hB
        rw [ht9] at hP
        generalize H1 = H at hP hS ⊢
        have hP : va_P (dC, dI) classes (WM h g ca iv (u2 (u2 lv 12 44 n128) 12 45 n129) fa la) H := hP
        have hD : va_D A (WM h g ca iv (u2 (u2 lv 12 44 n128) 12 45 n129) fa la) := (show va_D _ (WM h g ca iv (u2 (u2 lv 12 44 n128) 12 45 n129) fa la) from hD).weaken (fun _ _ _ h => hFc _ h)
        refine lv_goto (tgt := 145) hx hb dX12_settleThree_119 (by decide) ?_
        refine lv_goto (tgt := 259) hx hb dX12_settleThree_145 (by decide) ?_
        have hP9 : va_P (dC, dI) classes (WM h g ca iv (u2 (u2 lv 12 44 n128) 12 45 n129) fa la) H := hP
        have hD9 : va_D A (WM h g ca iv (u2 (u2 lv 12 44 n128) 12 45 n129) fa la) := hD
        exact W.vret hx hb hr (fun t ht9 hW => ⟨⟨(iv, (u2 (u2 lv 12 44 n128) 12 45 n129), fa, la), rfl, ⟨n128, n129, rfl⟩, by rw [ht9]; exact hP9, hD9⟩, hS.F ht9⟩) hS.2.2 dX12_settleThree_259
