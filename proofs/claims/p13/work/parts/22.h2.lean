/-! ===== h2 ===== -/
theorem m_86 : Cond.initialized RX5 ∈ tb := mb_1_0 _ (List.mem_of_getElem? (i := 9) rfl)
theorem m_155 : Cond.fieldLink RX11 271 "SilkHouse$Bales" "threads" "[I" ∈ tb := mb_1_2 _ (List.mem_of_getElem? (i := 10) rfl)
theorem m_157 : Cond.fieldLink RX11 287 "SilkHouse$Bales" "twists" "[I" ∈ tb := mb_1_2 _ (List.mem_of_getElem? (i := 12) rfl)
theorem m_159 : Cond.fieldLink RX11 296 "SilkHouse$Bales" "gum" "[I" ∈ tb := mb_1_2 _ (List.mem_of_getElem? (i := 14) rfl)
theorem m_161 : Cond.fieldLink RX11 299 "SilkHouse$Bales" "ash" "[I" ∈ tb := mb_1_2 _ (List.mem_of_getElem? (i := 16) rfl)
theorem m_233 : Cond.fieldLink RX11 207 "SilkHouse$Reader" "faultByte" "I" ∈ tb := mb_1_4 _ (List.mem_of_getElem? (i := 3) rfl)
theorem m_341 : Cond.fieldLink RX11 305 "SilkHouse$Ovens" "number" "I" ∈ tb := mb_2_0 _ (List.mem_of_getElem? (i := 11) rfl)
theorem m_419 : Cond.fieldLink RX11 42 "SilkHouse" "reader" "LSilkHouse$Reader;" ∈ tb := mb_2_2 _ (List.mem_of_getElem? (i := 0) rfl)
theorem m_422 : Cond.fieldLink RX11 67 "SilkHouse" "ovens" "LSilkHouse$Ovens;" ∈ tb := mb_2_2 _ (List.mem_of_getElem? (i := 3) rfl)
theorem m_945 : Cond.methodLink RX11 274 yX0_reel ∈ tb := mb_4_5 _ (List.mem_of_getElem? (i := 16) rfl)
theorem m_946 : Cond.instanceMethod yX0_reel ∈ tb := mb_4_5 _ (List.mem_of_getElem? (i := 17) rfl)
theorem m_947 : Cond.selects RX0 yX0_reel yX0_reel ∈ tb := mb_4_5 _ (List.mem_of_getElem? (i := 18) rfl)
theorem m_948 : Cond.code yX0_reel cX0_reel 3 (some .int) ∈ tb := mb_4_5 _ (List.mem_of_getElem? (i := 19) rfl)
theorem m_977 : Cond.methodLink RX11 290 yX0_untwist ∈ tb := mb_4_6 _ (List.mem_of_getElem? (i := 23) rfl)
theorem m_978 : Cond.instanceMethod yX0_untwist ∈ tb := mb_4_7 _ (List.mem_of_getElem? (i := 0) rfl)
theorem m_979 : Cond.selects RX0 yX0_untwist yX0_untwist ∈ tb := mb_4_7 _ (List.mem_of_getElem? (i := 1) rfl)
theorem m_980 : Cond.code yX0_untwist cX0_untwist 5 (some .int) ∈ tb := mb_4_7 _ (List.mem_of_getElem? (i := 2) rfl)
theorem m_985 : Cond.methodLink RX11 293 yX0_middleTwist ∈ tb := mb_4_7 _ (List.mem_of_getElem? (i := 7) rfl)
theorem m_986 : Cond.instanceMethod yX0_middleTwist ∈ tb := mb_4_7 _ (List.mem_of_getElem? (i := 8) rfl)
theorem m_987 : Cond.selects RX0 yX0_middleTwist yX0_middleTwist ∈ tb := mb_4_7 _ (List.mem_of_getElem? (i := 9) rfl)
theorem m_988 : Cond.code yX0_middleTwist cX0_middleTwist 2 (some .int) ∈ tb := mb_4_7 _ (List.mem_of_getElem? (i := 10) rfl)
theorem m_1005 : Cond.methodLink RX11 306 yX5_bring ∈ tb := mb_4_8 _ (List.mem_of_getElem? (i := 2) rfl)
theorem m_1006 : Cond.instanceMethod yX5_bring ∈ tb := mb_4_8 _ (List.mem_of_getElem? (i := 3) rfl)
theorem m_1007 : Cond.selects RX5 yX5_bring yX5_bring ∈ tb := mb_4_8 _ (List.mem_of_getElem? (i := 4) rfl)
theorem m_1008 : Cond.code yX5_bring cX5_bring 2 (some .int) ∈ tb := mb_4_8 _ (List.mem_of_getElem? (i := 5) rfl)
theorem m_1030 : Cond.methodLink RX11 317 yX5_clear ∈ tb := mb_4_9 _ (List.mem_of_getElem? (i := 2) rfl)
theorem m_1031 : Cond.instanceMethod yX5_clear ∈ tb := mb_4_9 _ (List.mem_of_getElem? (i := 3) rfl)
theorem m_1032 : Cond.selects RX5 yX5_clear yX5_clear ∈ tb := mb_4_9 _ (List.mem_of_getElem? (i := 4) rfl)
theorem m_1033 : Cond.code yX5_clear cX5_clear 2 (some .int) ∈ tb := mb_4_9 _ (List.mem_of_getElem? (i := 5) rfl)
theorem hd_X0_middleTwist_v : yX0_middleTwist.cls = RX0 ∧ yX0_middleTwist.cls ≠ "java/lang/invoke/MethodHandle" ∧ yX0_middleTwist.cls ≠ "java/lang/invoke/VarHandle" ∧ (parseMethodDescriptor yX0_middleTwist.desc).map (fun d => d.parameters.length) = some 1 := by decide +kernel
theorem hd_X0_reel_v : yX0_reel.cls = RX0 ∧ yX0_reel.cls ≠ "java/lang/invoke/MethodHandle" ∧ yX0_reel.cls ≠ "java/lang/invoke/VarHandle" ∧ (parseMethodDescriptor yX0_reel.desc).map (fun d => d.parameters.length) = some 2 := by decide +kernel
theorem hd_X0_untwist_v : yX0_untwist.cls = RX0 ∧ yX0_untwist.cls ≠ "java/lang/invoke/MethodHandle" ∧ yX0_untwist.cls ≠ "java/lang/invoke/VarHandle" ∧ (parseMethodDescriptor yX0_untwist.desc).map (fun d => d.parameters.length) = some 2 := by decide +kernel
theorem hd_X5_bring_v : yX5_bring.cls = RX5 ∧ yX5_bring.cls ≠ "java/lang/invoke/MethodHandle" ∧ yX5_bring.cls ≠ "java/lang/invoke/VarHandle" ∧ (parseMethodDescriptor yX5_bring.desc).map (fun d => d.parameters.length) = some 1 := by decide +kernel
theorem hd_X5_clear_v : yX5_clear.cls = RX5 ∧ yX5_clear.cls ≠ "java/lang/invoke/MethodHandle" ∧ yX5_clear.cls ≠ "java/lang/invoke/VarHandle" ∧ (parseMethodDescriptor yX5_clear.desc).map (fun d => d.parameters.length) = some 0 := by decide +kernel
set_option maxRecDepth 100000 in
theorem dvX11_burnt_0 : ([(0, .aload_n 0, 1), (1, .getfield 26, 3), (4, .iload_n 1, 1), (5, .invokevirtual 104, 3), (8, .ifCond .ne 6, 3), (11, .ldc 108, 2), (13, .ireturn, 1), (14, .iload_n 2, 1), (15, .iconst 0, 1), (16, .iconst 1, 1), (17, .invokestatic 89, 3), (20, .ifCond .eq 26, 3), (23, .iload_n 3, 1), (24, .iconst 0, 1), (25, .sipush 999, 3), (28, .invokestatic 89, 3), (31, .ifCond .eq 15, 3), (34, .iload 4, 2), (36, .iload_n 3, 1), (37, .sipush 999, 3), (40, .invokestatic 89, 3), (43, .ifCond .ne 6, 3), (46, .ldc 93, 2), (48, .ireturn, 1)] : List (Nat × Instr × Nat)).all (fun q => decide (decode cX11_burnt q.1 = .ok (q.2.1, q.2.2))) = true := by decide +kernel
theorem dX11_burnt_0 : decode cX11_burnt 0 = .ok (.aload_n 0, 1) := all_at dvX11_burnt_0 0 rfl
theorem dX11_burnt_1 : decode cX11_burnt 1 = .ok (.getfield 26, 3) := all_at dvX11_burnt_0 1 rfl
theorem dX11_burnt_4 : decode cX11_burnt 4 = .ok (.iload_n 1, 1) := all_at dvX11_burnt_0 2 rfl
theorem dX11_burnt_5 : decode cX11_burnt 5 = .ok (.invokevirtual 104, 3) := all_at dvX11_burnt_0 3 rfl
theorem dX11_burnt_8 : decode cX11_burnt 8 = .ok (.ifCond .ne 6, 3) := all_at dvX11_burnt_0 4 rfl
theorem dX11_burnt_11 : decode cX11_burnt 11 = .ok (.ldc 108, 2) := all_at dvX11_burnt_0 5 rfl
theorem dX11_burnt_13 : decode cX11_burnt 13 = .ok (.ireturn, 1) := all_at dvX11_burnt_0 6 rfl
theorem dX11_burnt_14 : decode cX11_burnt 14 = .ok (.iload_n 2, 1) := all_at dvX11_burnt_0 7 rfl
theorem dX11_burnt_15 : decode cX11_burnt 15 = .ok (.iconst 0, 1) := all_at dvX11_burnt_0 8 rfl
theorem dX11_burnt_16 : decode cX11_burnt 16 = .ok (.iconst 1, 1) := all_at dvX11_burnt_0 9 rfl
theorem dX11_burnt_17 : decode cX11_burnt 17 = .ok (.invokestatic 89, 3) := all_at dvX11_burnt_0 10 rfl
theorem dX11_burnt_20 : decode cX11_burnt 20 = .ok (.ifCond .eq 26, 3) := all_at dvX11_burnt_0 11 rfl
theorem dX11_burnt_23 : decode cX11_burnt 23 = .ok (.iload_n 3, 1) := all_at dvX11_burnt_0 12 rfl
theorem dX11_burnt_24 : decode cX11_burnt 24 = .ok (.iconst 0, 1) := all_at dvX11_burnt_0 13 rfl
theorem dX11_burnt_25 : decode cX11_burnt 25 = .ok (.sipush 999, 3) := all_at dvX11_burnt_0 14 rfl
theorem dX11_burnt_28 : decode cX11_burnt 28 = .ok (.invokestatic 89, 3) := all_at dvX11_burnt_0 15 rfl
theorem dX11_burnt_31 : decode cX11_burnt 31 = .ok (.ifCond .eq 15, 3) := all_at dvX11_burnt_0 16 rfl
theorem dX11_burnt_34 : decode cX11_burnt 34 = .ok (.iload 4, 2) := all_at dvX11_burnt_0 17 rfl
theorem dX11_burnt_36 : decode cX11_burnt 36 = .ok (.iload_n 3, 1) := all_at dvX11_burnt_0 18 rfl
theorem dX11_burnt_37 : decode cX11_burnt 37 = .ok (.sipush 999, 3) := all_at dvX11_burnt_0 19 rfl
theorem dX11_burnt_40 : decode cX11_burnt 40 = .ok (.invokestatic 89, 3) := all_at dvX11_burnt_0 20 rfl
theorem dX11_burnt_43 : decode cX11_burnt 43 = .ok (.ifCond .ne 6, 3) := all_at dvX11_burnt_0 21 rfl
theorem dX11_burnt_46 : decode cX11_burnt 46 = .ok (.ldc 93, 2) := all_at dvX11_burnt_0 22 rfl
theorem dX11_burnt_48 : decode cX11_burnt 48 = .ok (.ireturn, 1) := all_at dvX11_burnt_0 23 rfl
set_option maxRecDepth 100000 in
theorem dvX11_burnt_49 : ([(49, .iload_n 2, 1), (50, .ifCond .ne 16, 3), (53, .aload_n 0, 1), (54, .getfield 26, 3), (57, .getfield 296, 3), (60, .iload_n 1, 1), (61, .iload_n 3, 1), (62, .iastore, 1), (63, .goto 13, 3), (66, .aload_n 0, 1), (67, .getfield 26, 3), (70, .getfield 299, 3), (73, .iload_n 1, 1), (74, .iload_n 3, 1), (75, .iastore, 1), (76, .iconst 1, 1), (77, .ireturn, 1)] : List (Nat × Instr × Nat)).all (fun q => decide (decode cX11_burnt q.1 = .ok (q.2.1, q.2.2))) = true := by decide +kernel
theorem dX11_burnt_49 : decode cX11_burnt 49 = .ok (.iload_n 2, 1) := all_at dvX11_burnt_49 0 rfl
theorem dX11_burnt_50 : decode cX11_burnt 50 = .ok (.ifCond .ne 16, 3) := all_at dvX11_burnt_49 1 rfl
theorem dX11_burnt_53 : decode cX11_burnt 53 = .ok (.aload_n 0, 1) := all_at dvX11_burnt_49 2 rfl
theorem dX11_burnt_54 : decode cX11_burnt 54 = .ok (.getfield 26, 3) := all_at dvX11_burnt_49 3 rfl
theorem dX11_burnt_57 : decode cX11_burnt 57 = .ok (.getfield 296, 3) := all_at dvX11_burnt_49 4 rfl
theorem dX11_burnt_60 : decode cX11_burnt 60 = .ok (.iload_n 1, 1) := all_at dvX11_burnt_49 5 rfl
theorem dX11_burnt_61 : decode cX11_burnt 61 = .ok (.iload_n 3, 1) := all_at dvX11_burnt_49 6 rfl
theorem dX11_burnt_62 : decode cX11_burnt 62 = .ok (.iastore, 1) := all_at dvX11_burnt_49 7 rfl
theorem dX11_burnt_63 : decode cX11_burnt 63 = .ok (.goto 13, 3) := all_at dvX11_burnt_49 8 rfl
theorem dX11_burnt_66 : decode cX11_burnt 66 = .ok (.aload_n 0, 1) := all_at dvX11_burnt_49 9 rfl
theorem dX11_burnt_67 : decode cX11_burnt 67 = .ok (.getfield 26, 3) := all_at dvX11_burnt_49 10 rfl
theorem dX11_burnt_70 : decode cX11_burnt 70 = .ok (.getfield 299, 3) := all_at dvX11_burnt_49 11 rfl
theorem dX11_burnt_73 : decode cX11_burnt 73 = .ok (.iload_n 1, 1) := all_at dvX11_burnt_49 12 rfl
theorem dX11_burnt_74 : decode cX11_burnt 74 = .ok (.iload_n 3, 1) := all_at dvX11_burnt_49 13 rfl
theorem dX11_burnt_75 : decode cX11_burnt 75 = .ok (.iastore, 1) := all_at dvX11_burnt_49 14 rfl
theorem dX11_burnt_76 : decode cX11_burnt 76 = .ok (.iconst 1, 1) := all_at dvX11_burnt_49 15 rfl
theorem dX11_burnt_77 : decode cX11_burnt 77 = .ok (.ireturn, 1) := all_at dvX11_burnt_49 16 rfl
set_option maxRecDepth 100000 in
theorem dvX11_empty_0 : ([(0, .aload_n 0, 1), (1, .getfield 67, 3), (4, .invokevirtual 317, 3), (7, .ireturn, 1)] : List (Nat × Instr × Nat)).all (fun q => decide (decode cX11_empty q.1 = .ok (q.2.1, q.2.2))) = true := by decide +kernel
theorem dX11_empty_0 : decode cX11_empty 0 = .ok (.aload_n 0, 1) := all_at dvX11_empty_0 0 rfl
theorem dX11_empty_1 : decode cX11_empty 1 = .ok (.getfield 67, 3) := all_at dvX11_empty_0 1 rfl
theorem dX11_empty_4 : decode cX11_empty 4 = .ok (.invokevirtual 317, 3) := all_at dvX11_empty_0 2 rfl
theorem dX11_empty_7 : decode cX11_empty 7 = .ok (.ireturn, 1) := all_at dvX11_empty_0 3 rfl
set_option maxRecDepth 100000 in
theorem dvX11_fault_0 : ([(0, .aload_n 0, 1), (1, .getfield 42, 3), (4, .getfield 207, 3), (7, .ireturn, 1)] : List (Nat × Instr × Nat)).all (fun q => decide (decode cX11_fault q.1 = .ok (q.2.1, q.2.2))) = true := by decide +kernel
theorem dX11_fault_0 : decode cX11_fault 0 = .ok (.aload_n 0, 1) := all_at dvX11_fault_0 0 rfl
theorem dX11_fault_1 : decode cX11_fault 1 = .ok (.getfield 42, 3) := all_at dvX11_fault_0 1 rfl
theorem dX11_fault_4 : decode cX11_fault 4 = .ok (.getfield 207, 3) := all_at dvX11_fault_0 2 rfl
theorem dX11_fault_7 : decode cX11_fault 7 = .ok (.ireturn, 1) := all_at dvX11_fault_0 3 rfl
set_option maxRecDepth 100000 in
theorem dvX11_load_0 : ([(0, .iload_n 1, 1), (1, .iconst 1, 1), (2, .sipush 999, 3), (5, .invokestatic 89, 3), (8, .ifCond .ne 6, 3), (11, .ldc 93, 2), (13, .ireturn, 1), (14, .aload_n 0, 1), (15, .getfield 67, 3), (18, .getfield 305, 3), (21, .bipush 8, 2), (23, .if_icmp .lt 8, 3), (26, .ldc 99, 2), (28, .goto 11, 3), (31, .aload_n 0, 1), (32, .getfield 67, 3), (35, .iload_n 1, 1), (36, .invokevirtual 306, 3), (39, .ireturn, 1)] : List (Nat × Instr × Nat)).all (fun q => decide (decode cX11_load q.1 = .ok (q.2.1, q.2.2))) = true := by decide +kernel
theorem dX11_load_0 : decode cX11_load 0 = .ok (.iload_n 1, 1) := all_at dvX11_load_0 0 rfl
theorem dX11_load_1 : decode cX11_load 1 = .ok (.iconst 1, 1) := all_at dvX11_load_0 1 rfl
theorem dX11_load_2 : decode cX11_load 2 = .ok (.sipush 999, 3) := all_at dvX11_load_0 2 rfl
theorem dX11_load_5 : decode cX11_load 5 = .ok (.invokestatic 89, 3) := all_at dvX11_load_0 3 rfl
theorem dX11_load_8 : decode cX11_load 8 = .ok (.ifCond .ne 6, 3) := all_at dvX11_load_0 4 rfl
theorem dX11_load_11 : decode cX11_load 11 = .ok (.ldc 93, 2) := all_at dvX11_load_0 5 rfl
theorem dX11_load_13 : decode cX11_load 13 = .ok (.ireturn, 1) := all_at dvX11_load_0 6 rfl
theorem dX11_load_14 : decode cX11_load 14 = .ok (.aload_n 0, 1) := all_at dvX11_load_0 7 rfl
theorem dX11_load_15 : decode cX11_load 15 = .ok (.getfield 67, 3) := all_at dvX11_load_0 8 rfl
theorem dX11_load_18 : decode cX11_load 18 = .ok (.getfield 305, 3) := all_at dvX11_load_0 9 rfl
theorem dX11_load_21 : decode cX11_load 21 = .ok (.bipush 8, 2) := all_at dvX11_load_0 10 rfl
theorem dX11_load_23 : decode cX11_load 23 = .ok (.if_icmp .lt 8, 3) := all_at dvX11_load_0 11 rfl
theorem dX11_load_26 : decode cX11_load 26 = .ok (.ldc 99, 2) := all_at dvX11_load_0 12 rfl
theorem dX11_load_28 : decode cX11_load 28 = .ok (.goto 11, 3) := all_at dvX11_load_0 13 rfl
theorem dX11_load_31 : decode cX11_load 31 = .ok (.aload_n 0, 1) := all_at dvX11_load_0 14 rfl
theorem dX11_load_32 : decode cX11_load 32 = .ok (.getfield 67, 3) := all_at dvX11_load_0 15 rfl
theorem dX11_load_35 : decode cX11_load 35 = .ok (.iload_n 1, 1) := all_at dvX11_load_0 16 rfl
theorem dX11_load_36 : decode cX11_load 36 = .ok (.invokevirtual 306, 3) := all_at dvX11_load_0 17 rfl
theorem dX11_load_39 : decode cX11_load 39 = .ok (.ireturn, 1) := all_at dvX11_load_0 18 rfl
set_option maxRecDepth 100000 in
theorem dvX11_thread_0 : ([(0, .aload_n 0, 1), (1, .getfield 26, 3), (4, .iload_n 1, 1), (5, .invokevirtual 104, 3), (8, .ifCond .ne 6, 3), (11, .ldc 108, 2), (13, .ireturn, 1), (14, .iload_n 2, 1), (15, .iconst 1, 1), (16, .sipush 999, 3), (19, .invokestatic 89, 3), (22, .ifCond .ne 6, 3), (25, .ldc 93, 2), (27, .ireturn, 1), (28, .aload_n 0, 1), (29, .getfield 26, 3), (32, .getfield 271, 3), (35, .iload_n 1, 1), (36, .iaload, 1), (37, .bipush 12, 2), (39, .if_icmp .lt 8, 3), (42, .ldc 99, 2), (44, .goto 12, 3), (47, .aload_n 0, 1)] : List (Nat × Instr × Nat)).all (fun q => decide (decode cX11_thread q.1 = .ok (q.2.1, q.2.2))) = true := by decide +kernel
theorem dX11_thread_0 : decode cX11_thread 0 = .ok (.aload_n 0, 1) := all_at dvX11_thread_0 0 rfl
theorem dX11_thread_1 : decode cX11_thread 1 = .ok (.getfield 26, 3) := all_at dvX11_thread_0 1 rfl
theorem dX11_thread_4 : decode cX11_thread 4 = .ok (.iload_n 1, 1) := all_at dvX11_thread_0 2 rfl
theorem dX11_thread_5 : decode cX11_thread 5 = .ok (.invokevirtual 104, 3) := all_at dvX11_thread_0 3 rfl
theorem dX11_thread_8 : decode cX11_thread 8 = .ok (.ifCond .ne 6, 3) := all_at dvX11_thread_0 4 rfl
theorem dX11_thread_11 : decode cX11_thread 11 = .ok (.ldc 108, 2) := all_at dvX11_thread_0 5 rfl
theorem dX11_thread_13 : decode cX11_thread 13 = .ok (.ireturn, 1) := all_at dvX11_thread_0 6 rfl
theorem dX11_thread_14 : decode cX11_thread 14 = .ok (.iload_n 2, 1) := all_at dvX11_thread_0 7 rfl
theorem dX11_thread_15 : decode cX11_thread 15 = .ok (.iconst 1, 1) := all_at dvX11_thread_0 8 rfl
theorem dX11_thread_16 : decode cX11_thread 16 = .ok (.sipush 999, 3) := all_at dvX11_thread_0 9 rfl
theorem dX11_thread_19 : decode cX11_thread 19 = .ok (.invokestatic 89, 3) := all_at dvX11_thread_0 10 rfl
theorem dX11_thread_22 : decode cX11_thread 22 = .ok (.ifCond .ne 6, 3) := all_at dvX11_thread_0 11 rfl
theorem dX11_thread_25 : decode cX11_thread 25 = .ok (.ldc 93, 2) := all_at dvX11_thread_0 12 rfl
theorem dX11_thread_27 : decode cX11_thread 27 = .ok (.ireturn, 1) := all_at dvX11_thread_0 13 rfl
theorem dX11_thread_28 : decode cX11_thread 28 = .ok (.aload_n 0, 1) := all_at dvX11_thread_0 14 rfl
theorem dX11_thread_29 : decode cX11_thread 29 = .ok (.getfield 26, 3) := all_at dvX11_thread_0 15 rfl
theorem dX11_thread_32 : decode cX11_thread 32 = .ok (.getfield 271, 3) := all_at dvX11_thread_0 16 rfl
theorem dX11_thread_35 : decode cX11_thread 35 = .ok (.iload_n 1, 1) := all_at dvX11_thread_0 17 rfl
theorem dX11_thread_36 : decode cX11_thread 36 = .ok (.iaload, 1) := all_at dvX11_thread_0 18 rfl
theorem dX11_thread_37 : decode cX11_thread 37 = .ok (.bipush 12, 2) := all_at dvX11_thread_0 19 rfl
theorem dX11_thread_39 : decode cX11_thread 39 = .ok (.if_icmp .lt 8, 3) := all_at dvX11_thread_0 20 rfl
theorem dX11_thread_42 : decode cX11_thread 42 = .ok (.ldc 99, 2) := all_at dvX11_thread_0 21 rfl
theorem dX11_thread_44 : decode cX11_thread 44 = .ok (.goto 12, 3) := all_at dvX11_thread_0 22 rfl
theorem dX11_thread_47 : decode cX11_thread 47 = .ok (.aload_n 0, 1) := all_at dvX11_thread_0 23 rfl
set_option maxRecDepth 100000 in
theorem dvX11_thread_48 : ([(48, .getfield 26, 3), (51, .iload_n 1, 1), (52, .iload_n 2, 1), (53, .invokevirtual 274, 3), (56, .ireturn, 1)] : List (Nat × Instr × Nat)).all (fun q => decide (decode cX11_thread q.1 = .ok (q.2.1, q.2.2))) = true := by decide +kernel
theorem dX11_thread_48 : decode cX11_thread 48 = .ok (.getfield 26, 3) := all_at dvX11_thread_48 0 rfl
theorem dX11_thread_51 : decode cX11_thread 51 = .ok (.iload_n 1, 1) := all_at dvX11_thread_48 1 rfl
theorem dX11_thread_52 : decode cX11_thread 52 = .ok (.iload_n 2, 1) := all_at dvX11_thread_48 2 rfl
theorem dX11_thread_53 : decode cX11_thread 53 = .ok (.invokevirtual 274, 3) := all_at dvX11_thread_48 3 rfl
theorem dX11_thread_56 : decode cX11_thread 56 = .ok (.ireturn, 1) := all_at dvX11_thread_48 4 rfl
set_option maxRecDepth 100000 in
theorem dvX11_turns_0 : ([(0, .aload_n 0, 1), (1, .getfield 26, 3), (4, .iload_n 1, 1), (5, .invokevirtual 104, 3), (8, .ifCond .ne 6, 3), (11, .ldc 108, 2), (13, .ireturn, 1), (14, .iload_n 2, 1), (15, .iconst 0, 1), (16, .sipush 999, 3), (19, .invokestatic 89, 3), (22, .ifCond .ne 6, 3), (25, .ldc 93, 2), (27, .ireturn, 1), (28, .aload_n 0, 1), (29, .getfield 26, 3), (32, .getfield 287, 3), (35, .iload_n 1, 1), (36, .iaload, 1), (37, .bipush 8, 2), (39, .if_icmp .lt 8, 3), (42, .ldc 99, 2), (44, .goto 12, 3), (47, .aload_n 0, 1)] : List (Nat × Instr × Nat)).all (fun q => decide (decode cX11_turns q.1 = .ok (q.2.1, q.2.2))) = true := by decide +kernel
theorem dX11_turns_0 : decode cX11_turns 0 = .ok (.aload_n 0, 1) := all_at dvX11_turns_0 0 rfl
theorem dX11_turns_1 : decode cX11_turns 1 = .ok (.getfield 26, 3) := all_at dvX11_turns_0 1 rfl
theorem dX11_turns_4 : decode cX11_turns 4 = .ok (.iload_n 1, 1) := all_at dvX11_turns_0 2 rfl
theorem dX11_turns_5 : decode cX11_turns 5 = .ok (.invokevirtual 104, 3) := all_at dvX11_turns_0 3 rfl
theorem dX11_turns_8 : decode cX11_turns 8 = .ok (.ifCond .ne 6, 3) := all_at dvX11_turns_0 4 rfl
theorem dX11_turns_11 : decode cX11_turns 11 = .ok (.ldc 108, 2) := all_at dvX11_turns_0 5 rfl
theorem dX11_turns_13 : decode cX11_turns 13 = .ok (.ireturn, 1) := all_at dvX11_turns_0 6 rfl
theorem dX11_turns_14 : decode cX11_turns 14 = .ok (.iload_n 2, 1) := all_at dvX11_turns_0 7 rfl
theorem dX11_turns_15 : decode cX11_turns 15 = .ok (.iconst 0, 1) := all_at dvX11_turns_0 8 rfl
theorem dX11_turns_16 : decode cX11_turns 16 = .ok (.sipush 999, 3) := all_at dvX11_turns_0 9 rfl
theorem dX11_turns_19 : decode cX11_turns 19 = .ok (.invokestatic 89, 3) := all_at dvX11_turns_0 10 rfl
theorem dX11_turns_22 : decode cX11_turns 22 = .ok (.ifCond .ne 6, 3) := all_at dvX11_turns_0 11 rfl
theorem dX11_turns_25 : decode cX11_turns 25 = .ok (.ldc 93, 2) := all_at dvX11_turns_0 12 rfl
theorem dX11_turns_27 : decode cX11_turns 27 = .ok (.ireturn, 1) := all_at dvX11_turns_0 13 rfl
theorem dX11_turns_28 : decode cX11_turns 28 = .ok (.aload_n 0, 1) := all_at dvX11_turns_0 14 rfl
theorem dX11_turns_29 : decode cX11_turns 29 = .ok (.getfield 26, 3) := all_at dvX11_turns_0 15 rfl
theorem dX11_turns_32 : decode cX11_turns 32 = .ok (.getfield 287, 3) := all_at dvX11_turns_0 16 rfl
theorem dX11_turns_35 : decode cX11_turns 35 = .ok (.iload_n 1, 1) := all_at dvX11_turns_0 17 rfl
theorem dX11_turns_36 : decode cX11_turns 36 = .ok (.iaload, 1) := all_at dvX11_turns_0 18 rfl
theorem dX11_turns_37 : decode cX11_turns 37 = .ok (.bipush 8, 2) := all_at dvX11_turns_0 19 rfl
theorem dX11_turns_39 : decode cX11_turns 39 = .ok (.if_icmp .lt 8, 3) := all_at dvX11_turns_0 20 rfl
theorem dX11_turns_42 : decode cX11_turns 42 = .ok (.ldc 99, 2) := all_at dvX11_turns_0 21 rfl
theorem dX11_turns_44 : decode cX11_turns 44 = .ok (.goto 12, 3) := all_at dvX11_turns_0 22 rfl
theorem dX11_turns_47 : decode cX11_turns 47 = .ok (.aload_n 0, 1) := all_at dvX11_turns_0 23 rfl
set_option maxRecDepth 100000 in
theorem dvX11_turns_48 : ([(48, .getfield 26, 3), (51, .iload_n 1, 1), (52, .iload_n 2, 1), (53, .invokevirtual 290, 3), (56, .ireturn, 1)] : List (Nat × Instr × Nat)).all (fun q => decide (decode cX11_turns q.1 = .ok (q.2.1, q.2.2))) = true := by decide +kernel
theorem dX11_turns_48 : decode cX11_turns 48 = .ok (.getfield 26, 3) := all_at dvX11_turns_48 0 rfl
theorem dX11_turns_51 : decode cX11_turns 51 = .ok (.iload_n 1, 1) := all_at dvX11_turns_48 1 rfl
theorem dX11_turns_52 : decode cX11_turns 52 = .ok (.iload_n 2, 1) := all_at dvX11_turns_48 2 rfl
theorem dX11_turns_53 : decode cX11_turns 53 = .ok (.invokevirtual 290, 3) := all_at dvX11_turns_48 3 rfl
theorem dX11_turns_56 : decode cX11_turns 56 = .ok (.ireturn, 1) := all_at dvX11_turns_48 4 rfl
set_option maxRecDepth 100000 in
theorem dvX11_twist_0 : ([(0, .aload_n 0, 1), (1, .getfield 26, 3), (4, .iload_n 1, 1), (5, .invokevirtual 104, 3), (8, .ifCond .eq 14, 3), (11, .aload_n 0, 1), (12, .getfield 26, 3), (15, .iload_n 1, 1), (16, .invokevirtual 293, 3), (19, .goto 5, 3), (22, .ldc 108, 2), (24, .ireturn, 1)] : List (Nat × Instr × Nat)).all (fun q => decide (decode cX11_twist q.1 = .ok (q.2.1, q.2.2))) = true := by decide +kernel
theorem dX11_twist_0 : decode cX11_twist 0 = .ok (.aload_n 0, 1) := all_at dvX11_twist_0 0 rfl
theorem dX11_twist_1 : decode cX11_twist 1 = .ok (.getfield 26, 3) := all_at dvX11_twist_0 1 rfl
theorem dX11_twist_4 : decode cX11_twist 4 = .ok (.iload_n 1, 1) := all_at dvX11_twist_0 2 rfl
theorem dX11_twist_5 : decode cX11_twist 5 = .ok (.invokevirtual 104, 3) := all_at dvX11_twist_0 3 rfl
theorem dX11_twist_8 : decode cX11_twist 8 = .ok (.ifCond .eq 14, 3) := all_at dvX11_twist_0 4 rfl
theorem dX11_twist_11 : decode cX11_twist 11 = .ok (.aload_n 0, 1) := all_at dvX11_twist_0 5 rfl
theorem dX11_twist_12 : decode cX11_twist 12 = .ok (.getfield 26, 3) := all_at dvX11_twist_0 6 rfl
theorem dX11_twist_15 : decode cX11_twist 15 = .ok (.iload_n 1, 1) := all_at dvX11_twist_0 7 rfl
theorem dX11_twist_16 : decode cX11_twist 16 = .ok (.invokevirtual 293, 3) := all_at dvX11_twist_0 8 rfl
theorem dX11_twist_19 : decode cX11_twist 19 = .ok (.goto 5, 3) := all_at dvX11_twist_0 9 rfl
theorem dX11_twist_22 : decode cX11_twist 22 = .ok (.ldc 108, 2) := all_at dvX11_twist_0 10 rfl
theorem dX11_twist_24 : decode cX11_twist 24 = .ok (.ireturn, 1) := all_at dvX11_twist_0 11 rfl
set_option maxHeartbeats 4000000 in
set_option maxRecDepth 100000 in
/-- X11_thread -/
theorem c_X11_thread (l : Launch) (dC : Nat → ClassId) (dI : Nat → Nat → Nat) (sz : Nat) (h : Nat) (g : Nat → Nat → Nat) (ca : Nat → Nat → ClassId) (iv : Nat → Nat → Int32) (lv : Nat → Nat → Int64) (fa : Nat → Nat → Nat → Int32) (la : Nat → Nat → Nat → Int64) (hI : IX iv fa) (a : Int32) (b : Int32) : Met l yX11_thread (wc yX11_thread cX11_thread 3 (some .int)) ({ frames := 1, cells := 0, slots := 0, locals := 22 } : Room) (pW (dC, dI) classes (WX h g ca iv lv fa la) (TX ca) sz [.ref h, .int a, .int b]) (va_Qi (fun r (u : SS) => ∃ (na_0_1 : Nat → Int32) (na_0_5 : Nat → Int32), (∀ j, inb (bA 0 1 j) (na_0_1 j)) ∧ ((-100004) ≤ r.toInt ∧ r.toInt ≤ 12) ∧ u = (iv, lv, (u2 (u2 fa 0 1 na_0_1) 0 5 na_0_5), la)) (bX (dC, dI) h g ca (va_A (WX h g ca iv lv fa la) sz)) (va_A (WX h g ca iv lv fa la) sz)) 0 0 (va_A (WX h g ca iv lv fa la) sz) := by
  refine Met.ofW (cc := cX11_thread) (maxL := 3) (ret := (some .int)) (by decide) rfl ?_
  intro p e s m args below meth c s₁ B hml hv
  obtain ⟨rfl, hsz, hP, hK, hD0⟩ := hv
  have hx := B.exec
  have hb := B.bytes
  have hr := B.returns
  have ht := tb_tl (atoms_spec (ws := wc yX11_thread cX11_thread 3 (some .int)) B.pre)
  have hown : s.vm.findClass RX11 = some m.cls := findClass_of_methodNamed B.named
  have hlocks := B.notSynchronized
  subst hsz
  have hD := hD0.self (sz := s.heap.size)
  generalize hAe : va_A (WX h g ca iv lv fa la) s.heap.size = A at hD ⊢
  have hA : ∀ q : Nat, s.heap.size ≤ q → A q := fun q h => by rw [← hAe]; exact Or.inr h
  have hS : va_S A s.heap s.heap [] := va_S.rf
  have hl := lv_entry [.ref h, .int a, .int b] (n := 3) (Nat.le_of_ble_eq_true rfl)
  rw [lg_entry_eq]
  generalize (lg_sl [.ref h, .int a, .int b] ++ List.replicate (3 - (lg_sl [.ref h, .int a, .int b]).length) Slot.unset).toArray = ls at hl ⊢
  have hl : lv_has ls 3 [(0, .ref h), (1, .int a), (2, .int b)] := hl
  refine lv_aload_n hx hb dX11_thread_0 rfl (lv_at hl 0 rfl) ?_
  refine gX_11_2 hx hb ht hown hK hP m_417 dX11_thread_1 ?_
  refine lv_iload_n hx hb dX11_thread_4 rfl (lv_at hl 1 rfl) ?_
  refine vp_callSi (W.runV (As := [.int a]) (rest := []) ⟨hx, hb, hml, hown, ht⟩ (c_X0_has l dC dI h g ca iv lv fa la hI a) (kV 1 ht m_472 m_473 m_474 m_80 m_475 rfl rfl hd_X0_has_v ⟨Nat.le_of_ble_eq_true rfl, Nat.le_of_ble_eq_true rfl⟩) (vR hP hK (rX_0 hK hP)) rfl rfl hl.1 rfl (lv_room (Nat.le_of_ble_eq_true rfl)) dX11_thread_5 ⟨Nat.le_of_ble_eq_true rfl, Nat.le_of_ble_eq_true rfl⟩) (fun r1 hr1 => ?_)
  rcases hr1 with ⟨rfl, fr1⟩ | ⟨rfl, fr1⟩
  · skip
    have i_0_7 : 0 ≤ (iv 0 7).toInt ∧ (iv 0 7).toInt ≤ 10 := hI.1 0 7
    have fr1 : (0 ≤ (a : Int32).toInt ∧ (a : Int32).toInt < ((iv 0 7) : Int32).toInt) := fr1
    refine lv_if_ne (tgt := 14) hx hb dX11_thread_8 (by decide) (fun c2 => ?_) (fun c2 => ?_)
    · skip
      refine lv_iload_n hx hb dX11_thread_14 rfl (lv_at hl 2 rfl) ?_
      refine lv_iconst (v := 1) hx hb dX11_thread_15 (by decide) ?_
      refine lv_sipush (v := 999) hx hb dX11_thread_16 (by decide) ?_
      refine vp_callSi (W.runS (As := [.int b, .int 1, .int 999]) (rest := []) ⟨hx, hb, hml, hown, ht⟩ (c_X11_within l dC dI b 1 999 (b.toInt) (1) (999) (rfl : (b).toInt = _) (by decide : (1 : Int32).toInt = 1) (by decide : (999 : Int32).toInt = 999)) (kS 3 ht m_453 m_454 m_77 m_455 rfl rfl hd_X11_within_v ⟨Nat.le_of_ble_eq_true rfl, Nat.le_of_ble_eq_true rfl⟩) (sR noP (hK.sub (tys' := []) [] rfl)) rfl rfl hl.1 rfl (lv_room (Nat.le_of_ble_eq_true rfl)) dX11_thread_19 ⟨Nat.le_of_ble_eq_true rfl, Nat.le_of_ble_eq_true rfl⟩) (fun r3 hr3 => ?_)
      rcases hr3 with ⟨rfl, fr3⟩ | ⟨rfl, fr3⟩
      · skip
        refine lv_if_ne (tgt := 28) hx hb dX11_thread_22 (by decide) (fun c4 => ?_) (fun c4 => ?_)
        · skip
          refine lv_aload_n hx hb dX11_thread_28 rfl (lv_at hl 0 rfl) ?_
          refine gX_11_2 hx hb ht hown hK hP m_417 dX11_thread_29 ?_
          refine gX_0_1 hx hb ht hown hK hP m_155 dX11_thread_32 ?_
          refine lv_iload_n hx hb dX11_thread_35 rfl (lv_at hl 1 rfl) ?_
          refine lX_0_1 hx hb hK hP (f := (fa 0 1)) rfl (vp_in_iff.mpr ⟨by omega, by omega⟩) dX11_thread_36 ?_
          refine lv_topi (fun v5 ev5 => ?_)
          have tv5 : 0 ≤ v5.toInt ∧ v5.toInt ≤ 12 := by rw [ev5]; exact hI.2 0 1 _
          refine lv_bipush (v := 12) hx hb dX11_thread_37 (by decide) ?_
          refine lv_icmp_lt (tgt := 47) hx hb dX11_thread_39 (by decide) (fun c6 => ?_) (fun c6 => ?_)
          · have fc6 := z_lt (rfl : (v5).toInt = _) (by decide : (12 : Int32).toInt = 12) c6
            refine lv_aload_n hx hb dX11_thread_47 rfl (lv_at hl 0 rfl) ?_
            refine gX_11_2 hx hb ht hown hK hP m_417 dX11_thread_48 ?_
            refine lv_iload_n hx hb dX11_thread_51 rfl (lv_at hl 1 rfl) ?_
            refine lv_iload_n hx hb dX11_thread_52 rfl (lv_at hl 2 rfl) ?_
            have hFc := free_all hD hS hA
            refine va_calli (va_runV (As := [.int a, .int b]) (rest := []) ⟨hx, hb, hml, hown, ht⟩ (c_X0_reel l dC dI s.heap.size h g ca iv lv fa la hI a b (show 0 ≤ ((fa 0 1) (a : Int32).toNatClampNeg).toInt ∧ ((fa 0 1) (a : Int32).toNatClampNeg).toInt ≤ 11 from by rw [← ev5]; exact ⟨by omega, by omega⟩) ⟨by omega, by omega⟩) (kV 2 ht m_945 m_946 m_947 m_80 m_948 rfl rfl hd_X0_reel_v ⟨Nat.le_of_ble_eq_true rfl, Nat.le_of_ble_eq_true rfl⟩) (vW hP hK hD (rX_0 hK hP)) rfl rfl hl.1 rfl (lv_room (Nat.le_of_ble_eq_true rfl)) dX11_thread_53 ⟨Nat.le_of_ble_eq_true rfl, Nat.le_of_ble_eq_true rfl⟩) hS (fun q _ h => hFc q h) hFc (fun r7 u t H1 locs ht9 hvm hr7 hB hz1 hk1 hS => ?_)
            obtain ⟨n8, n9, hn8, hr7, rfl⟩ := hr7
            have hn9 : ∀ j, inb (bA 0 5 j) (n9 j) := fun j => full_i _
            obtain ⟨hP, hD⟩ := hB
            rw [ht9] at hP
            generalize H1 = H at hP hS ⊢
            have hP : va_P (dC, dI) classes (WX h g ca iv lv (u2 (u2 fa 0 1 n8) 0 5 n9) la) H := hP
            have hD : va_D A (WX h g ca iv lv (u2 (u2 fa 0 1 n8) 0 5 n9) la) := (show va_D _ (WX h g ca iv lv (u2 (u2 fa 0 1 n8) 0 5 n9) la) from hD).weaken (fun _ _ _ h => hFc _ h)
            have hP9 : va_P (dC, dI) classes (WX h g ca iv lv (u2 (u2 fa 0 1 n8) 0 5 n9) la) H := hP
            have hD9 : va_D A (WX h g ca iv lv (u2 (u2 fa 0 1 n8) 0 5 n9) la) := hD
            exact W.iret (v := r7) hx hb hr (fun t ht9 hW => ⟨⟨r7, (iv, lv, (u2 (u2 fa 0 1 n8) 0 5 n9), la), rfl, ⟨n8, n9, hn8, ⟨by omega, by omega⟩, rfl⟩, by rw [ht9]; exact hP9, hD9⟩, hS.F ht9⟩) hS.2.2 dX11_thread_56
          · have fc6 := z_nlt (rfl : (v5).toInt = _) (by decide : (12 : Int32).toInt = 12) c6
            refine lv_ldc hx hb hown (ht _ m_463) dX11_thread_42 ?_
            refine lv_goto (tgt := 56) hx hb dX11_thread_44 (by decide) ?_
            have hP9 : va_P (dC, dI) classes (WX h g ca iv lv (u2 (u2 fa 0 1 (fa 0 1)) 0 5 (fa 0 5)) la) s.heap := hP
            have hD9 : va_D A (WX h g ca iv lv (u2 (u2 fa 0 1 (fa 0 1)) 0 5 (fa 0 5)) la) := hD
            exact W.iret (v := (-100004)) hx hb hr (fun t ht9 hW => ⟨⟨(-100004), (iv, lv, (u2 (u2 fa 0 1 (fa 0 1)) 0 5 (fa 0 5)), la), rfl, ⟨(fa 0 1), (fa 0 5), (hI.2 0 1), ⟨by decide, by decide⟩, rfl⟩, by rw [ht9]; exact hP9, hD9⟩, hS.F ht9⟩) hS.2.2 dX11_thread_56
        · exact absurd c4 (by decide)
      · skip
        refine lv_if_ne (tgt := 28) hx hb dX11_thread_22 (by decide) (fun c10 => ?_) (fun c10 => ?_)
        · exact absurd rfl c10
        · skip
          refine lv_ldc hx hb hown (ht _ m_456) dX11_thread_25 ?_
          have hP9 : va_P (dC, dI) classes (WX h g ca iv lv (u2 (u2 fa 0 1 (fa 0 1)) 0 5 (fa 0 5)) la) s.heap := hP
          have hD9 : va_D A (WX h g ca iv lv (u2 (u2 fa 0 1 (fa 0 1)) 0 5 (fa 0 5)) la) := hD
          exact W.iret (v := (-100002)) hx hb hr (fun t ht9 hW => ⟨⟨(-100002), (iv, lv, (u2 (u2 fa 0 1 (fa 0 1)) 0 5 (fa 0 5)), la), rfl, ⟨(fa 0 1), (fa 0 5), (hI.2 0 1), ⟨by decide, by decide⟩, rfl⟩, by rw [ht9]; exact hP9, hD9⟩, hS.F ht9⟩) hS.2.2 dX11_thread_27
    · exact absurd c2 (by decide)
  · skip
    have i_0_7 : 0 ≤ (iv 0 7).toInt ∧ (iv 0 7).toInt ≤ 10 := hI.1 0 7
    have fr1 : ¬ (0 ≤ (a : Int32).toInt ∧ (a : Int32).toInt < ((iv 0 7) : Int32).toInt) := fr1
    refine lv_if_ne (tgt := 14) hx hb dX11_thread_8 (by decide) (fun c11 => ?_) (fun c11 => ?_)
    · exact absurd rfl c11
    · skip
      refine lv_ldc hx hb hown (ht _ m_476) dX11_thread_11 ?_
      have hP9 : va_P (dC, dI) classes (WX h g ca iv lv (u2 (u2 fa 0 1 (fa 0 1)) 0 5 (fa 0 5)) la) s.heap := hP
      have hD9 : va_D A (WX h g ca iv lv (u2 (u2 fa 0 1 (fa 0 1)) 0 5 (fa 0 5)) la) := hD
      exact W.iret (v := (-100001)) hx hb hr (fun t ht9 hW => ⟨⟨(-100001), (iv, lv, (u2 (u2 fa 0 1 (fa 0 1)) 0 5 (fa 0 5)), la), rfl, ⟨(fa 0 1), (fa 0 5), (hI.2 0 1), ⟨by decide, by decide⟩, rfl⟩, by rw [ht9]; exact hP9, hD9⟩, hS.F ht9⟩) hS.2.2 dX11_thread_13
set_option maxHeartbeats 4000000 in
set_option maxRecDepth 100000 in
/-- X11_turns -/
theorem c_X11_turns (l : Launch) (dC : Nat → ClassId) (dI : Nat → Nat → Nat) (sz : Nat) (h : Nat) (g : Nat → Nat → Nat) (ca : Nat → Nat → ClassId) (iv : Nat → Nat → Int32) (lv : Nat → Nat → Int64) (fa : Nat → Nat → Nat → Int32) (la : Nat → Nat → Nat → Int64) (hI : IX iv fa) (a : Int32) (b : Int32) : Met l yX11_turns (wc yX11_turns cX11_turns 3 (some .int)) ({ frames := 1, cells := 0, slots := 0, locals := 24 } : Room) (pW (dC, dI) classes (WX h g ca iv lv fa la) (TX ca) sz [.ref h, .int a, .int b]) (va_Qi (fun r (u : SS) => ∃ (na_0_2 : Nat → Int32) (na_0_6 : Nat → Int32), (∀ j, inb (bA 0 2 j) (na_0_2 j)) ∧ ((-100004) ≤ r.toInt ∧ r.toInt ≤ 8) ∧ u = (iv, lv, (u2 (u2 fa 0 2 na_0_2) 0 6 na_0_6), la)) (bX (dC, dI) h g ca (va_A (WX h g ca iv lv fa la) sz)) (va_A (WX h g ca iv lv fa la) sz)) 0 0 (va_A (WX h g ca iv lv fa la) sz) := by
  refine Met.ofW (cc := cX11_turns) (maxL := 3) (ret := (some .int)) (by decide) rfl ?_
  intro p e s m args below meth c s₁ B hml hv
  obtain ⟨rfl, hsz, hP, hK, hD0⟩ := hv
  have hx := B.exec
  have hb := B.bytes
  have hr := B.returns
  have ht := tb_tl (atoms_spec (ws := wc yX11_turns cX11_turns 3 (some .int)) B.pre)
  have hown : s.vm.findClass RX11 = some m.cls := findClass_of_methodNamed B.named
  have hlocks := B.notSynchronized
  subst hsz
  have hD := hD0.self (sz := s.heap.size)
  generalize hAe : va_A (WX h g ca iv lv fa la) s.heap.size = A at hD ⊢
  have hA : ∀ q : Nat, s.heap.size ≤ q → A q := fun q h => by rw [← hAe]; exact Or.inr h
  have hS : va_S A s.heap s.heap [] := va_S.rf
  have hl := lv_entry [.ref h, .int a, .int b] (n := 3) (Nat.le_of_ble_eq_true rfl)
  rw [lg_entry_eq]
  generalize (lg_sl [.ref h, .int a, .int b] ++ List.replicate (3 - (lg_sl [.ref h, .int a, .int b]).length) Slot.unset).toArray = ls at hl ⊢
  have hl : lv_has ls 3 [(0, .ref h), (1, .int a), (2, .int b)] := hl
  refine lv_aload_n hx hb dX11_turns_0 rfl (lv_at hl 0 rfl) ?_
  refine gX_11_2 hx hb ht hown hK hP m_417 dX11_turns_1 ?_
  refine lv_iload_n hx hb dX11_turns_4 rfl (lv_at hl 1 rfl) ?_
  refine vp_callSi (W.runV (As := [.int a]) (rest := []) ⟨hx, hb, hml, hown, ht⟩ (c_X0_has l dC dI h g ca iv lv fa la hI a) (kV 1 ht m_472 m_473 m_474 m_80 m_475 rfl rfl hd_X0_has_v ⟨Nat.le_of_ble_eq_true rfl, Nat.le_of_ble_eq_true rfl⟩) (vR hP hK (rX_0 hK hP)) rfl rfl hl.1 rfl (lv_room (Nat.le_of_ble_eq_true rfl)) dX11_turns_5 ⟨Nat.le_of_ble_eq_true rfl, Nat.le_of_ble_eq_true rfl⟩) (fun r1 hr1 => ?_)
  rcases hr1 with ⟨rfl, fr1⟩ | ⟨rfl, fr1⟩
  · skip
    have i_0_7 : 0 ≤ (iv 0 7).toInt ∧ (iv 0 7).toInt ≤ 10 := hI.1 0 7
    have fr1 : (0 ≤ (a : Int32).toInt ∧ (a : Int32).toInt < ((iv 0 7) : Int32).toInt) := fr1
    refine lv_if_ne (tgt := 14) hx hb dX11_turns_8 (by decide) (fun c2 => ?_) (fun c2 => ?_)
    · skip
      refine lv_iload_n hx hb dX11_turns_14 rfl (lv_at hl 2 rfl) ?_
      refine lv_iconst (v := 0) hx hb dX11_turns_15 (by decide) ?_
      refine lv_sipush (v := 999) hx hb dX11_turns_16 (by decide) ?_
      refine vp_callSi (W.runS (As := [.int b, .int 0, .int 999]) (rest := []) ⟨hx, hb, hml, hown, ht⟩ (c_X11_within l dC dI b 0 999 (b.toInt) (0) (999) (rfl : (b).toInt = _) (by decide : (0 : Int32).toInt = 0) (by decide : (999 : Int32).toInt = 999)) (kS 3 ht m_453 m_454 m_77 m_455 rfl rfl hd_X11_within_v ⟨Nat.le_of_ble_eq_true rfl, Nat.le_of_ble_eq_true rfl⟩) (sR noP (hK.sub (tys' := []) [] rfl)) rfl rfl hl.1 rfl (lv_room (Nat.le_of_ble_eq_true rfl)) dX11_turns_19 ⟨Nat.le_of_ble_eq_true rfl, Nat.le_of_ble_eq_true rfl⟩) (fun r3 hr3 => ?_)
      rcases hr3 with ⟨rfl, fr3⟩ | ⟨rfl, fr3⟩
      · skip
        refine lv_if_ne (tgt := 28) hx hb dX11_turns_22 (by decide) (fun c4 => ?_) (fun c4 => ?_)
        · skip
          refine lv_aload_n hx hb dX11_turns_28 rfl (lv_at hl 0 rfl) ?_
          refine gX_11_2 hx hb ht hown hK hP m_417 dX11_turns_29 ?_
          refine gX_0_2 hx hb ht hown hK hP m_157 dX11_turns_32 ?_
          refine lv_iload_n hx hb dX11_turns_35 rfl (lv_at hl 1 rfl) ?_
          refine lX_0_2 hx hb hK hP (f := (fa 0 2)) rfl (vp_in_iff.mpr ⟨by omega, by omega⟩) dX11_turns_36 ?_
          refine lv_topi (fun v5 ev5 => ?_)
          have tv5 : 0 ≤ v5.toInt ∧ v5.toInt ≤ 8 := by rw [ev5]; exact hI.2 0 2 _
          refine lv_bipush (v := 8) hx hb dX11_turns_37 (by decide) ?_
          refine lv_icmp_lt (tgt := 47) hx hb dX11_turns_39 (by decide) (fun c6 => ?_) (fun c6 => ?_)
          · have fc6 := z_lt (rfl : (v5).toInt = _) (by decide : (8 : Int32).toInt = 8) c6
            refine lv_aload_n hx hb dX11_turns_47 rfl (lv_at hl 0 rfl) ?_
            refine gX_11_2 hx hb ht hown hK hP m_417 dX11_turns_48 ?_
            refine lv_iload_n hx hb dX11_turns_51 rfl (lv_at hl 1 rfl) ?_
            refine lv_iload_n hx hb dX11_turns_52 rfl (lv_at hl 2 rfl) ?_
            have hFc := free_all hD hS hA
            refine va_calli (va_runV (As := [.int a, .int b]) (rest := []) ⟨hx, hb, hml, hown, ht⟩ (c_X0_untwist l dC dI s.heap.size h g ca iv lv fa la hI a b (show 0 ≤ ((fa 0 2) (a : Int32).toNatClampNeg).toInt ∧ ((fa 0 2) (a : Int32).toNatClampNeg).toInt ≤ 7 from by rw [← ev5]; exact ⟨by omega, by omega⟩) ⟨by omega, by omega⟩) (kV 2 ht m_977 m_978 m_979 m_80 m_980 rfl rfl hd_X0_untwist_v ⟨Nat.le_of_ble_eq_true rfl, Nat.le_of_ble_eq_true rfl⟩) (vW hP hK hD (rX_0 hK hP)) rfl rfl hl.1 rfl (lv_room (Nat.le_of_ble_eq_true rfl)) dX11_turns_53 ⟨Nat.le_of_ble_eq_true rfl, Nat.le_of_ble_eq_true rfl⟩) hS (fun q _ h => hFc q h) hFc (fun r7 u t H1 locs ht9 hvm hr7 hB hz1 hk1 hS => ?_)
            obtain ⟨n8, n9, hn8, hr7, rfl⟩ := hr7
            have hn9 : ∀ j, inb (bA 0 6 j) (n9 j) := fun j => full_i _
            obtain ⟨hP, hD⟩ := hB
            rw [ht9] at hP
            generalize H1 = H at hP hS ⊢
            have hP : va_P (dC, dI) classes (WX h g ca iv lv (u2 (u2 fa 0 2 n8) 0 6 n9) la) H := hP
            have hD : va_D A (WX h g ca iv lv (u2 (u2 fa 0 2 n8) 0 6 n9) la) := (show va_D _ (WX h g ca iv lv (u2 (u2 fa 0 2 n8) 0 6 n9) la) from hD).weaken (fun _ _ _ h => hFc _ h)
            have hP9 : va_P (dC, dI) classes (WX h g ca iv lv (u2 (u2 fa 0 2 n8) 0 6 n9) la) H := hP
            have hD9 : va_D A (WX h g ca iv lv (u2 (u2 fa 0 2 n8) 0 6 n9) la) := hD
            exact W.iret (v := r7) hx hb hr (fun t ht9 hW => ⟨⟨r7, (iv, lv, (u2 (u2 fa 0 2 n8) 0 6 n9), la), rfl, ⟨n8, n9, hn8, ⟨by omega, by omega⟩, rfl⟩, by rw [ht9]; exact hP9, hD9⟩, hS.F ht9⟩) hS.2.2 dX11_turns_56
          · have fc6 := z_nlt (rfl : (v5).toInt = _) (by decide : (8 : Int32).toInt = 8) c6
            refine lv_ldc hx hb hown (ht _ m_463) dX11_turns_42 ?_
            refine lv_goto (tgt := 56) hx hb dX11_turns_44 (by decide) ?_
            have hP9 : va_P (dC, dI) classes (WX h g ca iv lv (u2 (u2 fa 0 2 (fa 0 2)) 0 6 (fa 0 6)) la) s.heap := hP
            have hD9 : va_D A (WX h g ca iv lv (u2 (u2 fa 0 2 (fa 0 2)) 0 6 (fa 0 6)) la) := hD
            exact W.iret (v := (-100004)) hx hb hr (fun t ht9 hW => ⟨⟨(-100004), (iv, lv, (u2 (u2 fa 0 2 (fa 0 2)) 0 6 (fa 0 6)), la), rfl, ⟨(fa 0 2), (fa 0 6), (hI.2 0 2), ⟨by decide, by decide⟩, rfl⟩, by rw [ht9]; exact hP9, hD9⟩, hS.F ht9⟩) hS.2.2 dX11_turns_56
        · exact absurd c4 (by decide)
      · skip
        refine lv_if_ne (tgt := 28) hx hb dX11_turns_22 (by decide) (fun c10 => ?_) (fun c10 => ?_)
        · exact absurd rfl c10
        · skip
          refine lv_ldc hx hb hown (ht _ m_456) dX11_turns_25 ?_
          have hP9 : va_P (dC, dI) classes (WX h g ca iv lv (u2 (u2 fa 0 2 (fa 0 2)) 0 6 (fa 0 6)) la) s.heap := hP
          have hD9 : va_D A (WX h g ca iv lv (u2 (u2 fa 0 2 (fa 0 2)) 0 6 (fa 0 6)) la) := hD
          exact W.iret (v := (-100002)) hx hb hr (fun t ht9 hW => ⟨⟨(-100002), (iv, lv, (u2 (u2 fa 0 2 (fa 0 2)) 0 6 (fa 0 6)), la), rfl, ⟨(fa 0 2), (fa 0 6), (hI.2 0 2), ⟨by decide, by decide⟩, rfl⟩, by rw [ht9]; exact hP9, hD9⟩, hS.F ht9⟩) hS.2.2 dX11_turns_27
    · exact absurd c2 (by decide)
  · skip
    have i_0_7 : 0 ≤ (iv 0 7).toInt ∧ (iv 0 7).toInt ≤ 10 := hI.1 0 7
    have fr1 : ¬ (0 ≤ (a : Int32).toInt ∧ (a : Int32).toInt < ((iv 0 7) : Int32).toInt) := fr1
    refine lv_if_ne (tgt := 14) hx hb dX11_turns_8 (by decide) (fun c11 => ?_) (fun c11 => ?_)
    · exact absurd rfl c11
    · skip
      refine lv_ldc hx hb hown (ht _ m_476) dX11_turns_11 ?_
      have hP9 : va_P (dC, dI) classes (WX h g ca iv lv (u2 (u2 fa 0 2 (fa 0 2)) 0 6 (fa 0 6)) la) s.heap := hP
      have hD9 : va_D A (WX h g ca iv lv (u2 (u2 fa 0 2 (fa 0 2)) 0 6 (fa 0 6)) la) := hD
      exact W.iret (v := (-100001)) hx hb hr (fun t ht9 hW => ⟨⟨(-100001), (iv, lv, (u2 (u2 fa 0 2 (fa 0 2)) 0 6 (fa 0 6)), la), rfl, ⟨(fa 0 2), (fa 0 6), (hI.2 0 2), ⟨by decide, by decide⟩, rfl⟩, by rw [ht9]; exact hP9, hD9⟩, hS.F ht9⟩) hS.2.2 dX11_turns_13
set_option maxHeartbeats 4000000 in
set_option maxRecDepth 100000 in
/-- X11_twist -/
theorem c_X11_twist (l : Launch) (dC : Nat → ClassId) (dI : Nat → Nat → Nat) (h : Nat) (g : Nat → Nat → Nat) (ca : Nat → Nat → ClassId) (iv : Nat → Nat → Int32) (lv : Nat → Nat → Int64) (fa : Nat → Nat → Nat → Int32) (la : Nat → Nat → Nat → Int64) (hI : IX iv fa) (a : Int32) : Met l yX11_twist (wc yX11_twist cX11_twist 2 (some .int)) ({ frames := 1, cells := 0, slots := 0, locals := 21 } : Room) (pR (dC, dI) classes (WX h g ca iv lv fa la) (TX ca) [.ref h, .int a]) (vp_Si (fun r => True)) 0 0 (fun _ => False) := by
  refine Met.ofW (cc := cX11_twist) (maxL := 2) (ret := (some .int)) (by decide) rfl ?_
  intro p e s m args below meth c s₁ B hml hv
  obtain ⟨rfl, hP, hK⟩ := hv
  have hx := B.exec
  have hb := B.bytes
  have hr := B.returns
  have ht := tb_tl (atoms_spec (ws := wc yX11_twist cX11_twist 2 (some .int)) B.pre)
  have hown : s.vm.findClass RX11 = some m.cls := findClass_of_methodNamed B.named
  have hlocks := B.notSynchronized
  have hl := lv_entry [.ref h, .int a] (n := 2) (Nat.le_of_ble_eq_true rfl)
  rw [lg_entry_eq]
  generalize (lg_sl [.ref h, .int a] ++ List.replicate (2 - (lg_sl [.ref h, .int a]).length) Slot.unset).toArray = ls at hl ⊢
  have hl : lv_has ls 2 [(0, .ref h), (1, .int a)] := hl
  refine lv_aload_n hx hb dX11_twist_0 rfl (lv_at hl 0 rfl) ?_
  refine gX_11_2 hx hb ht hown hK hP m_417 dX11_twist_1 ?_
  refine lv_iload_n hx hb dX11_twist_4 rfl (lv_at hl 1 rfl) ?_
  refine vp_callSi (W.runV (As := [.int a]) (rest := []) ⟨hx, hb, hml, hown, ht⟩ (c_X0_has l dC dI h g ca iv lv fa la hI a) (kV 1 ht m_472 m_473 m_474 m_80 m_475 rfl rfl hd_X0_has_v ⟨Nat.le_of_ble_eq_true rfl, Nat.le_of_ble_eq_true rfl⟩) (vR hP hK (rX_0 hK hP)) rfl rfl hl.1 rfl (lv_room (Nat.le_of_ble_eq_true rfl)) dX11_twist_5 ⟨Nat.le_of_ble_eq_true rfl, Nat.le_of_ble_eq_true rfl⟩) (fun r1 hr1 => ?_)
  rcases hr1 with ⟨rfl, fr1⟩ | ⟨rfl, fr1⟩
  · skip
    have i_0_7 : 0 ≤ (iv 0 7).toInt ∧ (iv 0 7).toInt ≤ 10 := hI.1 0 7
    have fr1 : (0 ≤ (a : Int32).toInt ∧ (a : Int32).toInt < ((iv 0 7) : Int32).toInt) := fr1
    refine lv_if_eq (tgt := 22) hx hb dX11_twist_8 (by decide) (fun c2 => ?_) (fun c2 => ?_)
    · exact absurd c2 (by decide)
    · skip
      refine lv_aload_n hx hb dX11_twist_11 rfl (lv_at hl 0 rfl) ?_
      refine gX_11_2 hx hb ht hown hK hP m_417 dX11_twist_12 ?_
      refine lv_iload_n hx hb dX11_twist_15 rfl (lv_at hl 1 rfl) ?_
      refine vp_callSi (W.runV (As := [.int a]) (rest := []) ⟨hx, hb, hml, hown, ht⟩ (c_X0_middleTwist l dC dI h g ca iv lv fa la hI a ⟨by omega, by omega⟩) (kV 1 ht m_985 m_986 m_987 m_80 m_988 rfl rfl hd_X0_middleTwist_v ⟨Nat.le_of_ble_eq_true rfl, Nat.le_of_ble_eq_true rfl⟩) (vR hP hK (rX_0 hK hP)) rfl rfl hl.1 rfl (lv_room (Nat.le_of_ble_eq_true rfl)) dX11_twist_16 ⟨Nat.le_of_ble_eq_true rfl, Nat.le_of_ble_eq_true rfl⟩) (fun r3 hr3 => ?_)
      refine lv_goto (tgt := 24) hx hb dX11_twist_19 (by decide) ?_
      exact W.iret (v := r3) hx hb hr (fun t ht9 hW => ⟨r3, rfl, trivial, ht9⟩) (fun q hq => by cases hq) dX11_twist_24
  · skip
    have i_0_7 : 0 ≤ (iv 0 7).toInt ∧ (iv 0 7).toInt ≤ 10 := hI.1 0 7
    have fr1 : ¬ (0 ≤ (a : Int32).toInt ∧ (a : Int32).toInt < ((iv 0 7) : Int32).toInt) := fr1
    refine lv_if_eq (tgt := 22) hx hb dX11_twist_8 (by decide) (fun c4 => ?_) (fun c4 => ?_)
    · skip
      refine lv_ldc hx hb hown (ht _ m_476) dX11_twist_22 ?_
      exact W.iret (v := (-100001)) hx hb hr (fun t ht9 hW => ⟨(-100001), rfl, trivial, ht9⟩) (fun q hq => by cases hq) dX11_twist_24
    · exact absurd rfl c4
set_option maxHeartbeats 4000000 in
set_option maxRecDepth 100000 in
/-- X11_burnt -/
theorem c_X11_burnt (l : Launch) (dC : Nat → ClassId) (dI : Nat → Nat → Nat) (sz : Nat) (h : Nat) (g : Nat → Nat → Nat) (ca : Nat → Nat → ClassId) (iv : Nat → Nat → Int32) (lv : Nat → Nat → Int64) (fa : Nat → Nat → Nat → Int32) (la : Nat → Nat → Nat → Int64) (hI : IX iv fa) (a : Int32) (b : Int32) (d : Int32) (k : Int32) : Met l yX11_burnt (wc yX11_burnt cX11_burnt 5 (some .int)) ({ frames := 1, cells := 0, slots := 0, locals := 22 } : Room) (pW (dC, dI) classes (WX h g ca iv lv fa la) (TX ca) sz [.ref h, .int a, .int b, .int d, .int k]) (va_Qi (fun r (u : SS) => ∃ (na_0_3 : Nat → Int32) (na_0_4 : Nat → Int32), ((-100002) ≤ r.toInt ∧ r.toInt ≤ 1) ∧ u = (iv, lv, (u2 (u2 fa 0 3 na_0_3) 0 4 na_0_4), la)) (bX (dC, dI) h g ca (va_A (WX h g ca iv lv fa la) sz)) (va_A (WX h g ca iv lv fa la) sz)) 0 0 (va_A (WX h g ca iv lv fa la) sz) := by
  refine Met.ofW (cc := cX11_burnt) (maxL := 5) (ret := (some .int)) (by decide) rfl ?_
  intro p e s m args below meth c s₁ B hml hv
  obtain ⟨rfl, hsz, hP, hK, hD0⟩ := hv
  have hx := B.exec
  have hb := B.bytes
  have hr := B.returns
  have ht := tb_tl (atoms_spec (ws := wc yX11_burnt cX11_burnt 5 (some .int)) B.pre)
  have hown : s.vm.findClass RX11 = some m.cls := findClass_of_methodNamed B.named
  have hlocks := B.notSynchronized
  subst hsz
  have hD := hD0.self (sz := s.heap.size)
  generalize hAe : va_A (WX h g ca iv lv fa la) s.heap.size = A at hD ⊢
  have hA : ∀ q : Nat, s.heap.size ≤ q → A q := fun q h => by rw [← hAe]; exact Or.inr h
  have hS : va_S A s.heap s.heap [] := va_S.rf
  have hl := lv_entry [.ref h, .int a, .int b, .int d, .int k] (n := 5) (Nat.le_of_ble_eq_true rfl)
  rw [lg_entry_eq]
  generalize (lg_sl [.ref h, .int a, .int b, .int d, .int k] ++ List.replicate (5 - (lg_sl [.ref h, .int a, .int b, .int d, .int k]).length) Slot.unset).toArray = ls at hl ⊢
  have hl : lv_has ls 5 [(0, .ref h), (1, .int a), (2, .int b), (3, .int d), (4, .int k)] := hl
  refine lv_aload_n hx hb dX11_burnt_0 rfl (lv_at hl 0 rfl) ?_
  refine gX_11_2 hx hb ht hown hK hP m_417 dX11_burnt_1 ?_
  refine lv_iload_n hx hb dX11_burnt_4 rfl (lv_at hl 1 rfl) ?_
  refine vp_callSi (W.runV (As := [.int a]) (rest := []) ⟨hx, hb, hml, hown, ht⟩ (c_X0_has l dC dI h g ca iv lv fa la hI a) (kV 1 ht m_472 m_473 m_474 m_80 m_475 rfl rfl hd_X0_has_v ⟨Nat.le_of_ble_eq_true rfl, Nat.le_of_ble_eq_true rfl⟩) (vR hP hK (rX_0 hK hP)) rfl rfl hl.1 rfl (lv_room (Nat.le_of_ble_eq_true rfl)) dX11_burnt_5 ⟨Nat.le_of_ble_eq_true rfl, Nat.le_of_ble_eq_true rfl⟩) (fun r1 hr1 => ?_)
  rcases hr1 with ⟨rfl, fr1⟩ | ⟨rfl, fr1⟩
  · skip
    have i_0_7 : 0 ≤ (iv 0 7).toInt ∧ (iv 0 7).toInt ≤ 10 := hI.1 0 7
    have fr1 : (0 ≤ (a : Int32).toInt ∧ (a : Int32).toInt < ((iv 0 7) : Int32).toInt) := fr1
    refine lv_if_ne (tgt := 14) hx hb dX11_burnt_8 (by decide) (fun c2 => ?_) (fun c2 => ?_)
    · skip
      refine lv_iload_n hx hb dX11_burnt_14 rfl (lv_at hl 2 rfl) ?_
      refine lv_iconst (v := 0) hx hb dX11_burnt_15 (by decide) ?_
      refine lv_iconst (v := 1) hx hb dX11_burnt_16 (by decide) ?_
      refine vp_callSi (W.runS (As := [.int b, .int 0, .int 1]) (rest := []) ⟨hx, hb, hml, hown, ht⟩ (c_X11_within l dC dI b 0 1 (b.toInt) (0) (1) (rfl : (b).toInt = _) (by decide : (0 : Int32).toInt = 0) (by decide : (1 : Int32).toInt = 1)) (kS 3 ht m_453 m_454 m_77 m_455 rfl rfl hd_X11_within_v ⟨Nat.le_of_ble_eq_true rfl, Nat.le_of_ble_eq_true rfl⟩) (sR noP (hK.sub (tys' := []) [] rfl)) rfl rfl hl.1 rfl (lv_room (Nat.le_of_ble_eq_true rfl)) dX11_burnt_17 ⟨Nat.le_of_ble_eq_true rfl, Nat.le_of_ble_eq_true rfl⟩) (fun r3 hr3 => ?_)
      rcases hr3 with ⟨rfl, fr3⟩ | ⟨rfl, fr3⟩
      · skip
        refine lv_if_eq (tgt := 46) hx hb dX11_burnt_20 (by decide) (fun c4 => ?_) (fun c4 => ?_)
        · exact absurd c4 (by decide)
        · skip
          refine lv_iload_n hx hb dX11_burnt_23 rfl (lv_at hl 3 rfl) ?_
          refine lv_iconst (v := 0) hx hb dX11_burnt_24 (by decide) ?_
          refine lv_sipush (v := 999) hx hb dX11_burnt_25 (by decide) ?_
          refine vp_callSi (W.runS (As := [.int d, .int 0, .int 999]) (rest := []) ⟨hx, hb, hml, hown, ht⟩ (c_X11_within l dC dI d 0 999 (d.toInt) (0) (999) (rfl : (d).toInt = _) (by decide : (0 : Int32).toInt = 0) (by decide : (999 : Int32).toInt = 999)) (kS 3 ht m_453 m_454 m_77 m_455 rfl rfl hd_X11_within_v ⟨Nat.le_of_ble_eq_true rfl, Nat.le_of_ble_eq_true rfl⟩) (sR noP (hK.sub (tys' := []) [] rfl)) rfl rfl hl.1 rfl (lv_room (Nat.le_of_ble_eq_true rfl)) dX11_burnt_28 ⟨Nat.le_of_ble_eq_true rfl, Nat.le_of_ble_eq_true rfl⟩) (fun r5 hr5 => ?_)
          rcases hr5 with ⟨rfl, fr5⟩ | ⟨rfl, fr5⟩
          · skip
            refine lv_if_eq (tgt := 46) hx hb dX11_burnt_31 (by decide) (fun c6 => ?_) (fun c6 => ?_)
            · exact absurd c6 (by decide)
            · skip
              refine lv_iload hx hb dX11_burnt_34 (lv_at hl 4 rfl) ?_
              refine lv_iload_n hx hb dX11_burnt_36 rfl (lv_at hl 3 rfl) ?_
              refine lv_sipush (v := 999) hx hb dX11_burnt_37 (by decide) ?_
              refine vp_callSi (W.runS (As := [.int k, .int d, .int 999]) (rest := []) ⟨hx, hb, hml, hown, ht⟩ (c_X11_within l dC dI k d 999 (k.toInt) (d.toInt) (999) (rfl : (k).toInt = _) (rfl : (d).toInt = _) (by decide : (999 : Int32).toInt = 999)) (kS 3 ht m_453 m_454 m_77 m_455 rfl rfl hd_X11_within_v ⟨Nat.le_of_ble_eq_true rfl, Nat.le_of_ble_eq_true rfl⟩) (sR noP (hK.sub (tys' := []) [] rfl)) rfl rfl hl.1 rfl (lv_room (Nat.le_of_ble_eq_true rfl)) dX11_burnt_40 ⟨Nat.le_of_ble_eq_true rfl, Nat.le_of_ble_eq_true rfl⟩) (fun r7 hr7 => ?_)
              rcases hr7 with ⟨rfl, fr7⟩ | ⟨rfl, fr7⟩
              · skip
                refine lv_if_ne (tgt := 49) hx hb dX11_burnt_43 (by decide) (fun c8 => ?_) (fun c8 => ?_)
                · skip
                  refine lv_iload_n hx hb dX11_burnt_49 rfl (lv_at hl 2 rfl) ?_
                  refine lv_if_ne (tgt := 66) hx hb dX11_burnt_50 (by decide) (fun c9 => ?_) (fun c9 => ?_)
                  · have fc9 := z_ne (rfl : (b).toInt = _) (by decide : (0 : Int32).toInt = 0) c9
                    refine lv_aload_n hx hb dX11_burnt_66 rfl (lv_at hl 0 rfl) ?_
                    refine gX_11_2 hx hb ht hown hK hP m_417 dX11_burnt_67 ?_
                    refine gX_0_4 hx hb ht hown hK hP m_161 dX11_burnt_70 ?_
                    refine lv_iload_n hx hb dX11_burnt_73 rfl (lv_at hl 1 rfl) ?_
                    refine lv_iload_n hx hb dX11_burnt_74 rfl (lv_at hl 3 rfl) ?_
                    refine tX_0_4 hx hb hK hP hD hS (f0 := (fa 0 4)) rfl (i := a) (x := d) (vp_in_iff.mpr ⟨by omega, by omega⟩) dX11_burnt_75 (fun f10 ef10 H locs hP hD hS => ?_)
                    have hf10 : ∀ j, inb (bA 0 4 j) (f10 j) := fun j => full_i _
                    refine lv_iconst (v := 1) hx hb dX11_burnt_76 (by decide) ?_
                    have hP9 : va_P (dC, dI) classes (WX h g ca iv lv (u2 (u2 fa 0 3 (fa 0 3)) 0 4 f10) la) H := hP
                    have hD9 : va_D A (WX h g ca iv lv (u2 (u2 fa 0 3 (fa 0 3)) 0 4 f10) la) := hD
                    exact W.iret (v := 1) hx hb hr (fun t ht9 hW => ⟨⟨1, (iv, lv, (u2 (u2 fa 0 3 (fa 0 3)) 0 4 f10), la), rfl, ⟨(fa 0 3), f10, ⟨by decide, by decide⟩, rfl⟩, by rw [ht9]; exact hP9, hD9⟩, hS.F ht9⟩) hS.2.2 dX11_burnt_77
                  · have fc9 := z_eq (rfl : (b).toInt = _) (by decide : (0 : Int32).toInt = 0) c9
                    refine lv_aload_n hx hb dX11_burnt_53 rfl (lv_at hl 0 rfl) ?_
                    refine gX_11_2 hx hb ht hown hK hP m_417 dX11_burnt_54 ?_
                    refine gX_0_3 hx hb ht hown hK hP m_159 dX11_burnt_57 ?_
                    refine lv_iload_n hx hb dX11_burnt_60 rfl (lv_at hl 1 rfl) ?_
                    refine lv_iload_n hx hb dX11_burnt_61 rfl (lv_at hl 3 rfl) ?_
                    refine tX_0_3 hx hb hK hP hD hS (f0 := (fa 0 3)) rfl (i := a) (x := d) (vp_in_iff.mpr ⟨by omega, by omega⟩) dX11_burnt_62 (fun f11 ef11 H locs hP hD hS => ?_)
                    have hf11 : ∀ j, inb (bA 0 3 j) (f11 j) := fun j => full_i _
                    refine lv_goto (tgt := 76) hx hb dX11_burnt_63 (by decide) ?_
                    refine lv_iconst (v := 1) hx hb dX11_burnt_76 (by decide) ?_
                    have hP9 : va_P (dC, dI) classes (WX h g ca iv lv (u2 (u2 fa 0 3 f11) 0 4 (fa 0 4)) la) H := hP
                    have hD9 : va_D A (WX h g ca iv lv (u2 (u2 fa 0 3 f11) 0 4 (fa 0 4)) la) := hD
                    exact W.iret (v := 1) hx hb hr (fun t ht9 hW => ⟨⟨1, (iv, lv, (u2 (u2 fa 0 3 f11) 0 4 (fa 0 4)), la), rfl, ⟨f11, (fa 0 4), ⟨by decide, by decide⟩, rfl⟩, by rw [ht9]; exact hP9, hD9⟩, hS.F ht9⟩) hS.2.2 dX11_burnt_77
                · exact absurd c8 (by decide)
              · skip
                refine lv_if_ne (tgt := 49) hx hb dX11_burnt_43 (by decide) (fun c12 => ?_) (fun c12 => ?_)
                · exact absurd rfl c12
                · skip
                  refine lv_ldc hx hb hown (ht _ m_456) dX11_burnt_46 ?_
                  have hP9 : va_P (dC, dI) classes (WX h g ca iv lv (u2 (u2 fa 0 3 (fa 0 3)) 0 4 (fa 0 4)) la) s.heap := hP
                  have hD9 : va_D A (WX h g ca iv lv (u2 (u2 fa 0 3 (fa 0 3)) 0 4 (fa 0 4)) la) := hD
                  exact W.iret (v := (-100002)) hx hb hr (fun t ht9 hW => ⟨⟨(-100002), (iv, lv, (u2 (u2 fa 0 3 (fa 0 3)) 0 4 (fa 0 4)), la), rfl, ⟨(fa 0 3), (fa 0 4), ⟨by decide, by decide⟩, rfl⟩, by rw [ht9]; exact hP9, hD9⟩, hS.F ht9⟩) hS.2.2 dX11_burnt_48
          · skip
            refine lv_if_eq (tgt := 46) hx hb dX11_burnt_31 (by decide) (fun c13 => ?_) (fun c13 => ?_)
            · skip
              refine lv_ldc hx hb hown (ht _ m_456) dX11_burnt_46 ?_
              have hP9 : va_P (dC, dI) classes (WX h g ca iv lv (u2 (u2 fa 0 3 (fa 0 3)) 0 4 (fa 0 4)) la) s.heap := hP
              have hD9 : va_D A (WX h g ca iv lv (u2 (u2 fa 0 3 (fa 0 3)) 0 4 (fa 0 4)) la) := hD
              exact W.iret (v := (-100002)) hx hb hr (fun t ht9 hW => ⟨⟨(-100002), (iv, lv, (u2 (u2 fa 0 3 (fa 0 3)) 0 4 (fa 0 4)), la), rfl, ⟨(fa 0 3), (fa 0 4), ⟨by decide, by decide⟩, rfl⟩, by rw [ht9]; exact hP9, hD9⟩, hS.F ht9⟩) hS.2.2 dX11_burnt_48
            · exact absurd rfl c13
      · skip
        refine lv_if_eq (tgt := 46) hx hb dX11_burnt_20 (by decide) (fun c14 => ?_) (fun c14 => ?_)
        · skip
          refine lv_ldc hx hb hown (ht _ m_456) dX11_burnt_46 ?_
          have hP9 : va_P (dC, dI) classes (WX h g ca iv lv (u2 (u2 fa 0 3 (fa 0 3)) 0 4 (fa 0 4)) la) s.heap := hP
          have hD9 : va_D A (WX h g ca iv lv (u2 (u2 fa 0 3 (fa 0 3)) 0 4 (fa 0 4)) la) := hD
          exact W.iret (v := (-100002)) hx hb hr (fun t ht9 hW => ⟨⟨(-100002), (iv, lv, (u2 (u2 fa 0 3 (fa 0 3)) 0 4 (fa 0 4)), la), rfl, ⟨(fa 0 3), (fa 0 4), ⟨by decide, by decide⟩, rfl⟩, by rw [ht9]; exact hP9, hD9⟩, hS.F ht9⟩) hS.2.2 dX11_burnt_48
        · exact absurd rfl c14
    · exact absurd c2 (by decide)
  · skip
    have i_0_7 : 0 ≤ (iv 0 7).toInt ∧ (iv 0 7).toInt ≤ 10 := hI.1 0 7
    have fr1 : ¬ (0 ≤ (a : Int32).toInt ∧ (a : Int32).toInt < ((iv 0 7) : Int32).toInt) := fr1
    refine lv_if_ne (tgt := 14) hx hb dX11_burnt_8 (by decide) (fun c15 => ?_) (fun c15 => ?_)
    · exact absurd rfl c15
    · skip
      refine lv_ldc hx hb hown (ht _ m_476) dX11_burnt_11 ?_
      have hP9 : va_P (dC, dI) classes (WX h g ca iv lv (u2 (u2 fa 0 3 (fa 0 3)) 0 4 (fa 0 4)) la) s.heap := hP
      have hD9 : va_D A (WX h g ca iv lv (u2 (u2 fa 0 3 (fa 0 3)) 0 4 (fa 0 4)) la) := hD
      exact W.iret (v := (-100001)) hx hb hr (fun t ht9 hW => ⟨⟨(-100001), (iv, lv, (u2 (u2 fa 0 3 (fa 0 3)) 0 4 (fa 0 4)), la), rfl, ⟨(fa 0 3), (fa 0 4), ⟨by decide, by decide⟩, rfl⟩, by rw [ht9]; exact hP9, hD9⟩, hS.F ht9⟩) hS.2.2 dX11_burnt_13
set_option maxHeartbeats 4000000 in
set_option maxRecDepth 100000 in
/-- X11_load -/
theorem c_X11_load (l : Launch) (dC : Nat → ClassId) (dI : Nat → Nat → Nat) (sz : Nat) (h : Nat) (g : Nat → Nat → Nat) (ca : Nat → Nat → ClassId) (iv : Nat → Nat → Int32) (lv : Nat → Nat → Int64) (fa : Nat → Nat → Nat → Int32) (la : Nat → Nat → Nat → Int64) (hI : IX iv fa) (a : Int32) : Met l yX11_load (wc yX11_load cX11_load 2 (some .int)) ({ frames := 1, cells := 0, slots := 0, locals := 22 } : Room) (pW (dC, dI) classes (WX h g ca iv lv fa la) (TX ca) sz [.ref h, .int a]) (va_Qi (fun r (u : SS) => ∃ (na_5_0 : Nat → Int32) (ni_5_4 : Int32) (ni_5_6 : Int32), inb (bI 5 4) ni_5_4 ∧ ((-100004) ≤ r.toInt ∧ r.toInt ≤ 8) ∧ u = ((u2 (u2 iv 5 4 ni_5_4) 5 6 ni_5_6), lv, (u2 fa 5 0 na_5_0), la)) (bX (dC, dI) h g ca (va_A (WX h g ca iv lv fa la) sz)) (va_A (WX h g ca iv lv fa la) sz)) 0 0 (va_A (WX h g ca iv lv fa la) sz) := by
  refine Met.ofW (cc := cX11_load) (maxL := 2) (ret := (some .int)) (by decide) rfl ?_
  intro p e s m args below meth c s₁ B hml hv
  obtain ⟨rfl, hsz, hP, hK, hD0⟩ := hv
  have hx := B.exec
  have hb := B.bytes
  have hr := B.returns
  have ht := tb_tl (atoms_spec (ws := wc yX11_load cX11_load 2 (some .int)) B.pre)
  have hown : s.vm.findClass RX11 = some m.cls := findClass_of_methodNamed B.named
  have hlocks := B.notSynchronized
  subst hsz
  have hD := hD0.self (sz := s.heap.size)
  generalize hAe : va_A (WX h g ca iv lv fa la) s.heap.size = A at hD ⊢
  have hA : ∀ q : Nat, s.heap.size ≤ q → A q := fun q h => by rw [← hAe]; exact Or.inr h
  have hS : va_S A s.heap s.heap [] := va_S.rf
  have hl := lv_entry [.ref h, .int a] (n := 2) (Nat.le_of_ble_eq_true rfl)
  rw [lg_entry_eq]
  generalize (lg_sl [.ref h, .int a] ++ List.replicate (2 - (lg_sl [.ref h, .int a]).length) Slot.unset).toArray = ls at hl ⊢
  have hl : lv_has ls 2 [(0, .ref h), (1, .int a)] := hl
  refine lv_iload_n hx hb dX11_load_0 rfl (lv_at hl 1 rfl) ?_
  refine lv_iconst (v := 1) hx hb dX11_load_1 (by decide) ?_
  refine lv_sipush (v := 999) hx hb dX11_load_2 (by decide) ?_
  refine vp_callSi (W.runS (As := [.int a, .int 1, .int 999]) (rest := []) ⟨hx, hb, hml, hown, ht⟩ (c_X11_within l dC dI a 1 999 (a.toInt) (1) (999) (rfl : (a).toInt = _) (by decide : (1 : Int32).toInt = 1) (by decide : (999 : Int32).toInt = 999)) (kS 3 ht m_453 m_454 m_77 m_455 rfl rfl hd_X11_within_v ⟨Nat.le_of_ble_eq_true rfl, Nat.le_of_ble_eq_true rfl⟩) (sR noP (hK.sub (tys' := []) [] rfl)) rfl rfl hl.1 rfl (lv_room (Nat.le_of_ble_eq_true rfl)) dX11_load_5 ⟨Nat.le_of_ble_eq_true rfl, Nat.le_of_ble_eq_true rfl⟩) (fun r1 hr1 => ?_)
  rcases hr1 with ⟨rfl, fr1⟩ | ⟨rfl, fr1⟩
  · skip
    refine lv_if_ne (tgt := 14) hx hb dX11_load_8 (by decide) (fun c2 => ?_) (fun c2 => ?_)
    · skip
      refine lv_aload_n hx hb dX11_load_14 rfl (lv_at hl 0 rfl) ?_
      refine gX_11_7 hx hb ht hown hK hP m_422 dX11_load_15 ?_
      have i_5_4 : 0 ≤ (iv 5 4).toInt ∧ (iv 5 4).toInt ≤ 8 := hI.1 5 4
      refine gX_5_4 hx hb ht hown hK hP m_341 (v := (iv 5 4)) rfl dX11_load_18 ?_
      refine lv_bipush (v := 8) hx hb dX11_load_21 (by decide) ?_
      refine lv_icmp_lt (tgt := 31) hx hb dX11_load_23 (by decide) (fun c3 => ?_) (fun c3 => ?_)
      · have fc3 := z_lt (rfl : ((iv 5 4)).toInt = _) (by decide : (8 : Int32).toInt = 8) c3
        refine lv_aload_n hx hb dX11_load_31 rfl (lv_at hl 0 rfl) ?_
        refine gX_11_7 hx hb ht hown hK hP m_422 dX11_load_32 ?_
        refine lv_iload_n hx hb dX11_load_35 rfl (lv_at hl 1 rfl) ?_
        have hFc := free_all hD hS hA
        refine va_calli (va_runV (As := [.int a]) (rest := []) ⟨hx, hb, hml, hown, ht⟩ (c_X5_bring l dC dI s.heap.size h g ca iv lv fa la hI a (show 0 ≤ ((iv 5 4) : Int32).toInt ∧ ((iv 5 4) : Int32).toInt ≤ 7 from ⟨by omega, by omega⟩)) (kV 1 ht m_1005 m_1006 m_1007 m_86 m_1008 rfl rfl hd_X5_bring_v ⟨Nat.le_of_ble_eq_true rfl, Nat.le_of_ble_eq_true rfl⟩) (vW hP hK hD (rX_5 hK hP)) rfl rfl hl.1 rfl (lv_room (Nat.le_of_ble_eq_true rfl)) dX11_load_36 ⟨Nat.le_of_ble_eq_true rfl, Nat.le_of_ble_eq_true rfl⟩) hS (fun q _ h => hFc q h) hFc (fun r4 u t H1 locs ht9 hvm hr4 hB hz1 hk1 hS => ?_)
        obtain ⟨n5, n6, n7, hn6, dn6, hr4, rfl⟩ := hr4
        have hn5 : ∀ j, inb (bA 5 0 j) (n5 j) := fun j => full_i _
        have dn6 : n6.toInt = ((iv 5 4) : Int32).toInt + 1 := dn6
        have hn6 : 0 ≤ n6.toInt ∧ n6.toInt ≤ 8 := hn6
        obtain ⟨hP, hD⟩ := hB
        rw [ht9] at hP
        generalize H1 = H at hP hS ⊢
        have hP : va_P (dC, dI) classes (WX h g ca (u2 (u2 iv 5 4 n6) 5 6 n7) lv (u2 fa 5 0 n5) la) H := hP
        have hD : va_D A (WX h g ca (u2 (u2 iv 5 4 n6) 5 6 n7) lv (u2 fa 5 0 n5) la) := (show va_D _ (WX h g ca (u2 (u2 iv 5 4 n6) 5 6 n7) lv (u2 fa 5 0 n5) la) from hD).weaken (fun _ _ _ h => hFc _ h)
        have hP9 : va_P (dC, dI) classes (WX h g ca (u2 (u2 iv 5 4 n6) 5 6 n7) lv (u2 fa 5 0 n5) la) H := hP
        have hD9 : va_D A (WX h g ca (u2 (u2 iv 5 4 n6) 5 6 n7) lv (u2 fa 5 0 n5) la) := hD
        exact W.iret (v := r4) hx hb hr (fun t ht9 hW => ⟨⟨r4, ((u2 (u2 iv 5 4 n6) 5 6 n7), lv, (u2 fa 5 0 n5), la), rfl, ⟨n5, n6, n7, (show inb (0, 8) n6 from ⟨by omega, by omega⟩), ⟨by omega, by omega⟩, rfl⟩, by rw [ht9]; exact hP9, hD9⟩, hS.F ht9⟩) hS.2.2 dX11_load_39
      · have fc3 := z_nlt (rfl : ((iv 5 4)).toInt = _) (by decide : (8 : Int32).toInt = 8) c3
        refine lv_ldc hx hb hown (ht _ m_463) dX11_load_26 ?_
        refine lv_goto (tgt := 39) hx hb dX11_load_28 (by decide) ?_
        have hP9 : va_P (dC, dI) classes (WX h g ca (u2 (u2 iv 5 4 (iv 5 4)) 5 6 (iv 5 6)) lv (u2 fa 5 0 (fa 5 0)) la) s.heap := hP
        have hD9 : va_D A (WX h g ca (u2 (u2 iv 5 4 (iv 5 4)) 5 6 (iv 5 6)) lv (u2 fa 5 0 (fa 5 0)) la) := hD
        exact W.iret (v := (-100004)) hx hb hr (fun t ht9 hW => ⟨⟨(-100004), ((u2 (u2 iv 5 4 (iv 5 4)) 5 6 (iv 5 6)), lv, (u2 fa 5 0 (fa 5 0)), la), rfl, ⟨(fa 5 0), (iv 5 4), (iv 5 6), (hI.1 5 4), ⟨by decide, by decide⟩, rfl⟩, by rw [ht9]; exact hP9, hD9⟩, hS.F ht9⟩) hS.2.2 dX11_load_39
    · exact absurd c2 (by decide)
  · skip
    refine lv_if_ne (tgt := 14) hx hb dX11_load_8 (by decide) (fun c8 => ?_) (fun c8 => ?_)
    · exact absurd rfl c8
    · skip
      refine lv_ldc hx hb hown (ht _ m_456) dX11_load_11 ?_
      have hP9 : va_P (dC, dI) classes (WX h g ca (u2 (u2 iv 5 4 (iv 5 4)) 5 6 (iv 5 6)) lv (u2 fa 5 0 (fa 5 0)) la) s.heap := hP
      have hD9 : va_D A (WX h g ca (u2 (u2 iv 5 4 (iv 5 4)) 5 6 (iv 5 6)) lv (u2 fa 5 0 (fa 5 0)) la) := hD
      exact W.iret (v := (-100002)) hx hb hr (fun t ht9 hW => ⟨⟨(-100002), ((u2 (u2 iv 5 4 (iv 5 4)) 5 6 (iv 5 6)), lv, (u2 fa 5 0 (fa 5 0)), la), rfl, ⟨(fa 5 0), (iv 5 4), (iv 5 6), (hI.1 5 4), ⟨by decide, by decide⟩, rfl⟩, by rw [ht9]; exact hP9, hD9⟩, hS.F ht9⟩) hS.2.2 dX11_load_13
set_option maxHeartbeats 4000000 in
set_option maxRecDepth 100000 in
/-- X11_empty -/
theorem c_X11_empty (l : Launch) (dC : Nat → ClassId) (dI : Nat → Nat → Nat) (sz : Nat) (h : Nat) (g : Nat → Nat → Nat) (ca : Nat → Nat → ClassId) (iv : Nat → Nat → Int32) (lv : Nat → Nat → Int64) (fa : Nat → Nat → Nat → Int32) (la : Nat → Nat → Nat → Int64) (hI : IX iv fa) : Met l yX11_empty (wc yX11_empty cX11_empty 1 (some .int)) ({ frames := 1, cells := 0, slots := 0, locals := 21 } : Room) (pW (dC, dI) classes (WX h g ca iv lv fa la) (TX ca) sz [.ref h]) (va_Qi (fun r (u : SS) => ∃ (ni_5_4 : Int32) (ni_5_6 : Int32), inb (bI 5 4) ni_5_4 ∧ (0 ≤ r.toInt ∧ r.toInt ≤ 8) ∧ u = ((u2 (u2 iv 5 4 ni_5_4) 5 6 ni_5_6), lv, fa, la)) (bX (dC, dI) h g ca (va_A (WX h g ca iv lv fa la) sz)) (va_A (WX h g ca iv lv fa la) sz)) 0 0 (va_A (WX h g ca iv lv fa la) sz) := by
  refine Met.ofW (cc := cX11_empty) (maxL := 1) (ret := (some .int)) (by decide) rfl ?_
  intro p e s m args below meth c s₁ B hml hv
  obtain ⟨rfl, hsz, hP, hK, hD0⟩ := hv
  have hx := B.exec
  have hb := B.bytes
  have hr := B.returns
  have ht := tb_tl (atoms_spec (ws := wc yX11_empty cX11_empty 1 (some .int)) B.pre)
  have hown : s.vm.findClass RX11 = some m.cls := findClass_of_methodNamed B.named
  have hlocks := B.notSynchronized
  subst hsz
  have hD := hD0.self (sz := s.heap.size)
  generalize hAe : va_A (WX h g ca iv lv fa la) s.heap.size = A at hD ⊢
  have hA : ∀ q : Nat, s.heap.size ≤ q → A q := fun q h => by rw [← hAe]; exact Or.inr h
  have hS : va_S A s.heap s.heap [] := va_S.rf
  have hl := lv_entry [.ref h] (n := 1) (Nat.le_of_ble_eq_true rfl)
  rw [lg_entry_eq]
  generalize (lg_sl [.ref h] ++ List.replicate (1 - (lg_sl [.ref h]).length) Slot.unset).toArray = ls at hl ⊢
  have hl : lv_has ls 1 [(0, .ref h)] := hl
  refine lv_aload_n hx hb dX11_empty_0 rfl (lv_at hl 0 rfl) ?_
  refine gX_11_7 hx hb ht hown hK hP m_422 dX11_empty_1 ?_
  have hFc := free_all hD hS hA
  refine va_calli (va_runV (As := []) (rest := []) ⟨hx, hb, hml, hown, ht⟩ (c_X5_clear l dC dI s.heap.size h g ca iv lv fa la hI) (kV 0 ht m_1030 m_1031 m_1032 m_86 m_1033 rfl rfl hd_X5_clear_v ⟨Nat.le_of_ble_eq_true rfl, Nat.le_of_ble_eq_true rfl⟩) (vW hP hK hD (rX_5 hK hP)) rfl rfl hl.1 rfl (lv_room (Nat.le_of_ble_eq_true rfl)) dX11_empty_4 ⟨Nat.le_of_ble_eq_true rfl, Nat.le_of_ble_eq_true rfl⟩) hS (fun q _ h => hFc q h) hFc (fun r1 u t H1 locs ht9 hvm hr1 hB hz1 hk1 hS => ?_)
  obtain ⟨n2, n3, hn2, hr1, rfl⟩ := hr1
  have hn2 : 0 ≤ n2.toInt ∧ n2.toInt ≤ 8 := hn2
  obtain ⟨hP, hD⟩ := hB
  rw [ht9] at hP
  generalize H1 = H at hP hS ⊢
  have hP : va_P (dC, dI) classes (WX h g ca (u2 (u2 iv 5 4 n2) 5 6 n3) lv fa la) H := hP
  have hD : va_D A (WX h g ca (u2 (u2 iv 5 4 n2) 5 6 n3) lv fa la) := (show va_D _ (WX h g ca (u2 (u2 iv 5 4 n2) 5 6 n3) lv fa la) from hD).weaken (fun _ _ _ h => hFc _ h)
  have hP9 : va_P (dC, dI) classes (WX h g ca (u2 (u2 iv 5 4 n2) 5 6 n3) lv fa la) H := hP
  have hD9 : va_D A (WX h g ca (u2 (u2 iv 5 4 n2) 5 6 n3) lv fa la) := hD
  exact W.iret (v := r1) hx hb hr (fun t ht9 hW => ⟨⟨r1, ((u2 (u2 iv 5 4 n2) 5 6 n3), lv, fa, la), rfl, ⟨n2, n3, (show inb (0, 8) n2 from ⟨by omega, by omega⟩), ⟨by omega, by omega⟩, rfl⟩, by rw [ht9]; exact hP9, hD9⟩, hS.F ht9⟩) hS.2.2 dX11_empty_7
