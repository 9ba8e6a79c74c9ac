/-! ===== h2 ===== -/
theorem m_86 : Cond.initialized RX5 ∈ tb := mb_1_0 _ (List.mem_of_getElem? (i := 9) rfl)
theorem m_155 : Cond.fieldLink RX11 271 "SilkHouse$Bales" "threads" "[I" ∈ tb := mb_1_2 _ (List.mem_of_getElem? (i := 10) rfl)
theorem m_157 : Cond.fieldLink RX11 287 "SilkHouse$Bales" "twists" "[I" ∈ tb := mb_1_2 _ (List.mem_of_getElem? (i := 12) rfl)
theorem m_159 : Cond.fieldLink RX11 296 "SilkHouse$Bales" "gum" "[I" ∈ tb := mb_1_2 _ (List.mem_of_getElem? (i := 14) rfl)
theorem m_161 : Cond.fieldLink RX11 299 "SilkHouse$Bales" "ash" "[I" ∈ tb := mb_1_2 _ (List.mem_of_getElem? (i := 16) rfl)
theorem m_233 : Cond.fieldLink RX11 207 "SilkHouse$Reader" "faultByte" "I" ∈ tb := mb_1_4 _ (List.mem_of_getElem? (i := 3) rfl)
theorem m_341 : Cond.fieldLink RX11 305 "SilkHouse$Ovens" "number" "I" ∈ tb := mb_2_0 _ (List.mem_of_getElem? (i := 11) rfl)
theorem m_419 : Cond.fieldLink RX11 42 "SilkHouse" "reader" "LSilkHouse$Reader;" ∈ tb := mb_2_2 _ (List.mem_of_getElem? (i := 0) rfl)
theorem m_422 : Cond.fieldLink RX11 67 "SilkHouse" "ovens" "LSilkHouse$Ovens;" ∈ tb := mb_2_2 _ (List.mem_of_getElem? (i := 3) rfl)
theorem m_945 : Cond.methodLink RX11 274 yX0_reel ∈ tb := mb_4_5 _ (List.mem_of_getElem? (i := 16) rfl)
theorem m_946 : Cond.instanceMethod yX0_reel ∈ tb := mb_4_5 _ (List.mem_of_getElem? (i := 17) rfl)
theorem m_947 : Cond.selects RX0 yX0_reel yX0_reel ∈ tb := mb_4_5 _ (List.mem_of_getElem? (i := 18) rfl)
theorem m_948 : Cond.code yX0_reel cX0_reel 3 (some .int) ∈ tb := mb_4_5 _ (List.mem_of_getElem? (i := 19) rfl)
theorem m_977 : Cond.methodLink RX11 290 yX0_untwist ∈ tb := mb_4_6 _ (List.mem_of_getElem? (i := 23) rfl)
theorem m_978 : Cond.instanceMethod yX0_untwist ∈ tb := mb_4_7 _ (List.mem_of_getElem? (i := 0) rfl)
theorem m_979 : Cond.selects RX0 yX0_untwist yX0_untwist ∈ tb := mb_4_7 _ (List.mem_of_getElem? (i := 1) rfl)
theorem m_980 : Cond.code yX0_untwist cX0_untwist 5 (some .int) ∈ tb := mb_4_7 _ (List.mem_of_getElem? (i := 2) rfl)
theorem m_985 : Cond.methodLink RX11 293 yX0_middleTwist ∈ tb := mb_4_7 _ (List.mem_of_getElem? (i := 7) rfl)
theorem m_986 : Cond.instanceMethod yX0_middleTwist ∈ tb := mb_4_7 _ (List.mem_of_getElem? (i := 8) rfl)
theorem m_987 : Cond.selects RX0 yX0_middleTwist yX0_middleTwist ∈ tb := mb_4_7 _ (List.mem_of_getElem? (i := 9) rfl)
theorem m_988 : Cond.code yX0_middleTwist cX0_middleTwist 2 (some .int) ∈ tb := mb_4_7 _ (List.mem_of_getElem? (i := 10) rfl)
theorem m_1005 : Cond.methodLink RX11 306 yX5_bring ∈ tb := mb_4_8 _ (List.mem_of_getElem? (i := 2) rfl)
theorem m_1006 : Cond.instanceMethod yX5_bring ∈ tb := mb_4_8 _ (List.mem_of_getElem? (i := 3) rfl)
theorem m_1007 : Cond.selects RX5 yX5_bring yX5_bring ∈ tb := mb_4_8 _ (List.mem_of_getElem? (i := 4) rfl)
theorem m_1008 : Cond.code yX5_bring cX5_bring 2 (some .int) ∈ tb := mb_4_8 _ (List.mem_of_getElem? (i := 5) rfl)
theorem m_1030 : Cond.methodLink RX11 317 yX5_clear ∈ tb := mb_4_9 _ (List.mem_of_getElem? (i := 2) rfl)
theorem m_1031 : Cond.instanceMethod yX5_clear ∈ tb := mb_4_9 _ (List.mem_of_getElem? (i := 3) rfl)
theorem m_1032 : Cond.selects RX5 yX5_clear yX5_clear ∈ tb := mb_4_9 _ (List.mem_of_getElem? (i := 4) rfl)
theorem m_1033 : Cond.code yX5_clear cX5_clear 2 (some .int) ∈ tb := mb_4_9 _ (List.mem_of_getElem? (i := 5) rfl)
theorem hd_X0_middleTwist_v : yX0_middleTwist.cls = RX0 ∧ yX0_middleTwist.cls ≠ "java/lang/invoke/MethodHandle" ∧ yX0_middleTwist.cls ≠ "java/lang/invoke/VarHandle" ∧ (parseMethodDescriptor yX0_middleTwist.desc).map (fun d => d.parameters.length) = some 1 := by decide +kernel
theorem hd_X0_reel_v : yX0_reel.cls = RX0 ∧ yX0_reel.cls ≠ "java/lang/invoke/MethodHandle" ∧ yX0_reel.cls ≠ "java/lang/invoke/VarHandle" ∧ (parseMethodDescriptor yX0_reel.desc).map (fun d => d.parameters.length) = some 2 := by decide +kernel
theorem hd_X0_untwist_v : yX0_untwist.cls = RX0 ∧ yX0_untwist.cls ≠ "java/lang/invoke/MethodHandle" ∧ yX0_untwist.cls ≠ "java/lang/invoke/VarHandle" ∧ (parseMethodDescriptor yX0_untwist.desc).map (fun d => d.parameters.length) = some 2 := by decide +kernel
theorem hd_X5_bring_v : yX5_bring.cls = RX5 ∧ yX5_bring.cls ≠ "java/lang/invoke/MethodHandle" ∧ yX5_bring.cls ≠ "java/lang/invoke/VarHandle" ∧ (parseMethodDescriptor yX5_bring.desc).map (fun d => d.parameters.length) = some 1 := by decide +kernel
theorem hd_X5_clear_v : yX5_clear.cls = RX5 ∧ yX5_clear.cls ≠ "java/lang/invoke/MethodHandle" ∧ yX5_clear.cls ≠ "java/lang/invoke/VarHandle" ∧ (parseMethodDescriptor yX5_clear.desc).map (fun d => d.parameters.length) = some 0 := by decide +kernel
set_option maxRecDepth 100000 in
theorem dvX11_burnt_0 : ([(0, .aload_n 0, 1), (1, .getfield 26, 3), (4, .iload_n 1, 1), (5, .invokevirtual 104, 3), (8, .ifCond .ne 6, 3), (11, .ldc 108, 2), (13, .ireturn, 1), (14, .iload_n 2, 1), (15, .iconst 0, 1), (16, .iconst 1, 1), (17, .invokestatic 89, 3), (20, .ifCond .eq 26, 3), (23, .iload_n 3, 1), (24, .iconst 0, 1), (25, .sipush 999, 3), (28, .invokestatic 89, 3), (31, .ifCond .eq 15, 3), (34, .iload 4, 2), (36, .iload_n 3, 1), (37, .sipush 999, 3), (40, .invokestatic 89, 3), (43, .ifCond .ne 6, 3), (46, .ldc 93, 2), (48, .ireturn, 1)] : List (Nat × Instr × Nat)).all (fun q => decide (decode cX11_burnt q.1 = .ok (q.2.1, q.2.2))) = true := by decide +kernel
theorem dX11_burnt_0 : decode cX11_burnt 0 = .ok (.aload_n 0, 1) := all_at dvX11_burnt_0 0 rfl
theorem dX11_burnt_1 : decode cX11_burnt 1 = .ok (.getfield 26, 3) := all_at dvX11_burnt_0 1 rfl
theorem dX11_burnt_4 : decode cX11_burnt 4 = .ok (.iload_n 1, 1) := all_at dvX11_burnt_0 2 rfl
theorem dX11_burnt_5 : decode cX11_burnt 5 = .ok (.invokevirtual 104, 3) := all_at dvX11_burnt_0 3 rfl
theorem dX11_burnt_8 : decode cX11_burnt 8 = .ok (.ifCond .ne 6, 3) := all_at dvX11_burnt_0 4 rfl
theorem dX11_burnt_11 : decode cX11_burnt 11 = .ok (.ldc 108, 2) := all_at dvX11_burnt_0 5 rfl
theorem dX11_burnt_13 : decode cX11_burnt 13 = .ok (.ireturn, 1) := all_at dvX11_burnt_0 6 rfl
theorem dX11_burnt_14 : decode cX11_burnt 14 = .ok (.iload_n 2, 1) := all_at dvX11_burnt_0 7 rfl
theorem dX11_burnt_15 : decode cX11_burnt 15 = .ok (.iconst 0, 1) := all_at dvX11_burnt_0 8 rfl
theorem dX11_burnt_16 : decode cX11_burnt 16 = .ok (.iconst 1, 1) := all_at dvX11_burnt_0 9 rfl
theorem dX11_burnt_17 : decode cX11_burnt 17 = .ok (.invokestatic 89, 3) := all_at dvX11_burnt_0 10 rfl
theorem dX11_burnt_20 : decode cX11_burnt 20 = .ok (.ifCond .eq 26, 3) := all_at dvX11_burnt_0 11 rfl
theorem dX11_burnt_23 : decode cX11_burnt 23 = .ok (.iload_n 3, 1) := all_at dvX11_burnt_0 12 rfl
theorem dX11_burnt_24 : decode cX11_burnt 24 = .ok (.iconst 0, 1) := all_at dvX11_burnt_0 13 rfl
theorem dX11_burnt_25 : decode cX11_burnt 25 = .ok (.sipush 999, 3) := all_at dvX11_burnt_0 14 rfl
theorem dX11_burnt_28 : decode cX11_burnt 28 = .ok (.invokestatic 89, 3) := all_at dvX11_burnt_0 15 rfl
theorem dX11_burnt_31 : decode cX11_burnt 31 = .ok (.ifCond .eq 15, 3) := all_at dvX11_burnt_0 16 rfl
theorem dX11_burnt_34 : decode cX11_burnt 34 = .ok (.iload 4, 2) := all_at dvX11_burnt_0 17 rfl
theorem dX11_burnt_36 : decode cX11_burnt 36 = .ok (.iload_n 3, 1) := all_at dvX11_burnt_0 18 rfl
theorem dX11_burnt_37 : decode cX11_burnt 37 = .ok (.sipush 999, 3) := all_at dvX11_burnt_0 19 rfl
theorem dX11_burnt_40 : decode cX11_burnt 40 = .ok (.invokestatic 89, 3) := all_at dvX11_burnt_0 20 rfl
theorem dX11_burnt_43 : decode cX11_burnt 43 = .ok (.ifCond .ne 6, 3) := all_at dvX11_burnt_0 21 rfl
theorem dX11_burnt_46 : decode cX11_burnt 46 = .ok (.ldc 93, 2) := all_at dvX11_burnt_0 22 rfl
theorem dX11_burnt_48 : decode cX11_burnt 48 = .ok (.ireturn, 1) := all_at dvX11_burnt_0 23 rfl
set_option maxRecDepth 100000 in
theorem dvX11_burnt_49 : ([(49, .iload_n 2, 1), (50, .ifCond .ne 16, 3), (53, .aload_n 0, 1), (54, .getfield 26, 3), (57, .getfield 296, 3), (60, .iload_n 1, 1), (61, .iload_n 3, 1), (62, .iastore, 1), (63, .goto 13, 3), (66, .aload_n 0, 1), (67, .getfield 26, 3), (70, .getfield 299, 3), (73, .iload_n 1, 1), (74, .iload_n 3, 1), (75, .iastore, 1), (76, .iconst 1, 1), (77, .ireturn, 1)] : List (Nat × Instr × Nat)).all (fun q => decide (decode cX11_burnt q.1 = .ok (q.2.1, q.2.2))) = true := by decide +kernel
theorem dX11_burnt_49 : decode cX11_burnt 49 = .ok (.iload_n 2, 1) := all_at dvX11_burnt_49 0 rfl
theorem dX11_burnt_50 : decode cX11_burnt 50 = .ok (.ifCond .ne 16, 3) := all_at dvX11_burnt_49 1 rfl
theorem dX11_burnt_53 : decode cX11_burnt 53 = .ok (.aload_n 0, 1) := all_at dvX11_burnt_49 2 rfl
theorem dX11_burnt_54 : decode cX11_burnt 54 = .ok (.getfield 26, 3) := all_at dvX11_burnt_49 3 rfl
theorem dX11_burnt_57 : decode cX11_burnt 57 = .ok (.getfield 296, 3) := all_at dvX11_burnt_49 4 rfl
theorem dX11_burnt_60 : decode cX11_burnt 60 = .ok (.iload_n 1, 1) := all_at dvX11_burnt_49 5 rfl
theorem dX11_burnt_61 : decode cX11_burnt 61 = .ok (.iload_n 3, 1) := all_at dvX11_burnt_49 6 rfl
theorem dX11_burnt_62 : decode cX11_burnt 62 = .ok (.iastore, 1) := all_at dvX11_burnt_49 7 rfl
theorem dX11_burnt_63 : decode cX11_burnt 63 = .ok (.goto 13, 3) := all_at dvX11_burnt_49 8 rfl
theorem dX11_burnt_66 : decode cX11_burnt 66 = .ok (.aload_n 0, 1) := all_at dvX11_burnt_49 9 rfl
theorem dX11_burnt_67 : decode cX11_burnt 67 = .ok (.getfield 26, 3) := all_at dvX11_burnt_49 10 rfl
theorem dX11_burnt_70 : decode cX11_burnt 70 = .ok (.getfield 299, 3) := all_at dvX11_burnt_49 11 rfl
theorem dX11_burnt_73 : decode cX11_burnt 73 = .ok (.iload_n 1, 1) := all_at dvX11_burnt_49 12 rfl
theorem dX11_burnt_74 : decode cX11_burnt 74 = .ok (.iload_n 3, 1) := all_at dvX11_burnt_49 13 rfl
theorem dX11_burnt_75 : decode cX11_burnt 75 = .ok (.iastore, 1) := all_at dvX11_burnt_49 14 rfl
theorem dX11_burnt_76 : decode cX11_burnt 76 = .ok (.iconst 1, 1) := all_at dvX11_burnt_49 15 rfl
theorem dX11_burnt_77 : decode cX11_burnt 77 = .ok (.ireturn, 1) := all_at dvX11_burnt_49 16 rfl
set_option maxRecDepth 100000 in
theorem dvX11_empty_0 : ([(0, .aload_n 0, 1), (1, .getfield 67, 3), (4, .invokevirtual 317, 3), (7, .ireturn, 1)] : List (Nat × Instr × Nat)).all (fun q => decide (decode cX11_empty q.1 = .ok (q.2.1, q.2.2))) = true := by decide +kernel
theorem dX11_empty_0 : decode cX11_empty 0 = .ok (.aload_n 0, 1) := all_at dvX11_empty_0 0 rfl
theorem dX11_empty_1 : decode cX11_empty 1 = .ok (.getfield 67, 3) := all_at dvX11_empty_0 1 rfl
theorem dX11_empty_4 : decode cX11_empty 4 = .ok (.invokevirtual 317, 3) := all_at dvX11_empty_0 2 rfl
theorem dX11_empty_7 : decode cX11_empty 7 = .ok (.ireturn, 1) := all_at dvX11_empty_0 3 rfl
set_option maxRecDepth 100000 in
theorem dvX11_fault_0 : ([(0, .aload_n 0, 1), (1, .getfield 42, 3), (4, .getfield 207, 3), (7, .ireturn, 1)] : List (Nat × Instr × Nat)).all (fun q => decide (decode cX11_fault q.1 = .ok (q.2.1, q.2.2))) = true := by decide +kernel
theorem dX11_fault_0 : decode cX11_fault 0 = .ok (.aload_n 0, 1) := all_at dvX11_fault_0 0 rfl
theorem dX11_fault_1 : decode cX11_fault 1 = .ok (.getfield 42, 3) := all_at dvX11_fault_0 1 rfl
theorem dX11_fault_4 : decode cX11_fault 4 = .ok (.getfield 207, 3) := all_at dvX11_fault_0 2 rfl
theorem dX11_fault_7 : decode cX11_fault 7 = .ok (.ireturn, 1) := all_at dvX11_fault_0 3 rfl
set_option maxRecDepth 100000 in
theorem dvX11_load_0 : ([(0, .iload_n 1, 1), (1, .iconst 1, 1), (2, .sipush 999, 3), (5, .invokestatic 89, 3), (8, .ifCond .ne 6, 3), (11, .ldc 93, 2), (13, .ireturn, 1), (14, .aload_n 0, 1), (15, .getfield 67, 3), (18, .getfield 305, 3), (21, .bipush 8, 2), (23, .if_icmp .lt 8, 3), (26, .ldc 99, 2), (28, .goto 11, 3), (31, .aload_n 0, 1), (32, .getfield 67, 3), (35, .iload_n 1, 1), (36, .invokevirtual 306, 3), (39, .ireturn, 1)] : List (Nat × Instr × Nat)).all (fun q => decide (decode cX11_load q.1 = .ok (q.2.1, q.2.2))) = true := by decide +kernel
theorem dX11_load_0 : decode cX11_load 0 = .ok (.iload_n 1, 1) := all_at dvX11_load_0 0 rfl
theorem dX11_load_1 : decode cX11_load 1 = .ok (.iconst 1, 1) := all_at dvX11_load_0 1 rfl
theorem dX11_load_2 : decode cX11_load 2 = .ok (.sipush 999, 3) := all_at dvX11_load_0 2 rfl
theorem dX11_load_5 : decode cX11_load 5 = .ok (.invokestatic 89, 3) := all_at dvX11_load_0 3 rfl
theorem dX11_load_8 : decode cX11_load 8 = .ok (.ifCond .ne 6, 3) := all_at dvX11_load_0 4 rfl
theorem dX11_load_11 : decode cX11_load 11 = .ok (.ldc 93, 2) := all_at dvX11_load_0 5 rfl
theorem dX11_load_13 : decode cX11_load 13 = .ok (.ireturn, 1) := all_at dvX11_load_0 6 rfl
theorem dX11_load_14 : decode cX11_load 14 = .ok (.aload_n 0, 1) := all_at dvX11_load_0 7 rfl
theorem dX11_load_15 : decode cX11_load 15 = .ok (.getfield 67, 3) := all_at dvX11_load_0 8 rfl
theorem dX11_load_18 : decode cX11_load 18 = .ok (.getfield 305, 3) := all_at dvX11_load_0 9 rfl
theorem dX11_load_21 : decode cX11_load 21 = .ok (.bipush 8, 2) := all_at dvX11_load_0 10 rfl
theorem dX11_load_23 : decode cX11_load 23 = .ok (.if_icmp .lt 8, 3) := all_at dvX11_load_0 11 rfl
theorem dX11_load_26 : decode cX11_load 26 = .ok (.ldc 99, 2) := all_at dvX11_load_0 12 rfl
theorem dX11_load_28 : decode cX11_load 28 = .ok (.goto 11, 3) := all_at dvX11_load_0 13 rfl
theorem dX11_load_31 : decode cX11_load 31 = .ok (.aload_n 0, 1) := all_at dvX11_load_0 14 rfl
theorem dX11_load_32 : decode cX11_load 32 = .ok (.getfield 67, 3) := all_at dvX11_load_0 15 rfl
theorem dX11_load_35 : decode cX11_load 35 = .ok (.iload_n 1, 1) := all_at dvX11_load_0 16 rfl
theorem dX11_load_36 : decode cX11_load 36 = .ok (.invokevirtual 306, 3) := all_at dvX11_load_0 17 rfl
theorem dX11_load_39 : decode cX11_load 39 = .ok (.ireturn, 1) := all_at dvX11_load_0 18 rfl
set_option maxRecDepth 100000 in
theorem dvX11_thread_0 : ([(0, .aload_n 0, 1), (1, .getfield 26, 3), (4, .iload_n 1, 1), (5, .invokevirtual 104, 3), (8, .ifCond .ne 6, 3), (11, .ldc 108, 2), (13, .ireturn, 1), (14, .iload_n 2, 1), (15, .iconst 1, 1), (16, .sipush 999, 3), (19, .invokestatic 89, 3), (22, .ifCond .ne 6, 3), (25, .ldc 93, 2), (27, .ireturn, 1), (28, .aload_n 0, 1), (29, .getfield 26, 3), (32, .getfield 271, 3), (35, .iload_n 1, 1), (36, .iaload, 1), (37, .bipush 12, 2), (39, .if_icmp .lt 8, 3), (42, .ldc 99, 2), (44, .goto 12, 3), (47, .aload_n 0, 1)] : List (Nat × Instr × Nat)).all (fun q => decide (decode cX11_thread q.1 = .ok (q.2.1, q.2.2))) = true := by decide +kernel
theorem dX11_thread_0 : decode cX11_thread 0 = .ok (.aload_n 0, 1) := all_at dvX11_thread_0 0 rfl
theorem dX11_thread_1 : decode cX11_thread 1 = .ok (.getfield 26, 3) := all_at dvX11_thread_0 1 rfl
theorem dX11_thread_4 : decode cX11_thread 4 = .ok (.iload_n 1, 1) := all_at dvX11_thread_0 2 rfl
theorem dX11_thread_5 : decode cX11_thread 5 = .ok (.invokevirtual 104, 3) := all_at dvX11_thread_0 3 rfl
theorem dX11_thread_8 : decode cX11_thread 8 = .ok (.ifCond .ne 6, 3) := all_at dvX11_thread_0 4 rfl
theorem dX11_thread_11 : decode cX11_thread 11 = .ok (.ldc 108, 2) := all_at dvX11_thread_0 5 rfl
theorem dX11_thread_13 : decode cX11_thread 13 = .ok (.ireturn, 1) := all_at dvX11_thread_0 6 rfl
theorem dX11_thread_14 : decode cX11_thread 14 = .ok (.iload_n 2, 1) := all_at dvX11_thread_0 7 rfl
theorem dX11_thread_15 : decode cX11_thread 15 = .ok (.iconst 1, 1) := all_at dvX11_thread_0 8 rfl
theorem dX11_thread_16 : decode cX11_thread 16 = .ok (.sipush 999, 3) := all_at dvX11_thread_0 9 rfl
theorem dX11_thread_19 : decode cX11_thread 19 = .ok (.invokestatic 89, 3) := all_at dvX11_thread_0 10 rfl
theorem dX11_thread_22 : decode cX11_thread 22 = .ok (.ifCond .ne 6, 3) := all_at dvX11_thread_0 11 rfl
theorem dX11_thread_25 : decode cX11_thread 25 = .ok (.ldc 93, 2) := all_at dvX11_thread_0 12 rfl
theorem dX11_thread_27 : decode cX11_thread 27 = .ok (.ireturn, 1) := all_at dvX11_thread_0 13 rfl
theorem dX11_thread_28 : decode cX11_thread 28 = .ok (.aload_n 0, 1) := all_at dvX11_thread_0 14 rfl
theorem dX11_thread_29 : decode cX11_thread 29 = .ok (.getfield 26, 3) := all_at dvX11_thread_0 15 rfl
theorem dX11_thread_32 : decode cX11_thread 32 = .ok (.getfield 271, 3) := all_at dvX11_thread_0 16 rfl
theorem dX11_thread_35 : decode cX11_thread 35 = .ok (.iload_n 1, 1) := all_at dvX11_thread_0 17 rfl
theorem dX11_thread_36 : decode cX11_thread 36 = .ok (.iaload, 1) := all_at dvX11_thread_0 18 rfl
theorem dX11_thread_37 : decode cX11_thread 37 = .ok (.bipush 12, 2) := all_at dvX11_thread_0 19 rfl
theorem dX11_thread_39 : decode cX11_thread 39 = .ok (.if_icmp .lt 8, 3) := all_at dvX11_thread_0 20 rfl
theorem dX11_thread_42 : decode cX11_thread 42 = .ok (.ldc 99, 2) := all_at dvX11_thread_0 21 rfl
theorem dX11_thread_44 : decode cX11_thread 44 = .ok (.goto 12, 3) := all_at dvX11_thread_0 22 rfl
theorem dX11_thread_47 : decode cX11_thread 47 = .ok (.aload_n 0, 1) := all_at dvX11_thread_0 23 rfl
set_option maxRecDepth 100000 in
theorem dvX11_thread_48 : ([(48, .getfield 26, 3), (51, .iload_n 1, 1), (52, .iload_n 2, 1), (53, .invokevirtual 274, 3), (56, .ireturn, 1)] : List (Nat × Instr × Nat)).all (fun q => decide (decode cX11_thread q.1 = .ok (q.2.1, q.2.2))) = true := by decide +kernel
theorem dX11_thread_48 : decode cX11_thread 48 = .ok (.getfield 26, 3) := all_at dvX11_thread_48 0 rfl
theorem dX11_thread_51 : decode cX11_thread 51 = .ok (.iload_n 1, 1) := all_at dvX11_thread_48 1 rfl
theorem dX11_thread_52 : decode cX11_thread 52 = .ok (.iload_n 2, 1) := all_at dvX11_thread_48 2 rfl
theorem dX11_thread_53 : decode cX11_thread 53 = .ok (.invokevirtual 274, 3) := all_at dvX11_thread_48 3 rfl
theorem dX11_thread_56 : decode cX11_thread 56 = .ok (.ireturn, 1) := all_at dvX11_thread_48 4 rfl
set_option maxRecDepth 100000 in
theorem dvX11_turns_0 : ([(0, .aload_n 0, 1), (1, .getfield 26, 3), (4, .iload_n 1, 1), (5, .invokevirtual 104, 3), (8, .ifCond .ne 6, 3), (11, .ldc 108, 2), (13, .ireturn, 1), (14, .iload_n 2, 1), (15, .iconst 0, 1), (16, .sipush 999, 3), (19, .invokestatic 89, 3), (22, .ifCond .ne 6, 3), (25, .ldc 93, 2), (27, .ireturn, 1), (28, .aload_n 0, 1), (29, .getfield 26, 3), (32, .getfield 287, 3), (35, .iload_n 1, 1), (36, .iaload, 1), (37, .bipush 8, 2), (39, .if_icmp .lt 8, 3), (42, .ldc 99, 2), (44, .goto 12, 3), (47, .aload_n 0, 1)] : List (Nat × Instr × Nat)).all (fun q => decide (decode cX11_turns q.1 = .ok (q.2.1, q.2.2))) = true := by decide +kernel
theorem dX11_turns_0 : decode cX11_turns 0 = .ok (.aload_n 0, 1) := all_at dvX11_turns_0 0 rfl
theorem dX11_turns_1 : decode cX11_turns 1 = .ok (.getfield 26, 3) := all_at dvX11_turns_0 1 rfl
theorem dX11_turns_4 : decode cX11_turns 4 = .ok (.iload_n 1, 1) := all_at dvX11_turns_0 2 rfl
theorem dX11_turns_5 : decode cX11_turns 5 = .ok (.invokevirtual 104, 3) := all_at dvX11_turns_0 3 rfl
theorem dX11_turns_8 : decode cX11_turns 8 = .ok (.ifCond .ne 6, 3) := all_at dvX11_turns_0 4 rfl
theorem dX11_turns_11 : decode cX11_turns 11 = .ok (.ldc 108, 2) := all_at dvX11_turns_0 5 rfl
theorem dX11_turns_13 : decode cX11_turns 13 = .ok (.ireturn, 1) := all_at dvX11_turns_0 6 rfl
theorem dX11_turns_14 : decode cX11_turns 14 = .ok (.iload_n 2, 1) := all_at dvX11_turns_0 7 rfl
theorem dX11_turns_15 : decode cX11_turns 15 = .ok (.iconst 0, 1) := all_at dvX11_turns_0 8 rfl
theorem dX11_turns_16 : decode cX11_turns 16 = .ok (.sipush 999, 3) := all_at dvX11_turns_0 9 rfl
theorem dX11_turns_19 : decode cX11_turns 19 = .ok (.invokestatic 89, 3) := all_at dvX11_turns_0 10 rfl
theorem dX11_turns_22 : decode cX11_turns 22 = .ok (.ifCond .ne 6, 3) := all_at dvX11_turns_0 11 rfl
theorem dX11_turns_25 : decode cX11_turns 25 = .ok (.ldc 93, 2) := all_at dvX11_turns_0 12 rfl
theorem dX11_turns_27 : decode cX11_turns 27 = .ok (.ireturn, 1) := all_at dvX11_turns_0 13 rfl
theorem dX11_turns_28 : decode cX11_turns 28 = .ok (.aload_n 0, 1) := all_at dvX11_turns_0 14 rfl
theorem dX11_turns_29 : decode cX11_turns 29 = .ok (.getfield 26, 3) := all_at dvX11_turns_0 15 rfl
theorem dX11_turns_32 : decode cX11_turns 32 = .ok (.getfield 287, 3) := all_at dvX11_turns_0 16 rfl
theorem dX11_turns_35 : decode cX11_turns 35 = .ok (.iload_n 1, 1) := all_at dvX11_turns_0 17 rfl
theorem dX11_turns_36 : decode cX11_turns 36 = .ok (.iaload, 1) := all_at dvX11_turns_0 18 rfl
theorem dX11_turns_37 : decode cX11_turns 37 = .ok (.bipush 8, 2) := all_at dvX11_turns_0 19 rfl
theorem dX11_turns_39 : decode cX11_turns 39 = .ok (.if_icmp .lt 8, 3) := all_at dvX11_turns_0 20 rfl
theorem dX11_turns_42 : decode cX11_turns 42 = .ok (.ldc 99, 2) := all_at dvX11_turns_0 21 rfl
theorem dX11_turns_44 : decode cX11_turns 44 = .ok (.goto 12, 3) := all_at dvX11_turns_0 22 rfl
theorem dX11_turns_47 : decode cX11_turns 47 = .ok (.aload_n 0, 1) := all_at dvX11_turns_0 23 rfl
set_option maxRecDepth 100000 in
theorem dvX11_turns_48 : ([(48, .getfield 26, 3), (51, .iload_n 1, 1), (52, .iload_n 2, 1), (53, .invokevirtual 290, 3), (56, .ireturn, 1)] : List (Nat × Instr × Nat)).all (fun q => decide (decode cX11_turns q.1 = .ok (q.2.1, q.2.2))) = true := by decide +kernel
theorem dX11_turns_48 : decode cX11_turns 48 = .ok (.getfield 26, 3) := all_at dvX11_turns_48 0 rfl
theorem dX11_turns_51 : decode cX11_turns 51 = .ok (.iload_n 1, 1) := all_at dvX11_turns_48 1 rfl
theorem dX11_turns_52 : decode cX11_turns 52 = .ok (.iload_n 2, 1) := all_at dvX11_turns_48 2 rfl
theorem dX11_turns_53 : decode cX11_turns 53 = .ok (.invokevirtual 290, 3) := all_at dvX11_turns_48 3 rfl
theorem dX11_turns_56 : decode cX11_turns 56 = .ok (.ireturn, 1) := all_at dvX11_turns_48 4 rfl
set_option maxRecDepth 100000 in
theorem dvX11_twist_0 : ([(0, .aload_n 0, 1), (1, .getfield 26, 3), (4, .iload_n 1, 1), (5, .invokevirtual 104, 3), (8, .ifCond .eq 14, 3), (11, .aload_n 0, 1), (12, .getfield 26, 3), (15, .iload_n 1, 1), (16, .invokevirtual 293, 3), (19, .goto 5, 3), (22, .ldc 108, 2), (24, .ireturn, 1)] : List (Nat × Instr × Nat)).all (fun q => decide (decode cX11_twist q.1 = .ok (q.2.1, q.2.2))) = true := by decide +kernel
theorem dX11_twist_0 : decode cX11_twist 0 = .ok (.aload_n 0, 1) := all_at dvX11_twist_0 0 rfl
theorem dX11_twist_1 : decode cX11_twist 1 = .ok (.getfield 26, 3) := all_at dvX11_twist_0 1 rfl
theorem dX11_twist_4 : decode cX11_twist 4 = .ok (.iload_n 1, 1) := all_at dvX11_twist_0 2 rfl
theorem dX11_twist_5 : decode cX11_twist 5 = .ok (.invokevirtual 104, 3) := all_at dvX11_twist_0 3 rfl
theorem dX11_twist_8 : decode cX11_twist 8 = .ok (.ifCond .eq 14, 3) := all_at dvX11_twist_0 4 rfl
theorem dX11_twist_11 : decode cX11_twist 11 = .ok (.aload_n 0, 1) := all_at dvX11_twist_0 5 rfl
theorem dX11_twist_12 : decode cX11_twist 12 = .ok (.getfield 26, 3) := all_at dvX11_twist_0 6 rfl
theorem dX11_twist_15 : decode cX11_twist 15 = .ok (.iload_n 1, 1) := all_at dvX11_twist_0 7 rfl
theorem dX11_twist_16 : decode cX11_twist 16 = .ok (.invokevirtual 293, 3) := all_at dvX11_twist_0 8 rfl
theorem dX11_twist_19 : decode cX11_twist 19 = .ok (.goto 5, 3) := all_at dvX11_twist_0 9 rfl
theorem dX11_twist_22 : decode cX11_twist 22 = .ok (.ldc 108, 2) := all_at dvX11_twist_0 10 rfl
theorem dX11_twist_24 : decode cX11_twist 24 = .ok (.ireturn, 1) := all_at dvX11_twist_0 11 rfl
set_option maxHeartbeats 4000000 in
set_option maxRecDepth 100000 in
/-- X11_thread -/
theorem c_X11_thread (l : Launch) (dC : Nat → ClassId) (dI : Nat → Nat → Nat) (sz : Nat) (h : Nat) (g : Nat → Nat → Nat) (ca : Nat → Nat → ClassId) (iv : Nat → Nat → Int32) (lv : Nat → Nat → Int64) (fa : Nat → Nat → Nat → Int32) (la : Nat → Nat → Nat → Int64) (hI : IX iv fa) (a : Int32) (b : Int32) : Met l yX11_thread (wc yX11_thread cX11_thread 3 (some .int)) ({ frames := 1, cells := 0, slots := 0, locals := 22 } : Room) (pW (dC, dI) classes (WX h g ca iv lv fa la) (TX ca) sz [.ref h, .int a, .int b]) (va_Qi (fun r (u : SS) => ∃ (na_0_1 : Nat → Int32) (na_0_5 : Nat → Int32), (∀ j, inb (bA 0 1 j) (na_0_1 j)) ∧ ((-100004) ≤ r.toInt ∧ r.toInt ≤ 12) ∧ u = (iv, lv, (u2 (u2 fa 0 1 na_0_1) 0 5 na_0_5), la)) (bX (dC, dI) h g ca (va_A (WX h g ca iv lv fa la) sz)) (va_A (WX h g ca iv lv fa la) sz)) 0 0 (va_A (WX h g ca iv lv fa la) sz) := by
  refine Met.ofW (cc := cX11_thread) (maxL := 3) (ret := (some .int)) (by decide) rfl ?_
  intro p e s m args below meth c s₁ B hml hv
  obtain ⟨rfl, hsz, hP, hK, hD0⟩ := hv
  have hx := B.exec
  have hb := B.bytes
  have hr := B.returns
  have ht := tb_tl (atoms_spec (ws := wc yX11_thread cX11_thread 3 (some .int)) B.pre)
  have hown : s.vm.findClass RX11 = some m.cls := findClass_of_methodNamed B.named
  have hlocks := B.notSynchronized
  subst hsz
  have hD := hD0.self (sz := s.heap.size)
  generalize hAe : va_A (WX h g ca iv lv fa la) s.heap.size = A at hD ⊢
  have hA : ∀ q : Nat, s.heap.size ≤ q → A q := fun q h => by rw [← hAe]; exact Or.inr h
  have hS : va_S A s.heap s.heap [] := va_S.rf
  have hl := lv_entry [.ref h, .int a, .int b] (n := 3) (Nat.le_of_ble_eq_true rfl)
  rw [lg_entry_eq]
  generalize (lg_sl [.ref h, .int a, .int b] ++ List.replicate (3 - (lg_sl [.ref h, .int a, .int b]).length) Slot.unset).toArray = ls at hl ⊢
  have hl : lv_has ls 3 [(0, .ref h), (1, .int a), (2, .int b)] := hl
  refine lv_aload_n hx hb dX11_thread_0 rfl (lv_at hl 0 rfl) ?_
  refine gX_11_2 hx hb ht hown hK hP m_417 dX11_thread_1 ?_
  refine lv_iload_n hx hb dX11_thread_4 rfl (lv_at hl 1 rfl) ?_
  refine vp_callSi (W.runV (As := [.int a]) (rest := []) ⟨hx, hb, hml, hown, ht⟩ (c_X0_has l dC dI h g ca iv lv fa la hI a) (kV 1 ht m_472 m_473 m_474 m_80 m_475 rfl rfl hd_X0_has_v ⟨Nat.le_of_ble_eq_true rfl, Nat.le_of_ble_eq_true rfl⟩) (vR hP hK (rX_0 hK hP)) rfl rfl hl.1 rfl (lv_room (Nat.le_of_ble_eq_true rfl)) dX11_thread_5 ⟨Nat.le_of_ble_eq_true rfl, Nat.le_of_ble_eq_true rfl⟩) (fun r1 hr1 => ?_)
  rcases hr1 with ⟨rfl, fr1⟩ | ⟨rfl, fr1⟩
  · skip
    have i_0_7 : 0 ≤ (iv 0 7).toInt ∧ (iv 0 7).toInt ≤ 10 := hI.1 0 7
    have fr1 : (0 ≤ (a : Int32).toInt ∧ (a : Int32).toInt < ((iv 0 7) : Int32).toInt) := fr1
    refine lv_if_ne (tgt := 14) hx hb dX11_thread_8 (by decide) (fun c2 => ?_) (fun c2 => ?_)
    · skip
      refine lv_iload_n hx hb dX11_thread_14 rfl (lv_at hl 2 rfl) ?_
      refine lv_iconst (v := 1) hx hb dX11_thread_15 (by decide) ?_
      refine lv_sipush (v := 999) hx hb dX11_thread_16 (by decide) ?_
      refine vp_callSi (W.runS (As := [.int b, .int 1, .int 999]) (rest := []) ⟨hx, hb, hml, hown, ht⟩ (c_X11_within l dC dI b 1 999 (b.toInt) (1) (999) (rfl : (b).toInt = _) (by decide : (1 : Int32).toInt = 1) (by decide : (999 : Int32).toInt = 999)) (kS 3 ht m_453 m_454 m_77 m_455 rfl rfl hd_X11_within_v ⟨Nat.le_of_ble_eq_true rfl, Nat.le_of_ble_eq_true rfl⟩) (sR noP (hK.sub (tys' := []) [] rfl)) rfl rfl hl.1 rfl (lv_room (Nat.le_of_ble_eq_true rfl)) dX11_thread_19 ⟨Nat.le_of_ble_eq_true rfl, Nat.le_of_ble_eq_true rfl⟩) (fun r3 hr3 => ?_)
      rcases hr3 with ⟨rfl, fr3⟩ | ⟨rfl, fr3⟩
      · skip
        refine lv_if_ne (tgt := 28) hx hb dX11_thread_22 (by decide) (fun c4 => ?_) (fun c4 => ?_)
        · skip
          refine lv_aload_n hx hb dX11_thread_28 rfl (lv_at hl 0 rfl) ?_
          refine gX_11_2 hx hb ht hown hK hP m_417 dX11_thread_29 ?_
          refine gX_0_1 hx hb ht hown hK hP m_155 dX11_thread_32 ?_
          refine lv_iload_n hx hb dX11_thread_35 rfl (lv_at hl 1 rfl) ?_
          refine lX_0_1 hx hb hK hP (f := (fa 0 1)) rfl (vp_in_iff.mpr ⟨by omega, by omega⟩) dX11_thread_36 ?_
          refine lv_topi (fun v5 ev5 => ?_)
          have tv5 : 0 ≤ v5.toInt ∧ v5.toInt ≤ 12 := by rw [ev5]; exact hI.2 0 1 _
          refine lv_bipush (v := 12) hx hb dX11_thread_37 (by decide) ?_
          refine lv_icmp_lt (tgt := 47) hx hb dX11_thread_39 (by decide) (fun c6 => ?_) (fun c6 => ?_)
          · have fc6 := z_lt (rfl : (v5).toInt = _) (by decide : (12 : Int32).toInt = 12) c6
            refine lv_aload_n hx hb dX11_thread_47 rfl (lv_at hl 0 rfl) ?_
            refine gX_11_2 hx hb ht hown hK hP m_417 dX11_thread_48 ?_
            refine lv_iload_n hx hb dX11_thread_51 rfl (lv_at hl 1 rfl) ?_
            refine lv_iload_n hx hb dX11_thread_52 rfl (lv_at hl 2 rfl) ?_
            have hFc := free_all hD hS hA
            refine va_calli (va_runV (As := [.int a, .int b]) (rest := []) ⟨hx, hb, hml, hown, ht⟩ (c_X0_reel l dC dI s.heap.size h g ca iv lv fa la hI a b (show 0 ≤ ((fa 0 1) (a : Int32).toNatClampNeg).toInt ∧ ((fa 0 1) (a : Int32).toNatClampNeg).toInt ≤ 11 from by rw [← ev5]; exact ⟨by omega, by omega⟩) ⟨by omega, by omega⟩) (kV 2 ht m_945 m_946 m_947 m_80 m_948 rfl rfl hd_X0_reel_v ⟨Nat.le_of_ble_eq_true rfl, Nat.le_of_ble_eq_true rfl⟩) (vW hP hK hD (rX_0 hK hP)) rfl rfl hl.1 rfl (lv_room (Nat.le_of_ble_eq_true rfl)) dX11_thread_53 ⟨Nat.le_of_ble_eq_true rfl, Nat.le_of_ble_eq_true rfl⟩) hS (fun q _ h => hFc q h) hFc (fun r7 u t H1 locs ht9 hvm hr7 hB hz1 hk1 hS => ?_)
            obtain ⟨n8, n9, hn8, hr7, rfl⟩ := hr7
            have hn9 : ∀ j, inb (bA 0 5 j) (n9 j) := fun j => full_i _
            obtain ⟨hP, hD⟩ := hB
            rw [ht9] at hP
            generalize H1 = H at hP hS ⊢
            have hP : va_P (dC, dI) classes (WX h g ca iv lv (u2 (u2 fa 0 1 n8) 0 5 n9) la) H := hP
            have hD : va_D A (WX h g ca iv lv (u2 (u2 fa 0 1 n8) 0 5 n9) la) := (show va_D _ (WX h g ca iv lv (u2 (u2 fa 0 1 n8) 0 5 n9) la) from hD).weaken (fun _ _ _ h => hFc _ h)
            have hP9 : va_P (dC, dI) classes (WX h g ca iv lv (u2 (u2 fa 0 1 n8) 0 5 n9) la) H := hP
            have hD9 : va_D A (WX h g ca iv lv (u2 (u2 fa 0 1 n8) 0 5 n9) la) := hD
            exact W.iret (v := r7) hx hb hr (fun t ht9 hW => ⟨⟨r7, (iv, lv, (u2 (u2 fa 0 1 n8) 0 5 n9), la), rfl, ⟨n8, n9, hn8, ⟨by omega, by omega⟩, rfl⟩, by rw [ht9]; exact hP9, hD9⟩, hS.F ht9⟩) hS.2.2 dX11_thread_56
          · have fc6 := z_nlt (rfl : (v5).toInt = _) (by decide : (12 : Int32).toInt = 12) c6
            refine lv_ldc hx hb hown (ht _ m_463) dX11_thread_42 ?_
            refine lv_goto (tgt := 56) hx hb dX11_thread_44 (by decide) ?_
            have hP9 : va_P (dC, dI) classes (WX h g ca iv lv (u2 (u2 fa 0 1 (fa 0 1)) 0 5 (fa 0 5)) la) s.heap := hP
            have hD9 : va_D A (WX h g ca iv lv (u2 (u2 fa 0 1 (fa 0 1)) 0 5 (fa 0 5)) la) := hD
            exact W.iret (v := (-100004)) hx hb hr (fun t ht9 hW => ⟨⟨(-100004), (iv, lv, (u2 (u2 fa 0 1 (fa 0 1)) 0 5 (fa 0 5)), la), rfl, ⟨(fa 0 1), (fa 0 5), (hI.2 0 1), ⟨by decide, by decide⟩, rfl⟩, by rw [ht9]; exact hP9, hD9⟩, hS.F ht9⟩) hS.2.2 dX11_thread_56
        · exact absurd c4 (by decide)
      · skip
        refine lv_if_ne (tgt := 28) hx hb dX11_thread_22 (by decide) (fun c10 => ?_) (fun c10 => ?_)
        · exact absurd rfl c10
        · skip
          refine lv_ldc hx hb hown (ht _ m_456) dX11_thread_25 ?_
          have hP9 : va_P (dC, dI) classes (WX h g ca iv lv (u2 (u2 fa 0 1 (fa 0 1)) 0 5 (fa 0 5)) la) s.heap := hP
          have hD9 : va_D A (WX h g ca iv lv (u2 (u2 fa 0 1 (fa 0 1)) 0 5 (fa 0 5)) la) := hD
          exact W.iret (v := (-100002)) hx hb hr (fun t ht9 hW => ⟨⟨(-100002), (iv, lv, (u2 (u2 fa 0 1 (fa 0 1)) 0 5 (fa 0 5)), la), rfl, ⟨(fa 0 1), (fa 0 5), (hI.2 0 1), ⟨by decide, by decide⟩, rfl⟩, by rw [ht9]; exact hP9, hD9⟩, hS.F ht9⟩) hS.2.2 dX11_thread_27
    · exact absurd c2 (by decide)
  · skip
    have i_0_7 : 0 ≤ (iv 0 7).toInt ∧ (iv 0 7).toInt ≤ 10 := hI.1 0 7
    have fr1 : ¬ (0 ≤ (a : Int32).toInt ∧ (a : Int32).toInt < ((iv 0 7) : Int32).toInt) := fr1
    refine lv_if_ne (tgt := 14) hx hb dX11_thread_8 (by decide) (fun c11 => ?_) (fun c11 => ?_)
    · exact absurd rfl c11
    · skip
      refine lv_ldc hx hb hown (ht _ m_476) dX11_thread_11 ?_
      have hP9 : va_P (dC, dI) classes (WX h g ca iv lv (u2 (u2 fa 0 1 (fa 0 1)) 0 5 (fa 0 5)) la) s.heap := hP
      have hD9 : va_D A (WX h g ca iv lv (u2 (u2 fa 0 1 (fa 0 1)) 0 5 (fa 0 5)) la) := hD
      exact W.iret (v := (-100001)) hx hb hr (fun t ht9 hW => ⟨⟨(-100001), (iv, lv, (u2 (u2 fa 0 1 (fa 0 1)) 0 5 (fa 0 5)), la), rfl, ⟨(fa 0 1), (fa 0 5), (hI.2 0 1), ⟨by decide, by decide⟩, rfl⟩, by rw [ht9]; exact hP9, hD9⟩, hS.F ht9⟩) hS.2.2 dX11_thread_13
set_option maxHeartbeats 4000000 in
set_option maxRecDepth 100000 in
/-- X11_turns -/
theorem c_X11_turns (l : Launch) (dC : Nat → ClassId) (dI : Nat → Nat → Nat) (sz : Nat) (h : Nat) (g : Nat → Nat → Nat) (ca : Nat → Nat → ClassId) (iv : Nat → Nat → Int32) (lv : Nat → Nat → Int64) (fa : Nat → Nat → Nat → Int32) (la : Nat → Nat → Nat → Int64) (hI : IX iv fa) (a : Int32) (b : Int32) : Met l yX11_turns (wc yX11_turns cX11_turns 3 (some .int)) ({ frames := 1, cells := 0, slots := 0, locals := 24 } : Room) (pW (dC, dI) classes (WX h g ca iv lv fa la) (TX ca) sz [.ref h, .int a, .int b]) (va_Qi (fun r (u : SS) => ∃ (na_0_2 : Nat → Int32) (na_0_6 : Nat → Int32), (∀ j, inb (bA 0 2 j) (na_0_2 j)) ∧ ((-100004) ≤ r.toInt ∧ r.toInt ≤ 8) ∧ u = (iv, lv, (u2 (u2 fa 0 2 na_0_2) 0 6 na_0_6), la)) (bX (dC, dI) h g ca (va_A (WX h g ca iv lv fa la) sz)) (va_A (WX h g ca iv lv fa la) sz)) 0 0 (va_A (WX h g ca iv lv fa la) sz) := by
  refine Met.ofW (cc := cX11_turns) (maxL := 3) (ret := (some .int)) (by decide) rfl ?_
  intro p e s m args below meth c s₁ B hml hv
  obtain ⟨rfl, hsz, hP, hK, hD0⟩ := hv
  have hx := B.exec
  have hb := B.bytes
  have hr := B.returns
  have ht := tb_tl (atoms_spec (ws := wc yX11_turns cX11_turns 3 (some .int)) B.pre)
  have hown : s.vm.findClass RX11 = some m.cls := findClass_of_methodNamed B.named
  have hlocks := B.notSynchronized
  subst hsz
  have hD := hD0.self (sz := s.heap.size)
  generalize hAe : va_A (WX h g ca iv lv fa la) s.heap.size = A at hD ⊢
  have hA : ∀ q : Nat, s.heap.size ≤ q → A q := fun q h => by rw [← hAe]; exact Or.inr h
  have hS : va_S A s.heap s.heap [] := va_S.rf
  have hl := lv_entry [.ref h, .int a, .int b] (n := 3) (Nat.le_of_ble_eq_true rfl)
  rw [lg_entry_eq]
  generalize (lg_sl [.ref h, .int a, .int b] ++ List.replicate (3 - (lg_sl [.ref h, .int a, .int b]).length) Slot.unset).toArray = ls at hl ⊢
  have hl : lv_has ls 3 [(0, .ref h), (1, .int a), (2, .int b)] := hl
  refine lv_aload_n hx hb dX11_turns_0 rfl (lv_at hl 0 rfl) ?_
  refine gX_11_2 hx hb ht hown hK hP m_417 dX11_turns_1 ?_
  refine lv_iload_n hx hb dX11_turns_4 rfl (lv_at hl 1 rfl) ?_
  refine vp_callSi (W.runV (As := [.int a]) (rest := []) ⟨hx, hb, hml, hown, ht⟩ (c_X0_has l dC dI h g ca iv lv fa la hI a) (kV 1 ht m_472 m_473 m_474 m_80 m_475 rfl rfl hd_X0_has_v ⟨Nat.le_of_ble_eq_true rfl, Nat.le_of_ble_eq_true rfl⟩) (vR hP hK (rX_0 hK hP)) rfl rfl hl.1 rfl (lv_room (Nat.le_of_ble_eq_true rfl)) dX11_turns_5 ⟨Nat.le_of_ble_eq_true rfl, Nat.le_of_ble_eq_true rfl⟩) (fun r1 hr1 => ?_)
  rcases hr1 with ⟨rfl, fr1⟩ | ⟨rfl, fr1⟩
  · skip
    have i_0_7 : 0 ≤ (iv 0 7).toInt ∧ (iv 0 7).toInt ≤ 10 := hI.1 0 7
    have fr1 : (0 ≤ (a : Int32).toInt ∧ (a : Int32).toInt < ((iv 0 7) : Int32).toInt) := fr1
    refine lv_if_ne (tgt := 14) hx hb dX11_turns_8 (by decide) (fun c2 => ?_) (fun c2 => ?_)
    · skip
      refine lv_iload_n hx hb dX11_turns_14 rfl (lv_at hl 2 rfl) ?_
      refine lv_iconst (v := 0) hx hb dX11_turns_15 (by decide) ?_
      refine lv_sipush (v := 999) hx hb dX11_turns_16 (by decide) ?_
      refine vp_callSi (W.runS (As := [.int b, .int 0, .int 999]) (rest := []) ⟨hx, hb, hml, hown, ht⟩ (c_X11_within l dC dI b 0 999 (b.toInt) (0) (999) (rfl : (b).toInt = _) (by decide : (0 : Int32).toInt = 0) (by decide : (999 : Int32).toInt = 999)) (kS 3 ht m_453 m_454 m_77 m_455 rfl rfl hd_X11_within_v ⟨Nat.le_of_ble_eq_true rfl, Nat.le_of_ble_eq_true rfl⟩) (sR noP (hK.sub (tys' := []) [] rfl)) rfl rfl hl.1 rfl (lv_room (Nat.le_of_ble_eq_true rfl)) dX11_turns_19 ⟨Nat.le_of_ble_eq_true rfl, Nat.le_of_ble_eq_true rfl⟩) (fun r3 hr3 => ?_)
      rcases hr3 with ⟨rfl, fr3⟩ | ⟨rfl, fr3⟩
      · skip
        refine lv_if_ne (tgt := 28) hx hb dX11_turns_22 (by decide) (fun c4 => ?_) (fun c4 => ?_)
        · skip
          refine lv_aload_n hx hb dX11_turns_28 rfl (lv_at hl 0 rfl) ?_
          refine gX_11_2 hx hb ht hown hK hP m_417 dX11_turns_29 ?_
          refine gX_0_2 hx hb ht hown hK hP m_157 dX11_turns_32 ?_
          refine lv_iload_n hx hb dX11_turns_35 rfl (lv_at hl 1 rfl) ?_
          refine lX_0_2 hx hb hK hP (f := (fa 0 2)) rfl (vp_in_iff.mpr ⟨by omega, by omega⟩) dX11_turns_36 ?_
          refine lv_topi (fun v5 ev5 => ?_)
          have tv5 : 0 ≤ v5.toInt ∧ v5.toInt ≤ 8 := by rw [ev5]; exact hI.2 0 2 _
          refine lv_bipush (v := 8) hx hb dX11_turns_37 (by decide) ?_
          refine lv_icmp_lt (tgt := 47) hx hb dX11_turns_39 (by decide) (fun c6 => ?_) (fun c6 => ?_)
          · have fc6 := z_lt (rfl : (v5).toInt = _) (by decide : (8 : Int32).toInt = 8) c6
            refine lv_aload_n hx hb dX11_turns_47 rfl (lv_at hl 0 rfl) ?_
            refine gX_11_2 hx hb ht hown hK hP m_417 dX11_turns_48 ?_
            refine lv_iload_n hx hb dX11_turns_51 rfl (lv_at hl 1 rfl) ?_
            refine lv_iload_n hx hb dX11_turns_52 rfl (lv_at hl 2 rfl) ?_
            have hFc := free_all hD hS hA
            refine va_calli (va_runV (As := [.int a, .int b]) (rest := []) ⟨hx, hb, hml, hown, ht⟩ (c_X0_untwist l dC dI s.heap.size h g ca iv lv fa la hI a b (show 0 ≤ ((fa 0 2) (a : Int32).toNatClampNeg).toInt ∧ ((fa 0 2) (a : Int32).toNatClampNeg).toInt ≤ 7 from by rw [← ev5]; exact ⟨by omega, by omega⟩) ⟨by omega, by omega⟩) (kV 2 ht m_977 m_978 m_979 m_80 m_980 rfl rfl hd_X0_untwist_v ⟨Nat.le_of_ble_eq_true rfl, Nat.le_of_ble_eq_true rfl⟩) (vW hP hK hD (rX_0 hK hP)) rfl rfl hl.1 rfl (lv_room (Nat.le_of_ble_eq_true rfl)) dX11_turns_53 ⟨Nat.le_of_ble_eq_true rfl, Nat.le_of_ble_eq_true rfl⟩) hS (fun q _ h => hFc q h) hFc (fun r7 u t H1 locs ht9 hvm hr7 hB hz1 hk1 hS => ?_)
            obtain ⟨n8, n9, hn8, hr7, rfl⟩ := hr7
            have hn9 : ∀ j, inb (bA 0 6 j) (n9 j) := fun j => full_i _
            obtain ⟨hP, hD⟩ := hB
            rw [ht9] at hP
            generalize H1 = H at hP hS ⊢
            have hP : va_P (dC, dI) classes (WX h g ca iv lv (u2 (u2 fa 0 2 n8) 0 6 n9) la) H := hP
            have hD : va_D A (WX h g ca iv lv (u2 (u2 fa 0 2 n8) 0 6 n9) la) := (show va_D _ (WX h g ca iv lv (u2 (u2 fa 0 2 n8) 0 6 n9) la) from hD).weaken (fun _ _ _ h => hFc _ h)
            have hP9 : va_P (dC, dI) classes (WX h g ca iv lv (u2 (u2 fa 0 2 n8) 0 6 n9) la) H := hP
            have hD9 : va_D A (WX h g ca iv lv (u2 (u2 fa 0 2 n8) 0 6 n9) la) := hD
            exact W.iret (v := r7) hx hb hr (fun t ht9 hW => ⟨⟨r7, (iv, lv, (u2 (u2 fa 0 2 n8) 0 6 n9), la), rfl, ⟨n8, n9, hn8, ⟨by omega, by omega⟩, rfl⟩, by rw [ht9]; exact hP9, hD9⟩, hS.F ht9⟩) hS.2.2 dX11_turns_56
          · have fc6 := z_nlt (rfl : (v5).toInt = _) (by decide : (8 : Int32).toInt = 8) c6
            refine lv_ldc hx hb hown (ht _ m_463) dX11_turns_42 ?_
            refine lv_goto (tgt := 56) hx hb dX11_turns_44 (by decide) ?_
            have hP9 : va_P (dC, dI) classes (WX h g ca iv lv (u2 (u2 fa 0 2 (fa 0 2)) 0 6 (fa 0 6)) la) s.heap := hP
            have hD9 : va_D A (WX h g ca iv lv (u2 (u2 fa 0 2 (fa 0 2)) 0 6 (fa 0 6)) la) := hD
            exact W.iret (v := (-100004)) hx hb hr (fun t ht9 hW => ⟨⟨(-100004), (iv, lv, (u2 (u2 fa 0 2 (fa 0 2)) 0 6 (fa 0 6)), la), rfl, ⟨(fa 0 2), (fa 0 6), (hI.2 0 2), ⟨by decide, by decide⟩, rfl⟩, by rw [ht9]; exact hP9, hD9⟩, hS.F ht9⟩) hS.2.2 dX11_turns_56
        · exact absurd c4 (by decide)
      · skip
        refine lv_if_ne (tgt := 28) hx hb dX11_turns_22 (by decide) (fun c10 => ?_) (fun c10 => ?_)
        · exact absurd rfl c10
        · skip
          refine lv_ldc hx hb hown (ht _ m_456) dX11_turns_25 ?_
          have hP9 : va_P (dC, dI) classes (WX h g ca iv lv (u2 (u2 fa 0 2 (fa 0 2)) 0 6 (fa 0 6)) la) s.heap := hP
          have hD9 : va_D A (WX h g ca iv lv (u2 (u2 fa 0 2 (fa 0 2)) 0 6 (fa 0 6)) la) := hD
          exact W.iret (v := (-100002)) hx hb hr (fun t ht9 hW => ⟨⟨(-100002), (iv, lv, (u2 (u2 fa 0 2 (fa 0 2)) 0 6 (fa 0 6)), la), rfl, ⟨(fa 0 2), (fa 0 6), (hI.2 0 2), ⟨by decide, by decide⟩, rfl⟩, by rw [ht9]; exact hP9, hD9⟩, hS.F ht9⟩) hS.2.2 dX11_turns_27
    · exact absurd c2 (by decide)
  · skip
    have i_0_7 : 0 ≤ (iv 0 7).toInt ∧ (iv 0 7).toInt ≤ 10 := hI.1 0 7
    have fr1 : ¬ (0 ≤ (a : Int32).toInt ∧ (a : Int32).toInt < ((iv 0 7) : Int32).toInt) := fr1
    refine lv_if_ne (tgt := 14) hx hb dX11_turns_8 (by decide) (fun c11 => ?_) (fun c11 => ?_)
    · exact absurd rfl c11
    · skip
      refine lv_ldc hx hb hown (ht _ m_476) dX11_turns_11 ?_
      have hP9 : va_P (dC, dI) classes (WX h g ca iv lv (u2 (u2 fa 0 2 (fa 0 2)) 0 6 (fa 0 6)) la) s.heap := hP
      have hD9 : va_D A (WX h g ca iv lv (u2 (u2 fa 0 2 (fa 0 2)) 0 6 (fa 0 6)) la) := hD
      exact W.iret (v := (-100001)) hx hb hr (fun t ht9 hW => ⟨⟨(-100001), (iv, lv, (u2 (u2 fa 0 2 (fa 0 2)) 0 6 (fa 0 6)), la), rfl, ⟨(fa 0 2), (fa 0 6), (hI.2 0 2), ⟨by decide, by decide⟩, rfl⟩, by rw [ht9]; exact hP9, hD9⟩, hS.F ht9⟩) hS.2.2 dX11_turns_13
set_option maxHeartbeats 4000000 in
set_option maxRecDepth 100000 in
/-- X11_twist -/
theorem c_X11_twist (l : Launch) (dC : Nat → ClassId) (dI : Nat → Nat → Nat) (h : Nat) (g : Nat → Nat → Nat) (ca : Nat → Nat → ClassId) (iv : Nat → Nat → Int32) (lv : Nat → Nat → Int64) (fa : Nat → Nat → Nat → Int32) (la : Nat → Nat → Nat → Int64) (hI : IX iv fa) (a : Int32) : Met l yX11_twist (wc yX11_twist cX11_twist 2 (some .int)) ({ frames := 1, cells := 0, slots := 0, locals := 21 } : Room) (pR (dC, dI) classes (WX h g ca iv lv fa la) (TX ca) [.ref h, .int a]) (vp_Si (fun r => True)) 0 0 (fun _ => False) := by
  refine Met.ofW (cc := cX11_twist) (maxL := 2) (ret := (some .int)) (by decide) rfl ?_
  intro p e s m args below meth c s₁ B hml hv
  obtain ⟨rfl, hP, hK⟩ := hv
  have hx := B.exec
  have hb := B.bytes
  have hr := B.returns
  have ht := tb_tl (atoms_spec (ws := wc yX11_twist cX11_twist 2 (some .int)) B.pre)
  have hown : s.vm.findClass RX11 = some m.cls := findClass_of_methodNamed B.named
  have hlocks := B.notSynchronized
  have hl := lv_entry [.ref h, .int a] (n := 2) (Nat.le_of_ble_eq_true rfl)
  rw [lg_entry_eq]
  generalize (lg_sl [.ref h, .int a] ++ List.replicate (2 - (lg_sl [.ref h, .int a]).length) Slot.unset).toArray = ls at hl ⊢
  have hl : lv_has ls 2 [(0, .ref h), (1, .int a)] := hl
  refine lv_aload_n hx hb dX11_twist_0 rfl (lv_at hl 0 rfl) ?_
  refine gX_11_2 hx hb ht hown hK hP m_417 dX11_twist_1 ?_
  refine lv_iload_n hx hb dX11_twist_4 rfl (lv_at hl 1 rfl) ?_
  refine vp_callSi (W.runV (As := [.int a]) (rest := []) ⟨hx, hb, hml, hown, ht⟩ (c_X0_has l dC dI h g ca iv lv fa la hI a) (kV 1 ht m_472 m_473 m_474 m_80 m_475 rfl rfl hd_X0_has_v ⟨Nat.le_of_ble_eq_true rfl, Nat.le_of_ble_eq_true rfl⟩) (vR hP hK (rX_0 hK hP)) rfl rfl hl.1 rfl (lv_room (Nat.le_of_ble_eq_true rfl)) dX11_twist_5 ⟨Nat.le_of_ble_eq_true rfl, Nat.le_of_ble_eq_true rfl⟩) (fun r1 hr1 => ?_)
  rcases hr1 with ⟨rfl, fr1⟩ | ⟨rfl, fr1⟩
  · skip
    have i_0_7 : 0 ≤ (iv 0 7).toInt ∧ (iv 0 7).toInt ≤ 10 := hI.1 0 7
    have fr1 : (0 ≤ (a : Int32).toInt ∧ (a : Int32).toInt < ((iv 0 7) : Int32).toInt) := fr1
    refine lv_if_eq (tgt := 22) hx hb dX11_twist_8 (by decide) (fun c2 => ?_) (fun c2 => ?_)
    · exact absurd c2 (by decide)
    · skip
      refine lv_aload_n hx hb dX11_twist_11 rfl (lv_at hl 0 rfl) ?_
      refine gX_11_2 hx hb ht hown hK hP m_417 dX11_twist_12 ?_
      refine lv_iload_n hx hb dX11_twist_15 rfl (lv_at hl 1 rfl) ?_
      refine vp_callSi (W.runV (As := [.int a]) (rest := []) ⟨hx, hb, hml, hown, ht⟩ (c_X0_middleTwist l dC dI h g ca iv lv fa la hI a ⟨by omega, by omega⟩) (kV 1 ht m_985 m_986 m_987 m_80 m_988 rfl rfl hd_X0_middleTwist_v ⟨Nat.le_of_ble_eq_true rfl, Nat.le_of_ble_eq_true rfl⟩) (vR hP hK (rX_0 hK hP)) rfl rfl hl.1 rfl (lv_room (Nat.le_of_ble_eq_true rfl)) dX11_twist_16 ⟨Nat.le_of_ble_eq_true rfl, Nat.le_of_ble_eq_true rfl⟩) (fun r3 hr3 => ?_)
      refine lv_goto (tgt := 24) hx hb dX11_twist_19 (by decide) ?_
      exact W.iret (v := r3) hx hb hr (fun t ht9 hW => ⟨r3, rfl, trivial, ht9⟩) (fun q hq => by cases hq) dX11_twist_24
  · skip
    have i_0_7 : 0 ≤ (iv 0 7).toInt ∧ (iv 0 7).toInt ≤ 10 := hI.1 0 7
    have fr1 : ¬ (0 ≤ (a : Int32).toInt ∧ (a : Int32).toInt < ((iv 0 7) : Int32).toInt) := fr1
    refine lv_if_eq (tgt := 22) hx hb dX11_twist_8 (by decide) (fun c4 => ?_) (fun c4 => ?_)
    · skip
      refine lv_ldc hx hb hown (ht _ m_476) dX11_twist_22 ?_
      exact W.iret (v := (-100001)) hx hb hr (fun t ht9 hW => ⟨(-100001), rfl, trivial, ht9⟩) (fun q hq => by cases hq) dX11_twist_24
    · exact absurd rfl c4
set_option maxHeartbeats 4000000 in
set_option maxRecDepth 100000 in
/-- X11_burnt -/
theorem c_X11_burnt (l : Launch) (dC : Nat → ClassId) (dI : Nat → Nat → Nat) (sz : Nat) (h : Nat) (g : Nat → Nat → Nat) (ca : Nat → Nat → ClassId) (iv : Nat → Nat → Int32) (lv : Nat → Nat → Int64) (fa : Nat → Nat → Nat → Int32) (la : Nat → Nat → Nat → Int64) (hI : IX iv fa) (a : Int32) (b : Int32) (d : Int32) (k : Int32) : Met l yX11_burnt (wc yX11_burnt cX11_burnt 5 (some .int)) ({ frames := 1, cells := 0, slots := 0, locals := 22 } : Room) (pW (dC, dI) classes (WX h g ca iv lv fa la) (TX ca) sz [.ref h, .int a, .int b, .int d, .int k]) (va_Qi (fun r (u : SS) => ∃ (na_0_3 : Nat → Int32) (na_0_4 : Nat → Int32), ((-100002) ≤ r.toInt ∧ r.toInt ≤ 1) ∧ u = (iv, lv, (u2 (u2 fa 0 3 na_0_3) 0 4 na_0_4), la)) (bX (dC, dI) h g ca (va_A (WX h g ca iv lv fa la) sz)) (va_A (WX h g ca iv lv fa la) sz)) 0 0 (va_A (WX h g ca iv lv fa la) sz) := by
  refine Met.ofW (cc := cX11_burnt) (maxL := 5) (ret := (some .int)) (by decide) rfl ?_
  intro p e s m args below meth c s₁ B hml hv
  obtain ⟨rfl, hsz, hP, hK, hD0⟩ := hv
  have hx := B.exec
  have hb := B.bytes
  have hr := B.returns
  have ht := tb_tl (atoms_spec (ws := wc yX11_burnt cX11_burnt 5 (some .int)) B.pre)
  have hown : s.vm.findClass RX11 = some m.cls := findClass_of_methodNamed B.named
  have hlocks := B.notSynchronized
  subst hsz
  have hD := hD0.self (sz := s.heap.size)
  generalize hAe : va_A (WX h g ca iv lv fa la) s.heap.size = A at hD ⊢
  have hA : ∀ q : Nat, s.heap.size ≤ q → A q := fun q h => by rw [← hAe]; exact Or.inr h
  have hS : va_S A s.heap s.heap [] := va_S.rf
  have hl := lv_entry [.ref h, .int a, .int b, .int d, .int k] (n := 5) (Nat.le_of_ble_eq_true rfl)
  rw [lg_entry_eq]
  generalize (lg_sl [.ref h, .int a, .int b, .int d, .int k] ++ List.replicate (5 - (lg_sl [.ref h, .int a, .int b, .int d, .int k]).length) Slot.unset).toArray = ls at hl ⊢
  have hl : lv_has ls 5 [(0, .ref h), (1, .int a), (2, .int b), (3, .int d), (4, .int k)] := hl
  refine lv_aload_n hx hb dX11_burnt_0 rfl (lv_at hl 0 rfl) ?_
  refine gX_11_2 hx hb ht hown hK hP m_417 dX11_burnt_1 ?_
  refine lv_iload_n hx hb dX11_burnt_4 rfl (lv_at hl 1 rfl) ?_
  refine vp_callSi (W.runV (As := [.int a]) (rest := []) ⟨hx, hb, hml, hown, ht⟩ (c_X0_has l dC dI h g ca iv lv fa la hI a) (kV 1 ht m_472 m_473 m_474 m_80 m_475 rfl rfl hd_X0_has_v ⟨Nat.le_of_ble_eq_true rfl, Nat.le_of_ble_eq_true rfl⟩) (vR hP hK (rX_0 hK hP)) rfl rfl hl.1 rfl (lv_room (Nat.le_of_ble_eq_true rfl)) dX11_burnt_5 ⟨Nat.le_of_ble_eq_true rfl, Nat.le_of_ble_eq_true rfl⟩) (fun r1 hr1 => ?_)
  rcases hr1 with ⟨rfl, fr1⟩ | ⟨rfl, fr1⟩
  · skip
    have i_0_7 : 0 ≤ (iv 0 7).toInt ∧ (iv 0 7).toInt ≤ 10 := hI.1 0 7
    have fr1 : (0 ≤ (a : Int32).toInt ∧ (a : Int32).toInt < ((iv 0 7) : Int32).toInt) := fr1
    refine lv_if_ne (tgt := 14) hx hb dX11_burnt_8 (by decide) (fun c2 => ?_) (fun c2 => ?_)
    · skip
      refine lv_iload_n hx hb dX11_burnt_14 rfl (lv_at hl 2 rfl) ?_
      refine lv_iconst (v := 0) hx hb dX11_burnt_15 (by decide) ?_
      refine lv_iconst (v := 1) hx hb dX11_burnt_16 (by decide) ?_
      refine vp_callSi (W.runS (As := [.int b, .int 0, .int 1]) (rest := []) ⟨hx, hb, hml, hown, ht⟩ (c_X11_within l dC dI b 0 1 (b.toInt) (0) (1) (rfl : (b).toInt = _) (by decide : (0 : Int32).toInt = 0) (by decide : (1 : Int32).toInt = 1)) (kS 3 ht m_453 m_454 m_77 m_455 rfl rfl hd_X11_within_v ⟨Nat.le_of_ble_eq_true rfl, Nat.le_of_ble_eq_true rfl⟩) (sR noP (hK.sub (tys' := []) [] rfl)) rfl rfl hl.1 rfl (lv_room (Nat.le_of_ble_eq_true rfl)) dX11_burnt_17 ⟨Nat.le_of_ble_eq_true rfl, Nat.le_of_ble_eq_true rfl⟩) (fun r3 hr3 => ?_)
      rcases hr3 with ⟨rfl, fr3⟩ | ⟨rfl, fr3⟩
      · skip
        refine lv_if_eq (tgt := 46) hx hb dX11_burnt_20 (by decide) (fun c4 => ?_) (fun c4 => ?_)
        · exact absurd c4 (by decide)
        · skip
          refine lv_iload_n hx hb dX11_burnt_23 rfl (lv_at hl 3 rfl) ?_
          refine lv_iconst (v := 0) hx hb dX11_burnt_24 (by decide) ?_
          refine lv_sipush (v := 999) hx hb dX11_burnt_25 (by decide) ?_
          refine vp_callSi (W.runS (As := [.int d, .int 0, .int 999]) (rest := []) ⟨hx, hb, hml, hown, ht⟩ (c_X11_within l dC dI d 0 999 (d.toInt) (0) (999) (rfl : (d).toInt = _) (by decide : (0 : Int32).toInt = 0) (by decide : (999 : Int32).toInt = 999)) (kS 3 ht m_453 m_454 m_77 m_455 rfl rfl hd_X11_within_v ⟨Nat.le_of_ble_eq_true rfl, Nat.le_of_ble_eq_true rfl⟩) (sR noP (hK.sub (tys' := []) [] rfl)) rfl rfl hl.1 rfl (lv_room (Nat.le_of_ble_eq_true rfl)) dX11_burnt_28 ⟨Nat.le_of_ble_eq_true rfl, Nat.le_of_ble_eq_true rfl⟩) (fun r5 hr5 => ?_)
          rcases hr5 with ⟨rfl, fr5⟩ | ⟨rfl, fr5⟩
          · skip
            refine lv_if_eq (tgt := 46) hx hb dX11_burnt_31 (by decide) (fun c6 => ?_) (fun c6 => ?_)
            · exact absurd c6 (by decide)
            · skip
              refine lv_iload hx hb dX11_burnt_34 (lv_at hl 4 rfl) ?_
              refine lv_iload_n hx hb dX11_burnt_36 rfl (lv_at hl 3 rfl) ?_
              refine lv_sipush (v := 999) hx hb dX11_burnt_37 (by decide) ?_
              refine vp_callSi (W.runS (As := [.int k, .int d, .int 999]) (rest := []) ⟨hx, hb, hml, hown, ht⟩ (c_X11_within l dC dI k d 999 (k.toInt) (d.toInt) (999) (rfl : (k).toInt = _) (rfl : (d).toInt = _) (by decide : (999 : Int32).toInt = 999)) (kS 3 ht m_453 m_454 m_77 m_455 rfl rfl hd_X11_within_v ⟨Nat.le_of_ble_eq_true rfl, Nat.le_of_ble_eq_true rfl⟩) (sR noP (hK.sub (tys' := []) [] rfl)) rfl rfl hl.1 rfl (lv_room (Nat.le_of_ble_eq_true rfl)) dX11_burnt_40 ⟨Nat.le_of_ble_eq_true rfl, Nat.le_of_ble_eq_true rfl⟩) (fun r7 hr7 => ?_)
              rcases hr7 with ⟨rfl, fr7⟩ | ⟨rfl, fr7⟩
              · skip
                refine lv_if_ne (tgt := 49) hx hb dX11_burnt_43 (by decide) (fun c8 => ?_) (fun c8 => ?_)
                · skip
                  refine lv_iload_n hx hb dX11_burnt_49 rfl (lv_at hl 2 rfl) ?_
                  refine lv_if_ne (tgt := 66) hx hb dX11_burnt_50 (by decide) (fun c9 => ?_) (fun c9 => ?_)
                  · have fc9 := z_ne (rfl : (b).toInt = _) (by decide : (0 : Int32).toInt = 0) c9
                    refine lv_aload_n hx hb dX11_burnt_66 rfl (lv_at hl 0 rfl) ?_
                    refine gX_11_2 hx hb ht hown hK hP m_417 dX11_burnt_67 ?_
                    refine gX_0_4 hx hb ht hown hK hP m_161 dX11_burnt_70 ?_
                    refine lv_iload_n hx hb dX11_burnt_73 rfl (lv_at hl 1 rfl) ?_
                    refine lv_iload_n hx hb dX11_burnt_74 rfl (lv_at hl 3 rfl) ?_
                    refine tX_0_4 hx hb hK hP hD hS (f0 := (fa 0 4)) rfl (i := a) (x := d) (vp_in_iff.mpr ⟨by omega, by omega⟩) dX11_burnt_75 (fun f10 ef10 H locs hP hD hS => ?_)
                    have hf10 : ∀ j, inb (bA 0 4 j) (f10 j) := fun j => full_i _
                    refine lv_iconst (v := 1) hx hb dX11_burnt_76 (by decide) ?_
                    have hP9 : va_P (dC, dI) classes (WX h g ca iv lv (u2 (u2 fa 0 3 (fa 0 3)) 0 4 f10) la) H := hP
                    have hD9 : va_D A (WX h g ca iv lv (u2 (u2 fa 0 3 (fa 0 3)) 0 4 f10) la) := hD
                    exact W.iret (v := 1) hx hb hr (fun t ht9 hW => ⟨⟨1, (iv, lv, (u2 (u2 fa 0 3 (fa 0 3)) 0 4 f10), la), rfl, ⟨(fa 0 3), f10, ⟨by decide, by decide⟩, rfl⟩, by rw [ht9]; exact hP9, hD9⟩, hS.F ht9⟩) hS.2.2 dX11_burnt_77
                  · have fc9 := z_eq (rfl : (b).toInt = _) (by decide : (0 : Int32).toInt = 0) c9
                    refine lv_aload_n hx hb dX11_burnt_53 rfl (lv_at hl 0 rfl) ?_
                    refine gX_11_2 hx hb ht hown hK hP m_417 dX11_burnt_54 ?_
                    refine gX_0_3 hx hb ht hown hK hP m_159 dX11_burnt_57 ?_
                    refine lv_iload_n hx hb dX11_burnt_60 rfl (lv_at hl 1 rfl) ?_
                    refine lv_iload_n hx hb dX11_burnt_61 rfl (lv_at hl 3 rfl) ?_
                    refine tX_0_3 hx hb hK hP hD hS (f0 := (fa 0 3)) rfl (i := a) (x := d) (vp_in_iff.mpr ⟨by omega, by omega⟩) dX11_burnt_62 (fun f11 ef11 H locs hP hD hS => ?_)
                    have hf11 : ∀ j, inb (bA 0 3 j) (f11 j) := fun j => full_i _
                    refine lv_goto (tgt := 76) hx hb dX11_burnt_63 (by decide) ?_
                    refine lv_iconst (v := 1) hx hb dX11_burnt_76 (by decide) ?_
                    have hP9 : va_P (dC, dI) classes (WX h g ca iv lv (u2 (u2 fa 0 3 f11) 0 4 (fa 0 4)) la) H := hP
                    have hD9 : va_D A (WX h g ca iv lv (u2 (u2 fa 0 3 f11) 0 4 (fa 0 4)) la) := hD
                    exact W.iret (v := 1) hx hb hr (fun t ht9 hW => ⟨⟨1, (iv, lv, (u2 (u2 fa 0 3 f11) 0 4 (fa 0 4)), la), rfl, ⟨f11, (fa 0 4), ⟨by decide, by decide⟩, rfl⟩, by rw [ht9]; exact hP9, hD9⟩, hS.F ht9⟩) hS.2.2 dX11_burnt_77
                · exact absurd c8 (by decide)
              · skip
                refine lv_if_ne (tgt := 49) hx hb dX11_burnt_43 (by decide) (fun c12 => ?_) (fun c12 => ?_)
                · exact absurd rfl c12
                · skip
                  refine lv_ldc hx hb hown (ht _ m_456) dX11_burnt_46 ?_
                  have hP9 : va_P (dC, dI) classes (WX h g ca iv lv (u2 (u2 fa 0 3 (fa 0 3)) 0 4 (fa 0 4)) la) s.heap := hP
                  have hD9 : va_D A (WX h g ca iv lv (u2 (u2 fa 0 3 (fa 0 3)) 0 4 (fa 0 4)) la) := hD
                  exact W.iret (v := (-100002)) hx hb hr (fun t ht9 hW => ⟨⟨(-100002), (iv, lv, (u2 (u2 fa 0 3 (fa 0 3)) 0 4 (fa 0 4)), la), rfl, ⟨(fa 0 3), (fa 0 4), ⟨by decide, by decide⟩, rfl⟩, by rw [ht9]; exact hP9, hD9⟩, hS.F ht9⟩) hS.2.2 dX11_burnt_48
          · skip
            refine lv_if_eq (tgt := 46) hx hb dX11_burnt_31 (by decide) (fun c13 => ?_) (fun c13 => ?_)
            · skip
              refine lv_ldc hx hb hown (ht _ m_456) dX11_burnt_46 ?_
              have hP9 : va_P (dC, dI) classes (WX h g ca iv lv (u2 (u2 fa 0 3 (fa 0 3)) 0 4 (fa 0 4)) la) s.heap := hP
              have hD9 : va_D A (WX h g ca iv lv (u2 (u2 fa 0 3 (fa 0 3)) 0 4 (fa 0 4)) la) := hD
              exact W.iret (v := (-100002)) hx hb hr (fun t ht9 hW => ⟨⟨(-100002), (iv, lv, (u2 (u2 fa 0 3 (fa 0 3)) 0 4 (fa 0 4)), la), rfl, ⟨(fa 0 3), (fa 0 4), ⟨by decide, by decide⟩, rfl⟩, by rw [ht9]; exact hP9, hD9⟩, hS.F ht9⟩) hS.2.2 dX11_burnt_48
            · exact absurd rfl c13
      · skip
        refine lv_if_eq (tgt := 46) hx hb dX11_burnt_20 (by decide) (fun c14 => ?_) (fun c14 => ?_)
        · skip
          refine lv_ldc hx hb hown (ht _ m_456) dX11_burnt_46 ?_
          have hP9 : va_P (dC, dI) classes (WX h g ca iv lv (u2 (u2 fa 0 3 (fa 0 3)) 0 4 (fa 0 4)) la) s.heap := hP
          have hD9 : va_D A (WX h g ca iv lv (u2 (u2 fa 0 3 (fa 0 3)) 0 4 (fa 0 4)) la) := hD
          exact W.iret (v := (-100002)) hx hb hr (fun t ht9 hW => ⟨⟨(-100002), (iv, lv, (u2 (u2 fa 0 3 (fa 0 3)) 0 4 (fa 0 4)), la), rfl, ⟨(fa 0 3), (fa 0 4), ⟨by decide, by decide⟩, rfl⟩, by rw [ht9]; exact hP9, hD9⟩, hS.F ht9⟩) hS.2.2 dX11_burnt_48
        · exact absurd rfl c14
    · exact absurd c2 (by decide)
  · skip
    have i_0_7 : 0 ≤ (iv 0 7).toInt ∧ (iv 0 7).toInt ≤ 10 := hI.1 0 7
    have fr1 : ¬ (0 ≤ (a : Int32).toInt ∧ (a : Int32).toInt < ((iv 0 7) : Int32).toInt) := fr1
    refine lv_if_ne (tgt := 14) hx hb dX11_burnt_8 (by decide) (fun c15 => ?_) (fun c15 => ?_)
    · exact absurd rfl c15
    · skip
      refine lv_ldc hx hb hown (ht _ m_476) dX11_burnt_11 ?_
      have hP9 : va_P (dC, dI) classes (WX h g ca iv lv (u2 (u2 fa 0 3 (fa 0 3)) 0 4 (fa 0 4)) la) s.heap := hP
      have hD9 : va_D A (WX h g ca iv lv (u2 (u2 fa 0 3 (fa 0 3)) 0 4 (fa 0 4)) la) := hD
      exact W.iret (v := (-100001)) hx hb hr (fun t ht9 hW => ⟨⟨(-100001), (iv, lv, (u2 (u2 fa 0 3 (fa 0 3)) 0 4 (fa 0 4)), la), rfl, ⟨(fa 0 3), (fa 0 4), ⟨by decide, by decide⟩, rfl⟩, by rw [ht9]; exact hP9, hD9⟩, hS.F ht9⟩) hS.2.2 dX11_burnt_13
set_option maxHeartbeats 4000000 in
set_option maxRecDepth 100000 in
/-- X11_load -/
theorem c_X11_load (l : Launch) (dC : Nat → ClassId) (dI : Nat → Nat → Nat) (sz : Nat) (h : Nat) (g : Nat → Nat → Nat) (ca : Nat → Nat → ClassId) (iv : Nat → Nat → Int32) (lv : Nat → Nat → Int64) (fa : Nat → Nat → Nat → Int32) (la : Nat → Nat → Nat → Int64) (hI : IX iv fa) (a : Int32) : Met l yX11_load (wc yX11_load cX11_load 2 (some .int)) ({ frames := 1, cells := 0, slots := 0, locals := 22 } : Room) (pW (dC, dI) classes (WX h g ca iv lv fa la) (TX ca) sz [.ref h, .int a]) (va_Qi (fun r (u : SS) => ∃ (na_5_0 : Nat → Int32) (ni_5_4 : Int32) (ni_5_6 : Int32), inb (bI 5 4) ni_5_4 ∧ ((-100004) ≤ r.toInt ∧ r.toInt ≤ 8) ∧ u = ((u2 (u2 iv 5 4 ni_5_4) 5 6 ni_5_6), lv, (u2 fa 5 0 na_5_0), la)) (bX (dC, dI) h g ca (va_A (WX h g ca iv lv fa la) sz)) (va_A (WX h g ca iv lv fa la) sz)) 0 0 (va_A (WX h g ca iv lv fa la) sz) := by
  refine Met.ofW (cc := cX11_load) (maxL := 2) (ret := (some .int)) (by decide) rfl ?_
  intro p e s m args below meth c s₁ B hml hv
  obtain ⟨rfl, hsz, hP, hK, hD0⟩ := hv
  have hx := B.exec
  have hb := B.bytes
  have hr := B.returns
  have ht := tb_tl (atoms_spec (ws := wc yX11_load cX11_load 2 (some .int)) B.pre)
  have hown : s.vm.findClass RX11 = some m.cls := findClass_of_methodNamed B.named
  have hlocks := B.notSynchronized
  subst hsz
  have hD := hD0.self (sz := s.heap.size)
  generalize hAe : va_A (WX h g ca iv lv fa la) s.heap.size = A at hD ⊢
  have hA : ∀ q : Nat, s.heap.size ≤ q → A q := fun q h => by rw [← hAe]; exact Or.inr h
  have hS : va_S A s.heap s.heap [] := va_S.rf
  have hl := lv_entry [.ref h, .int a] (n := 2) (Nat.le_of_ble_eq_true rfl)
  rw [lg_entry_eq]
  generalize (lg_sl [.ref h, .int a] ++ List.replicate (2 - (lg_sl [.ref h, .int a]).length) Slot.unset).toArray = ls at hl ⊢
  have hl : lv_has ls 2 [(0, .ref h), (1, .int a)] := hl
  refine lv_iload_n hx hb dX11_load_0 rfl (lv_at hl 1 rfl) ?_
  refine lv_iconst (v := 1) hx hb dX11_load_1 (by decide) ?_
  refine lv_sipush (v := 999) hx hb dX11_load_2 (by decide) ?_
  refine vp_callSi (W.runS (As := [.int a, .int 1, .int 999]) (rest := []) ⟨hx, hb, hml, hown, ht⟩ (c_X11_within l dC dI a 1 999 (a.toInt) (1) (999) (rfl : (a).toInt = _) (by decide : (1 : Int32).toInt = 1) (by decide : (999 : Int32).toInt = 999)) (kS 3 ht m_453 m_454 m_77 m_455 rfl rfl hd_X11_within_v ⟨Nat.le_of_ble_eq_true rfl, Nat.le_of_ble_eq_true rfl⟩) (sR noP (hK.sub (tys' := []) [] rfl)) rfl rfl hl.1 rfl (lv_room (Nat.le_of_ble_eq_true rfl)) dX11_load_5 ⟨Nat.le_of_ble_eq_true rfl, Nat.le_of_ble_eq_true rfl⟩) (fun r1 hr1 => ?_)
  rcases hr1 with ⟨rfl, fr1⟩ | ⟨rfl, fr1⟩
  · skip
    refine lv_if_ne (tgt := 14) hx hb dX11_load_8 (by decide) (fun c2 => ?_) (fun c2 => ?_)
    · skip
      refine lv_aload_n hx hb dX11_load_14 rfl (lv_at hl 0 rfl) ?_
      refine gX_11_7 hx hb ht hown hK hP m_422 dX11_load_15 ?_
      have i_5_4 : 0 ≤ (iv 5 4).toInt ∧ (iv 5 4).toInt ≤ 8 := hI.1 5 4
      refine gX_5_4 hx hb ht hown hK hP m_341 (v := (iv 5 4)) rfl dX11_load_18 ?_
      refine lv_bipush (v := 8) hx hb dX11_load_21 (by decide) ?_
      refine lv_icmp_lt (tgt := 31) hx hb dX11_load_23 (by decide) (fun c3 => ?_) (fun c3 => ?_)
      · have fc3 := z_lt (rfl : ((iv 5 4)).toInt = _) (by decide : (8 : Int32).toInt = 8) c3
        refine lv_aload_n hx hb dX11_load_31 rfl (lv_at hl 0 rfl) ?_
        refine gX_11_7 hx hb ht hown hK hP m_422 dX11_load_32 ?_
        refine lv_iload_n hx hb dX11_load_35 rfl (lv_at hl 1 rfl) ?_
        have hFc := free_all hD hS hA
        refine va_calli (va_runV (As := [.int a]) (rest := []) ⟨hx, hb, hml, hown, ht⟩ (c_X5_bring l dC dI s.heap.size h g ca iv lv fa la hI a (show 0 ≤ ((iv 5 4) : Int32).toInt ∧ ((iv 5 4) : Int32).toInt ≤ 7 from ⟨by omega, by omega⟩)) (kV 1 ht m_1005 m_1006 m_1007 m_86 m_1008 rfl rfl hd_X5_bring_v ⟨Nat.le_of_ble_eq_true rfl, Nat.le_of_ble_eq_true rfl⟩) (vW hP hK hD (rX_5 hK hP)) rfl rfl hl.1 rfl (lv_room (Nat.le_of_ble_eq_true rfl)) dX11_load_36 ⟨Nat.le_of_ble_eq_true rfl, Nat.le_of_ble_eq_true rfl⟩) hS (fun q _ h => hFc q h) hFc (fun r4 u t H1 locs ht9 hvm hr4 hB hz1 hk1 hS => ?_)
        obtain ⟨n5, n6, n7, hn6, dn6, hr4, rfl⟩ := hr4
        have hn5 : ∀ j, inb (bA 5 0 j) (n5 j) := fun j => full_i _
        have dn6 : n6.toInt = ((iv 5 4) : Int32).toInt + 1 := dn6
        have hn6 : 0 ≤ n6.toInt ∧ n6.toInt ≤ 8 := hn6
        obtain ⟨hP, hD⟩ := hB
        rw [ht9] at hP
        generalize H1 = H at hP hS ⊢
        have hP : va_P (dC, dI) classes (WX h g ca (u2 (u2 iv 5 4 n6) 5 6 n7) lv (u2 fa 5 0 n5) la) H := hP
        have hD : va_D A (WX h g ca (u2 (u2 iv 5 4 n6) 5 6 n7) lv (u2 fa 5 0 n5) la) := (show va_D _ (WX h g ca (u2 (u2 iv 5 4 n6) 5 6 n7) lv (u2 fa 5 0 n5) la) from hD).weaken (fun _ _ _ h => hFc _ h)
        have hP9 : va_P (dC, dI) classes (WX h g ca (u2 (u2 iv 5 4 n6) 5 6 n7) lv (u2 fa 5 0 n5) la) H := hP
        have hD9 : va_D A (WX h g ca (u2 (u2 iv 5 4 n6) 5 6 n7) lv (u2 fa 5 0 n5) la) := hD
        exact W.iret (v := r4) hx hb hr (fun t ht9 hW => ⟨⟨r4, ((u2 (u2 iv 5 4 n6) 5 6 n7), lv, (u2 fa 5 0 n5), la), rfl, ⟨n5, n6, n7, (show inb (0, 8) n6 from ⟨by omega, by omega⟩), ⟨by omega, by omega⟩, rfl⟩, by rw [ht9]; exact hP9, hD9⟩, hS.F ht9⟩) hS.2.2 dX11_load_39
      · have fc3 := z_nlt (rfl : ((iv 5 4)).toInt = _) (by decide : (8 : Int32).toInt = 8) c3
        refine lv_ldc hx hb hown (ht _ m_463) dX11_load_26 ?_
        refine lv_goto (tgt := 39) hx hb dX11_load_28 (by decide) ?_
        have hP9 : va_P (dC, dI) classes (WX h g ca (u2 (u2 iv 5 4 (iv 5 4)) 5 6 (iv 5 6)) lv (u2 fa 5 0 (fa 5 0)) la) s.heap := hP
        have hD9 : va_D A (WX h g ca (u2 (u2 iv 5 4 (iv 5 4)) 5 6 (iv 5 6)) lv (u2 fa 5 0 (fa 5 0)) la) := hD
        exact W.iret (v := (-100004)) hx hb hr (fun t ht9 hW => ⟨⟨(-100004), ((u2 (u2 iv 5 4 (iv 5 4)) 5 6 (iv 5 6)), lv, (u2 fa 5 0 (fa 5 0)), la), rfl, ⟨(fa 5 0), (iv 5 4), (iv 5 6), (hI.1 5 4), ⟨by decide, by decide⟩, rfl⟩, by rw [ht9]; exact hP9, hD9⟩, hS.F ht9⟩) hS.2.2 dX11_load_39
    · exact absurd c2 (by decide)
  · skip
    refine lv_if_ne (tgt := 14) hx hb dX11_load_8 (by decide) (fun c8 => ?_) (fun c8 => ?_)
    · exact absurd rfl c8
    · skip
      refine lv_ldc hx hb hown (ht _ m_456) dX11_load_11 ?_
      have hP9 : va_P (dC, dI) classes (WX h g ca (u2 (u2 iv 5 4 (iv 5 4)) 5 6 (iv 5 6)) lv (u2 fa 5 0 (fa 5 0)) la) s.heap := hP
      have hD9 : va_D A (WX h g ca (u2 (u2 iv 5 4 (iv 5 4)) 5 6 (iv 5 6)) lv (u2 fa 5 0 (fa 5 0)) la) := hD
      exact W.iret (v := (-100002)) hx hb hr (fun t ht9 hW => ⟨⟨(-100002), ((u2 (u2 iv 5 4 (iv 5 4)) 5 6 (iv 5 6)), lv, (u2 fa 5 0 (fa 5 0)), la), rfl, ⟨(fa 5 0), (iv 5 4), (iv 5 6), (hI.1 5 4), ⟨by decide, by decide⟩, rfl⟩, by rw [ht9]; exact hP9, hD9⟩, hS.F ht9⟩) hS.2.2 dX11_load_13
set_option maxHeartbeats 4000000 in
set_option maxRecDepth 100000 in
/-- X11_empty -/
theorem c_X11_empty (l : Launch) (dC : Nat → ClassId) (dI : Nat → Nat → Nat) (sz : Nat) (h : Nat) (g : Nat → Nat → Nat) (ca : Nat → Nat → ClassId) (iv : Nat → Nat → Int32) (lv : Nat → Nat → Int64) (fa : Nat → Nat → Nat → Int32) (la : Nat → Nat → Nat → Int64) (hI : IX iv fa) : Met l yX11_empty (wc yX11_empty cX11_empty 1 (some .int)) ({ frames := 1, cells := 0, slots := 0, locals := 21 } : Room) (pW (dC, dI) classes (WX h g ca iv lv fa la) (TX ca) sz [.ref h]) (va_Qi (fun r (u : SS) => ∃ (ni_5_4 : Int32) (ni_5_6 : Int32), inb (bI 5 4) ni_5_4 ∧ (0 ≤ r.toInt ∧ r.toInt ≤ 8) ∧ u = ((u2 (u2 iv 5 4 ni_5_4) 5 6 ni_5_6), lv, fa, la)) (bX (dC, dI) h g ca (va_A (WX h g ca iv lv fa la) sz)) (va_A (WX h g ca iv lv fa la) sz)) 0 0 (va_A (WX h g ca iv lv fa la) sz) := by
  refine Met.ofW (cc := cX11_empty) (maxL := 1) (ret := (some .int)) (by decide) rfl ?_
  intro p e s m args below meth c s₁ B hml hv
  obtain ⟨rfl, hsz, hP, hK, hD0⟩ := hv
  have hx := B.exec
  have hb := B.bytes
  have hr := B.returns
  have ht := tb_tl (atoms_spec (ws := wc yX11_empty cX11_empty 1 (some .int)) B.pre)
  have hown : s.vm.findClass RX11 = some m.cls := findClass_of_methodNamed B.named
  have hlocks := B.notSynchronized
  subst hsz
  have hD := hD0.self (sz := s.heap.size)
  generalize hAe : va_A (WX h g ca iv lv fa la) s.heap.size = A at hD ⊢
  have hA : ∀ q : Nat, s.heap.size ≤ q → A q := fun q h => by rw [← hAe]; exact Or.inr h
  have hS : va_S A s.heap s.heap [] := va_S.rf
  have hl := lv_entry [.ref h] (n := 1) (Nat.le_of_ble_eq_true rfl)
  rw [lg_entry_eq]
  generalize (lg_sl [.ref h] ++ List.replicate (1 - (lg_sl [.ref h]).length) Slot.unset).toArray = ls at hl ⊢
  have hl : lv_has ls 1 [(0, .ref h)] := hl
  refine lv_aload_n hx hb dX11_empty_0 rfl (lv_at hl 0 rfl) ?_
  refine gX_11_7 hx hb ht hown hK hP m_422 dX11_empty_1 ?_
  have hFc := free_all hD hS hA
  refine va_calli (va_runV (As := []) (rest := []) ⟨hx, hb, hml, hown, ht⟩ (c_X5_clear l dC dI s.heap.size h g ca iv lv fa la hI) (kV 0 ht m_1030 m_1031 m_1032 m_86 m_1033 rfl rfl hd_X5_clear_v ⟨Nat.le_of_ble_eq_true rfl, Nat.le_of_ble_eq_true rfl⟩) (vW hP hK hD (rX_5 hK hP)) rfl rfl hl.1 rfl (lv_room (Nat.le_of_ble_eq_true rfl)) dX11_empty_4 ⟨Nat.le_of_ble_eq_true rfl, Nat.le_of_ble_eq_true rfl⟩) hS (fun q _ h => hFc q h) hFc (fun r1 u t H1 locs ht9 hvm hr1 hB hz1 hk1 hS => ?_)
  obtain ⟨n2, n3, hn2, hr1, rfl⟩ := hr1
  have hn2 : 0 ≤ n2.toInt ∧ n2.toInt ≤ 8 := hn2
  obtain ⟨hP, hD⟩ := hB
  rw [ht9] at hP
  generalize H1 = H at hP hS ⊢
  have hP : va_P (dC, dI) classes (WX h g ca (u2 (u2 iv 5 4 n2) 5 6 n3) lv fa la) H := hP
  have hD : va_D A (WX h g ca (u2 (u2 iv 5 4 n2) 5 6 n3) lv fa la) := (show va_D _ (WX h g ca (u2 (u2 iv 5 4 n2) 5 6 n3) lv fa la) from hD).weaken (fun _ _ _ h => hFc _ h)
  have hP9 : va_P (dC, dI) classes (WX h g ca (u2 (u2 iv 5 4 n2) 5 6 n3) lv fa la) H := hP
  have hD9 : va_D A (WX h g ca (u2 (u2 iv 5 4 n2) 5 6 n3) lv fa la) := hD
  exact W.iret (v := r1) hx hb hr (fun t ht9 hW => ⟨⟨r1, ((u2 (u2 iv 5 4 n2) 5 6 n3), lv, fa, la), rfl, ⟨n2, n3, (show inb (0, 8) n2 from ⟨by omega, by omega⟩), ⟨by omega, by omega⟩, rfl⟩, by rw [ht9]; exact hP9, hD9⟩, hS.F ht9⟩) hS.2.2 dX11_empty_7
/-! ===== h9 ===== -/
theorem m_87 : Cond.initialized RX4 ∈ tb := mb_1_0 _ (List.mem_of_getElem? (i := 10) rfl)
theorem m_369 : Cond.fieldLink RX11 320 "SilkHouse$Neighbours" "number" "I" ∈ tb := mb_2_0 _ (List.mem_of_getElem? (i := 23) rfl)
theorem m_384 : Cond.fieldLink RX11 362 "SilkHouse$Papers" "kind" "[I" ∈ tb := mb_2_1 _ (List.mem_of_getElem? (i := 6) rfl)
theorem m_386 : Cond.fieldLink RX11 347 "SilkHouse$Papers" "bale" "[I" ∈ tb := mb_2_1 _ (List.mem_of_getElem? (i := 8) rfl)
theorem m_388 : Cond.fieldLink RX11 350 "SilkHouse$Papers" "amount" "[I" ∈ tb := mb_2_1 _ (List.mem_of_getElem? (i := 10) rfl)
theorem m_390 : Cond.fieldLink RX11 188 "SilkHouse$Papers" "on" "[I" ∈ tb := mb_2_1 _ (List.mem_of_getElem? (i := 12) rfl)
theorem m_392 : Cond.fieldLink RX11 191 "SilkHouse$Papers" "day" "[I" ∈ tb := mb_2_1 _ (List.mem_of_getElem? (i := 14) rfl)
theorem m_394 : Cond.fieldLink RX11 356 "SilkHouse$Papers" "undone" "[I" ∈ tb := mb_2_1 _ (List.mem_of_getElem? (i := 16) rfl)
theorem m_418 : Cond.fieldLink RX11 33 "SilkHouse" "book" "LSilkHouse$Book;" ∈ tb := mb_2_1 _ (List.mem_of_getElem? (i := 23) rfl)
theorem m_423 : Cond.fieldLink RX11 74 "SilkHouse" "neighbours" "LSilkHouse$Neighbours;" ∈ tb := mb_2_2 _ (List.mem_of_getElem? (i := 4) rfl)
theorem m_424 : Cond.fieldLink RX11 81 "SilkHouse" "papers" "LSilkHouse$Papers;" ∈ tb := mb_2_2 _ (List.mem_of_getElem? (i := 5) rfl)
theorem m_574 : Cond.instanceMethod yX10_counts ∈ tb := mb_3_0 _ (List.mem_of_getElem? (i := 18) rfl)
theorem m_575 : Cond.selects RX10 yX10_counts yX10_counts ∈ tb := mb_3_0 _ (List.mem_of_getElem? (i := 19) rfl)
theorem m_576 : Cond.code yX10_counts cX10_counts 3 (some .boolean) ∈ tb := mb_3_0 _ (List.mem_of_getElem? (i := 20) rfl)
theorem m_663 : Cond.methodLink RX11 185 yX6_isCertificate ∈ tb := mb_3_3 _ (List.mem_of_getElem? (i := 22) rfl)
theorem m_838 : Cond.constantLong RX11 216 (-100002) ∈ tb := mb_4_1 _ (List.mem_of_getElem? (i := 16) rfl)
theorem m_862 : Cond.methodLink RX11 240 yX10_isOf ∈ tb := mb_4_2 _ (List.mem_of_getElem? (i := 14) rfl)
theorem m_863 : Cond.methodLink RX11 243 yX10_counts ∈ tb := mb_4_2 _ (List.mem_of_getElem? (i := 15) rfl)
theorem m_864 : Cond.methodLink RX11 247 Lib.Math.min.name ∈ tb := mb_4_2 _ (List.mem_of_getElem? (i := 16) rfl)
theorem m_865 : Cond.methodLink RX11 252 Lib.Math.max.name ∈ tb := mb_4_2 _ (List.mem_of_getElem? (i := 17) rfl)
theorem m_953 : Cond.methodLink RX11 277 yX0_allSizes ∈ tb := mb_4_6 _ (List.mem_of_getElem? (i := 0) rfl)
theorem m_954 : Cond.instanceMethod yX0_allSizes ∈ tb := mb_4_6 _ (List.mem_of_getElem? (i := 1) rfl)
theorem m_955 : Cond.selects RX0 yX0_allSizes yX0_allSizes ∈ tb := mb_4_6 _ (List.mem_of_getElem? (i := 2) rfl)
theorem m_956 : Cond.code yX0_allSizes cX0_allSizes 4 (some .int) ∈ tb := mb_4_6 _ (List.mem_of_getElem? (i := 3) rfl)
theorem m_965 : Cond.methodLink RX11 284 yX1_naming ∈ tb := mb_4_6 _ (List.mem_of_getElem? (i := 12) rfl)
theorem m_966 : Cond.instanceMethod yX1_naming ∈ tb := mb_4_6 _ (List.mem_of_getElem? (i := 13) rfl)
theorem m_967 : Cond.selects RX1 yX1_naming yX1_naming ∈ tb := mb_4_6 _ (List.mem_of_getElem? (i := 14) rfl)
theorem m_968 : Cond.code yX1_naming cX1_naming 8 (some .int) ∈ tb := mb_4_6 _ (List.mem_of_getElem? (i := 15) rfl)
theorem m_1038 : Cond.methodLink RX11 321 yX4_compare ∈ tb := mb_5_0 _ (List.mem_of_getElem? (i := 2) rfl)
theorem m_1039 : Cond.instanceMethod yX4_compare ∈ tb := mb_5_0 _ (List.mem_of_getElem? (i := 3) rfl)
theorem m_1040 : Cond.selects RX4 yX4_compare yX4_compare ∈ tb := mb_5_0 _ (List.mem_of_getElem? (i := 4) rfl)
theorem m_1041 : Cond.code yX4_compare cX4_compare 3 (some .int) ∈ tb := mb_5_0 _ (List.mem_of_getElem? (i := 5) rfl)
theorem m_1083 : Cond.methodLink RX11 336 yX6_hasRoom ∈ tb := mb_5_1 _ (List.mem_of_getElem? (i := 20) rfl)
theorem m_1084 : Cond.instanceMethod yX6_hasRoom ∈ tb := mb_5_1 _ (List.mem_of_getElem? (i := 21) rfl)
theorem m_1085 : Cond.selects RX6 yX6_hasRoom yX6_hasRoom ∈ tb := mb_5_1 _ (List.mem_of_getElem? (i := 22) rfl)
theorem m_1086 : Cond.code yX6_hasRoom cX6_hasRoom 2 (some .boolean) ∈ tb := mb_5_1 _ (List.mem_of_getElem? (i := 23) rfl)
theorem m_1095 : Cond.methodLink RX11 343 yX6_has ∈ tb := mb_5_2 _ (List.mem_of_getElem? (i := 8) rfl)
theorem m_1099 : Cond.methodLink RX11 344 yX6_isUndone ∈ tb := mb_5_2 _ (List.mem_of_getElem? (i := 12) rfl)
theorem m_1104 : Cond.methodLink RX11 353 yX6_isBilled ∈ tb := mb_5_2 _ (List.mem_of_getElem? (i := 17) rfl)
theorem m_1105 : Cond.instanceMethod yX6_isBilled ∈ tb := mb_5_2 _ (List.mem_of_getElem? (i := 18) rfl)
theorem m_1106 : Cond.selects RX6 yX6_isBilled yX6_isBilled ∈ tb := mb_5_2 _ (List.mem_of_getElem? (i := 19) rfl)
theorem m_1107 : Cond.code yX6_isBilled cX6_isBilled 3 (some .boolean) ∈ tb := mb_5_2 _ (List.mem_of_getElem? (i := 20) rfl)
theorem m_1112 : Cond.methodLink RX11 359 yX6_tear ∈ tb := mb_5_3 _ (List.mem_of_getElem? (i := 1) rfl)
theorem m_1113 : Cond.instanceMethod yX6_tear ∈ tb := mb_5_3 _ (List.mem_of_getElem? (i := 2) rfl)
theorem m_1114 : Cond.selects RX6 yX6_tear yX6_tear ∈ tb := mb_5_3 _ (List.mem_of_getElem? (i := 3) rfl)
theorem m_1115 : Cond.code yX6_tear cX6_tear 5 (some .int) ∈ tb := mb_5_3 _ (List.mem_of_getElem? (i := 4) rfl)
theorem m_1121 : Cond.methodLink RX11 365 yX6_hanging ∈ tb := mb_5_3 _ (List.mem_of_getElem? (i := 10) rfl)
theorem m_1122 : Cond.instanceMethod yX6_hanging ∈ tb := mb_5_3 _ (List.mem_of_getElem? (i := 11) rfl)
theorem m_1123 : Cond.selects RX6 yX6_hanging yX6_hanging ∈ tb := mb_5_3 _ (List.mem_of_getElem? (i := 12) rfl)
theorem m_1124 : Cond.code yX6_hanging cX6_hanging 4 (some .int) ∈ tb := mb_5_3 _ (List.mem_of_getElem? (i := 13) rfl)
theorem m_1129 : Cond.methodLink RX11 368 yX6_standing ∈ tb := mb_5_3 _ (List.mem_of_getElem? (i := 18) rfl)
theorem m_1130 : Cond.instanceMethod yX6_standing ∈ tb := mb_5_3 _ (List.mem_of_getElem? (i := 19) rfl)
theorem m_1131 : Cond.selects RX6 yX6_standing yX6_standing ∈ tb := mb_5_3 _ (List.mem_of_getElem? (i := 20) rfl)
theorem m_1132 : Cond.code yX6_standing cX6_standing 7 (some .long) ∈ tb := mb_5_3 _ (List.mem_of_getElem? (i := 21) rfl)
theorem hd_X0_allSizes_v : yX0_allSizes.cls = RX0 ∧ yX0_allSizes.cls ≠ "java/lang/invoke/MethodHandle" ∧ yX0_allSizes.cls ≠ "java/lang/invoke/VarHandle" ∧ (parseMethodDescriptor yX0_allSizes.desc).map (fun d => d.parameters.length) = some 1 := by decide +kernel
theorem hd_X10_counts_v : yX10_counts.cls = RX10 ∧ yX10_counts.cls ≠ "java/lang/invoke/MethodHandle" ∧ yX10_counts.cls ≠ "java/lang/invoke/VarHandle" ∧ (parseMethodDescriptor yX10_counts.desc).map (fun d => d.parameters.length) = some 2 := by decide +kernel
theorem hd_X1_naming_v : yX1_naming.cls = RX1 ∧ yX1_naming.cls ≠ "java/lang/invoke/MethodHandle" ∧ yX1_naming.cls ≠ "java/lang/invoke/VarHandle" ∧ (parseMethodDescriptor yX1_naming.desc).map (fun d => d.parameters.length) = some 3 := by decide +kernel
theorem hd_X4_compare_v : yX4_compare.cls = RX4 ∧ yX4_compare.cls ≠ "java/lang/invoke/MethodHandle" ∧ yX4_compare.cls ≠ "java/lang/invoke/VarHandle" ∧ (parseMethodDescriptor yX4_compare.desc).map (fun d => d.parameters.length) = some 2 := by decide +kernel
theorem hd_X6_hanging_v : yX6_hanging.cls = RX6 ∧ yX6_hanging.cls ≠ "java/lang/invoke/MethodHandle" ∧ yX6_hanging.cls ≠ "java/lang/invoke/VarHandle" ∧ (parseMethodDescriptor yX6_hanging.desc).map (fun d => d.parameters.length) = some 1 := by decide +kernel
theorem hd_X6_hasRoom_v : yX6_hasRoom.cls = RX6 ∧ yX6_hasRoom.cls ≠ "java/lang/invoke/MethodHandle" ∧ yX6_hasRoom.cls ≠ "java/lang/invoke/VarHandle" ∧ (parseMethodDescriptor yX6_hasRoom.desc).map (fun d => d.parameters.length) = some 1 := by decide +kernel
theorem hd_X6_isBilled_v : yX6_isBilled.cls = RX6 ∧ yX6_isBilled.cls ≠ "java/lang/invoke/MethodHandle" ∧ yX6_isBilled.cls ≠ "java/lang/invoke/VarHandle" ∧ (parseMethodDescriptor yX6_isBilled.desc).map (fun d => d.parameters.length) = some 1 := by decide +kernel
theorem hd_X6_standing_v : yX6_standing.cls = RX6 ∧ yX6_standing.cls ≠ "java/lang/invoke/MethodHandle" ∧ yX6_standing.cls ≠ "java/lang/invoke/VarHandle" ∧ (parseMethodDescriptor yX6_standing.desc).map (fun d => d.parameters.length) = some 2 := by decide +kernel
theorem hd_X6_tear_v : yX6_tear.cls = RX6 ∧ yX6_tear.cls ≠ "java/lang/invoke/MethodHandle" ∧ yX6_tear.cls ≠ "java/lang/invoke/VarHandle" ∧ (parseMethodDescriptor yX6_tear.desc).map (fun d => d.parameters.length) = some 2 := by decide +kernel
set_option maxRecDepth 100000 in
theorem dvX11_bill_0 : ([(0, .aload_n 0, 1), (1, .getfield 81, 3), (4, .iload_n 1, 1), (5, .invokevirtual 343, 3), (8, .ifCond .ne 6, 3), (14, .iload_n 2, 1), (15, .iconst 0, 1), (16, .sipush 999, 3), (19, .invokestatic 89, 3), (22, .ifCond .ne 6, 3), (28, .aload_n 0, 1), (29, .getfield 81, 3), (32, .iload_n 1, 1), (33, .invokevirtual 185, 3), (36, .ifCond .eq 14, 3), (39, .aload_n 0, 1), (40, .getfield 81, 3), (43, .iload_n 1, 1), (44, .invokevirtual 344, 3), (47, .ifCond .eq 6, 3), (50, .ldc 94, 2), (52, .ireturn, 1), (53, .aload_n 0, 1), (54, .getfield 81, 3)] : List (Nat × Instr × Nat)).all (fun q => decide (decode cX11_bill q.1 = .ok (q.2.1, q.2.2))) = true := by decide +kernel
theorem dX11_bill_0 : decode cX11_bill 0 = .ok (.aload_n 0, 1) := all_at dvX11_bill_0 0 rfl
theorem dX11_bill_1 : decode cX11_bill 1 = .ok (.getfield 81, 3) := all_at dvX11_bill_0 1 rfl
theorem dX11_bill_4 : decode cX11_bill 4 = .ok (.iload_n 1, 1) := all_at dvX11_bill_0 2 rfl
theorem dX11_bill_5 : decode cX11_bill 5 = .ok (.invokevirtual 343, 3) := all_at dvX11_bill_0 3 rfl
theorem dX11_bill_8 : decode cX11_bill 8 = .ok (.ifCond .ne 6, 3) := all_at dvX11_bill_0 4 rfl
theorem dX11_bill_14 : decode cX11_bill 14 = .ok (.iload_n 2, 1) := all_at dvX11_bill_0 5 rfl
theorem dX11_bill_15 : decode cX11_bill 15 = .ok (.iconst 0, 1) := all_at dvX11_bill_0 6 rfl
theorem dX11_bill_16 : decode cX11_bill 16 = .ok (.sipush 999, 3) := all_at dvX11_bill_0 7 rfl
theorem dX11_bill_19 : decode cX11_bill 19 = .ok (.invokestatic 89, 3) := all_at dvX11_bill_0 8 rfl
theorem dX11_bill_22 : decode cX11_bill 22 = .ok (.ifCond .ne 6, 3) := all_at dvX11_bill_0 9 rfl
theorem dX11_bill_28 : decode cX11_bill 28 = .ok (.aload_n 0, 1) := all_at dvX11_bill_0 10 rfl
theorem dX11_bill_29 : decode cX11_bill 29 = .ok (.getfield 81, 3) := all_at dvX11_bill_0 11 rfl
theorem dX11_bill_32 : decode cX11_bill 32 = .ok (.iload_n 1, 1) := all_at dvX11_bill_0 12 rfl
theorem dX11_bill_33 : decode cX11_bill 33 = .ok (.invokevirtual 185, 3) := all_at dvX11_bill_0 13 rfl
theorem dX11_bill_36 : decode cX11_bill 36 = .ok (.ifCond .eq 14, 3) := all_at dvX11_bill_0 14 rfl
theorem dX11_bill_39 : decode cX11_bill 39 = .ok (.aload_n 0, 1) := all_at dvX11_bill_0 15 rfl
theorem dX11_bill_40 : decode cX11_bill 40 = .ok (.getfield 81, 3) := all_at dvX11_bill_0 16 rfl
theorem dX11_bill_43 : decode cX11_bill 43 = .ok (.iload_n 1, 1) := all_at dvX11_bill_0 17 rfl
theorem dX11_bill_44 : decode cX11_bill 44 = .ok (.invokevirtual 344, 3) := all_at dvX11_bill_0 18 rfl
theorem dX11_bill_47 : decode cX11_bill 47 = .ok (.ifCond .eq 6, 3) := all_at dvX11_bill_0 19 rfl
theorem dX11_bill_50 : decode cX11_bill 50 = .ok (.ldc 94, 2) := all_at dvX11_bill_0 20 rfl
theorem dX11_bill_52 : decode cX11_bill 52 = .ok (.ireturn, 1) := all_at dvX11_bill_0 21 rfl
theorem dX11_bill_53 : decode cX11_bill 53 = .ok (.aload_n 0, 1) := all_at dvX11_bill_0 22 rfl
theorem dX11_bill_54 : decode cX11_bill 54 = .ok (.getfield 81, 3) := all_at dvX11_bill_0 23 rfl
set_option maxRecDepth 100000 in
theorem dvX11_bill_57 : ([(57, .iconst 1, 1), (58, .invokevirtual 336, 3), (61, .ifCond .ne 6, 3), (67, .aload_n 0, 1), (68, .getfield 81, 3), (71, .iconst 1, 1), (72, .aload_n 0, 1), (73, .getfield 81, 3), (76, .getfield 347, 3), (79, .iload_n 1, 1), (80, .iaload, 1), (81, .aload_n 0, 1), (82, .getfield 81, 3), (85, .getfield 350, 3), (88, .iload_n 1, 1), (89, .iaload, 1), (90, .iload_n 2, 1), (91, .imul, 1), (92, .iload_n 1, 1), (93, .aload_n 0, 1), (94, .getfield 85, 3), (97, .invokevirtual 339, 3)] : List (Nat × Instr × Nat)).all (fun q => decide (decode cX11_bill q.1 = .ok (q.2.1, q.2.2))) = true := by decide +kernel
theorem dX11_bill_57 : decode cX11_bill 57 = .ok (.iconst 1, 1) := all_at dvX11_bill_57 0 rfl
theorem dX11_bill_58 : decode cX11_bill 58 = .ok (.invokevirtual 336, 3) := all_at dvX11_bill_57 1 rfl
theorem dX11_bill_61 : decode cX11_bill 61 = .ok (.ifCond .ne 6, 3) := all_at dvX11_bill_57 2 rfl
theorem dX11_bill_67 : decode cX11_bill 67 = .ok (.aload_n 0, 1) := all_at dvX11_bill_57 3 rfl
theorem dX11_bill_68 : decode cX11_bill 68 = .ok (.getfield 81, 3) := all_at dvX11_bill_57 4 rfl
theorem dX11_bill_71 : decode cX11_bill 71 = .ok (.iconst 1, 1) := all_at dvX11_bill_57 5 rfl
theorem dX11_bill_72 : decode cX11_bill 72 = .ok (.aload_n 0, 1) := all_at dvX11_bill_57 6 rfl
theorem dX11_bill_73 : decode cX11_bill 73 = .ok (.getfield 81, 3) := all_at dvX11_bill_57 7 rfl
theorem dX11_bill_76 : decode cX11_bill 76 = .ok (.getfield 347, 3) := all_at dvX11_bill_57 8 rfl
theorem dX11_bill_79 : decode cX11_bill 79 = .ok (.iload_n 1, 1) := all_at dvX11_bill_57 9 rfl
theorem dX11_bill_80 : decode cX11_bill 80 = .ok (.iaload, 1) := all_at dvX11_bill_57 10 rfl
theorem dX11_bill_81 : decode cX11_bill 81 = .ok (.aload_n 0, 1) := all_at dvX11_bill_57 11 rfl
theorem dX11_bill_82 : decode cX11_bill 82 = .ok (.getfield 81, 3) := all_at dvX11_bill_57 12 rfl
theorem dX11_bill_85 : decode cX11_bill 85 = .ok (.getfield 350, 3) := all_at dvX11_bill_57 13 rfl
theorem dX11_bill_88 : decode cX11_bill 88 = .ok (.iload_n 1, 1) := all_at dvX11_bill_57 14 rfl
theorem dX11_bill_89 : decode cX11_bill 89 = .ok (.iaload, 1) := all_at dvX11_bill_57 15 rfl
theorem dX11_bill_90 : decode cX11_bill 90 = .ok (.iload_n 2, 1) := all_at dvX11_bill_57 16 rfl
theorem dX11_bill_91 : decode cX11_bill 91 = .ok (.imul, 1) := all_at dvX11_bill_57 17 rfl
theorem dX11_bill_92 : decode cX11_bill 92 = .ok (.iload_n 1, 1) := all_at dvX11_bill_57 18 rfl
theorem dX11_bill_93 : decode cX11_bill 93 = .ok (.aload_n 0, 1) := all_at dvX11_bill_57 19 rfl
theorem dX11_bill_94 : decode cX11_bill 94 = .ok (.getfield 85, 3) := all_at dvX11_bill_57 20 rfl
theorem dX11_bill_97 : decode cX11_bill 97 = .ok (.invokevirtual 339, 3) := all_at dvX11_bill_57 21 rfl
set_option maxRecDepth 100000 in
theorem dvX11_cut_0 : ([(0, .aload_n 0, 1), (1, .getfield 81, 3), (4, .iload_n 1, 1), (5, .invokevirtual 343, 3), (8, .ifCond .ne 6, 3), (14, .iload_n 2, 1), (15, .iconst 1, 1), (16, .if_icmp .lt 27, 3), (19, .iload_n 3, 1), (20, .iconst 1, 1), (21, .if_icmp .lt 22, 3), (24, .iload_n 2, 1), (25, .i2l, 1), (26, .iload_n 3, 1), (27, .i2l, 1), (28, .ladd, 1), (29, .aload_n 0, 1), (30, .getfield 81, 3), (33, .getfield 350, 3), (36, .iload_n 1, 1), (37, .iaload, 1), (38, .i2l, 1), (39, .lcmp, 1), (40, .ifCond .eq 6, 3)] : List (Nat × Instr × Nat)).all (fun q => decide (decode cX11_cut q.1 = .ok (q.2.1, q.2.2))) = true := by decide +kernel
theorem dX11_cut_0 : decode cX11_cut 0 = .ok (.aload_n 0, 1) := all_at dvX11_cut_0 0 rfl
theorem dX11_cut_1 : decode cX11_cut 1 = .ok (.getfield 81, 3) := all_at dvX11_cut_0 1 rfl
theorem dX11_cut_4 : decode cX11_cut 4 = .ok (.iload_n 1, 1) := all_at dvX11_cut_0 2 rfl
theorem dX11_cut_5 : decode cX11_cut 5 = .ok (.invokevirtual 343, 3) := all_at dvX11_cut_0 3 rfl
theorem dX11_cut_8 : decode cX11_cut 8 = .ok (.ifCond .ne 6, 3) := all_at dvX11_cut_0 4 rfl
theorem dX11_cut_14 : decode cX11_cut 14 = .ok (.iload_n 2, 1) := all_at dvX11_cut_0 5 rfl
theorem dX11_cut_15 : decode cX11_cut 15 = .ok (.iconst 1, 1) := all_at dvX11_cut_0 6 rfl
theorem dX11_cut_16 : decode cX11_cut 16 = .ok (.if_icmp .lt 27, 3) := all_at dvX11_cut_0 7 rfl
theorem dX11_cut_19 : decode cX11_cut 19 = .ok (.iload_n 3, 1) := all_at dvX11_cut_0 8 rfl
theorem dX11_cut_20 : decode cX11_cut 20 = .ok (.iconst 1, 1) := all_at dvX11_cut_0 9 rfl
theorem dX11_cut_21 : decode cX11_cut 21 = .ok (.if_icmp .lt 22, 3) := all_at dvX11_cut_0 10 rfl
theorem dX11_cut_24 : decode cX11_cut 24 = .ok (.iload_n 2, 1) := all_at dvX11_cut_0 11 rfl
theorem dX11_cut_25 : decode cX11_cut 25 = .ok (.i2l, 1) := all_at dvX11_cut_0 12 rfl
theorem dX11_cut_26 : decode cX11_cut 26 = .ok (.iload_n 3, 1) := all_at dvX11_cut_0 13 rfl
theorem dX11_cut_27 : decode cX11_cut 27 = .ok (.i2l, 1) := all_at dvX11_cut_0 14 rfl
theorem dX11_cut_28 : decode cX11_cut 28 = .ok (.ladd, 1) := all_at dvX11_cut_0 15 rfl
theorem dX11_cut_29 : decode cX11_cut 29 = .ok (.aload_n 0, 1) := all_at dvX11_cut_0 16 rfl
theorem dX11_cut_30 : decode cX11_cut 30 = .ok (.getfield 81, 3) := all_at dvX11_cut_0 17 rfl
theorem dX11_cut_33 : decode cX11_cut 33 = .ok (.getfield 350, 3) := all_at dvX11_cut_0 18 rfl
theorem dX11_cut_36 : decode cX11_cut 36 = .ok (.iload_n 1, 1) := all_at dvX11_cut_0 19 rfl
theorem dX11_cut_37 : decode cX11_cut 37 = .ok (.iaload, 1) := all_at dvX11_cut_0 20 rfl
theorem dX11_cut_38 : decode cX11_cut 38 = .ok (.i2l, 1) := all_at dvX11_cut_0 21 rfl
theorem dX11_cut_39 : decode cX11_cut 39 = .ok (.lcmp, 1) := all_at dvX11_cut_0 22 rfl
theorem dX11_cut_40 : decode cX11_cut 40 = .ok (.ifCond .eq 6, 3) := all_at dvX11_cut_0 23 rfl
set_option maxRecDepth 100000 in
theorem dvX11_cut_43 : ([(43, .ldc 93, 2), (45, .ireturn, 1), (46, .aload_n 0, 1), (47, .getfield 81, 3), (50, .iload_n 1, 1), (51, .invokevirtual 185, 3), (54, .ifCond .eq 25, 3), (57, .aload_n 0, 1), (58, .getfield 81, 3), (61, .iload_n 1, 1), (62, .invokevirtual 344, 3), (65, .ifCond .ne 14, 3), (68, .aload_n 0, 1), (69, .getfield 81, 3), (72, .iload_n 1, 1), (73, .invokevirtual 353, 3), (76, .ifCond .eq 6, 3), (79, .ldc 94, 2), (81, .ireturn, 1), (82, .aload_n 0, 1), (83, .getfield 81, 3), (86, .iconst 2, 1), (87, .invokevirtual 336, 3), (90, .ifCond .ne 6, 3)] : List (Nat × Instr × Nat)).all (fun q => decide (decode cX11_cut q.1 = .ok (q.2.1, q.2.2))) = true := by decide +kernel
theorem dX11_cut_43 : decode cX11_cut 43 = .ok (.ldc 93, 2) := all_at dvX11_cut_43 0 rfl
theorem dX11_cut_45 : decode cX11_cut 45 = .ok (.ireturn, 1) := all_at dvX11_cut_43 1 rfl
theorem dX11_cut_46 : decode cX11_cut 46 = .ok (.aload_n 0, 1) := all_at dvX11_cut_43 2 rfl
theorem dX11_cut_47 : decode cX11_cut 47 = .ok (.getfield 81, 3) := all_at dvX11_cut_43 3 rfl
theorem dX11_cut_50 : decode cX11_cut 50 = .ok (.iload_n 1, 1) := all_at dvX11_cut_43 4 rfl
theorem dX11_cut_51 : decode cX11_cut 51 = .ok (.invokevirtual 185, 3) := all_at dvX11_cut_43 5 rfl
theorem dX11_cut_54 : decode cX11_cut 54 = .ok (.ifCond .eq 25, 3) := all_at dvX11_cut_43 6 rfl
theorem dX11_cut_57 : decode cX11_cut 57 = .ok (.aload_n 0, 1) := all_at dvX11_cut_43 7 rfl
theorem dX11_cut_58 : decode cX11_cut 58 = .ok (.getfield 81, 3) := all_at dvX11_cut_43 8 rfl
theorem dX11_cut_61 : decode cX11_cut 61 = .ok (.iload_n 1, 1) := all_at dvX11_cut_43 9 rfl
theorem dX11_cut_62 : decode cX11_cut 62 = .ok (.invokevirtual 344, 3) := all_at dvX11_cut_43 10 rfl
theorem dX11_cut_65 : decode cX11_cut 65 = .ok (.ifCond .ne 14, 3) := all_at dvX11_cut_43 11 rfl
theorem dX11_cut_68 : decode cX11_cut 68 = .ok (.aload_n 0, 1) := all_at dvX11_cut_43 12 rfl
theorem dX11_cut_69 : decode cX11_cut 69 = .ok (.getfield 81, 3) := all_at dvX11_cut_43 13 rfl
theorem dX11_cut_72 : decode cX11_cut 72 = .ok (.iload_n 1, 1) := all_at dvX11_cut_43 14 rfl
theorem dX11_cut_73 : decode cX11_cut 73 = .ok (.invokevirtual 353, 3) := all_at dvX11_cut_43 15 rfl
theorem dX11_cut_76 : decode cX11_cut 76 = .ok (.ifCond .eq 6, 3) := all_at dvX11_cut_43 16 rfl
theorem dX11_cut_79 : decode cX11_cut 79 = .ok (.ldc 94, 2) := all_at dvX11_cut_43 17 rfl
theorem dX11_cut_81 : decode cX11_cut 81 = .ok (.ireturn, 1) := all_at dvX11_cut_43 18 rfl
theorem dX11_cut_82 : decode cX11_cut 82 = .ok (.aload_n 0, 1) := all_at dvX11_cut_43 19 rfl
theorem dX11_cut_83 : decode cX11_cut 83 = .ok (.getfield 81, 3) := all_at dvX11_cut_43 20 rfl
theorem dX11_cut_86 : decode cX11_cut 86 = .ok (.iconst 2, 1) := all_at dvX11_cut_43 21 rfl
theorem dX11_cut_87 : decode cX11_cut 87 = .ok (.invokevirtual 336, 3) := all_at dvX11_cut_43 22 rfl
theorem dX11_cut_90 : decode cX11_cut 90 = .ok (.ifCond .ne 6, 3) := all_at dvX11_cut_43 23 rfl
set_option maxRecDepth 100000 in
theorem dvX11_cut_96 : ([(96, .aload_n 0, 1), (97, .getfield 81, 3), (100, .getfield 356, 3), (103, .iload_n 1, 1), (104, .aload_n 0, 1), (105, .getfield 85, 3), (108, .iastore, 1), (109, .aload_n 0, 1), (110, .getfield 81, 3), (113, .iconst 0, 1), (114, .aload_n 0, 1), (115, .getfield 81, 3), (118, .getfield 347, 3), (121, .iload_n 1, 1), (122, .iaload, 1), (123, .iload_n 2, 1), (124, .iload_n 1, 1), (125, .aload_n 0, 1), (126, .getfield 85, 3), (129, .invokevirtual 339, 3)] : List (Nat × Instr × Nat)).all (fun q => decide (decode cX11_cut q.1 = .ok (q.2.1, q.2.2))) = true := by decide +kernel
theorem dX11_cut_96 : decode cX11_cut 96 = .ok (.aload_n 0, 1) := all_at dvX11_cut_96 0 rfl
theorem dX11_cut_97 : decode cX11_cut 97 = .ok (.getfield 81, 3) := all_at dvX11_cut_96 1 rfl
theorem dX11_cut_100 : decode cX11_cut 100 = .ok (.getfield 356, 3) := all_at dvX11_cut_96 2 rfl
theorem dX11_cut_103 : decode cX11_cut 103 = .ok (.iload_n 1, 1) := all_at dvX11_cut_96 3 rfl
theorem dX11_cut_104 : decode cX11_cut 104 = .ok (.aload_n 0, 1) := all_at dvX11_cut_96 4 rfl
theorem dX11_cut_105 : decode cX11_cut 105 = .ok (.getfield 85, 3) := all_at dvX11_cut_96 5 rfl
theorem dX11_cut_108 : decode cX11_cut 108 = .ok (.iastore, 1) := all_at dvX11_cut_96 6 rfl
theorem dX11_cut_109 : decode cX11_cut 109 = .ok (.aload_n 0, 1) := all_at dvX11_cut_96 7 rfl
theorem dX11_cut_110 : decode cX11_cut 110 = .ok (.getfield 81, 3) := all_at dvX11_cut_96 8 rfl
theorem dX11_cut_113 : decode cX11_cut 113 = .ok (.iconst 0, 1) := all_at dvX11_cut_96 9 rfl
theorem dX11_cut_114 : decode cX11_cut 114 = .ok (.aload_n 0, 1) := all_at dvX11_cut_96 10 rfl
theorem dX11_cut_115 : decode cX11_cut 115 = .ok (.getfield 81, 3) := all_at dvX11_cut_96 11 rfl
theorem dX11_cut_118 : decode cX11_cut 118 = .ok (.getfield 347, 3) := all_at dvX11_cut_96 12 rfl
theorem dX11_cut_121 : decode cX11_cut 121 = .ok (.iload_n 1, 1) := all_at dvX11_cut_96 13 rfl
theorem dX11_cut_122 : decode cX11_cut 122 = .ok (.iaload, 1) := all_at dvX11_cut_96 14 rfl
theorem dX11_cut_123 : decode cX11_cut 123 = .ok (.iload_n 2, 1) := all_at dvX11_cut_96 15 rfl
theorem dX11_cut_124 : decode cX11_cut 124 = .ok (.iload_n 1, 1) := all_at dvX11_cut_96 16 rfl
theorem dX11_cut_125 : decode cX11_cut 125 = .ok (.aload_n 0, 1) := all_at dvX11_cut_96 17 rfl
theorem dX11_cut_126 : decode cX11_cut 126 = .ok (.getfield 85, 3) := all_at dvX11_cut_96 18 rfl
theorem dX11_cut_129 : decode cX11_cut 129 = .ok (.invokevirtual 339, 3) := all_at dvX11_cut_96 19 rfl
set_option maxRecDepth 100000 in
theorem dvX11_errors_0 : ([(0, .iconst 0, 1), (1, .istore_n 3, 1), (2, .iconst 0, 1), (3, .istore 4, 2), (5, .iload 4, 2), (7, .aload_n 0, 1), (8, .getfield 10, 3), (11, .getfield 109, 3), (14, .if_icmp .ge 110, 3), (17, .aload_n 0, 1), (18, .getfield 10, 3), (21, .iload 4, 2), (23, .iload_n 1, 1), (24, .iconst 0, 1), (25, .invokevirtual 240, 3), (28, .ifCond .eq 90, 3), (31, .aload_n 0, 1), (32, .getfield 10, 3), (35, .iload 4, 2), (37, .aload_n 0, 1), (38, .getfield 85, 3), (41, .invokevirtual 243, 3), (44, .ifCond .eq 74, 3), (47, .aload_n 0, 1)] : List (Nat × Instr × Nat)).all (fun q => decide (decode cX11_errors q.1 = .ok (q.2.1, q.2.2))) = true := by decide +kernel
theorem dX11_errors_0 : decode cX11_errors 0 = .ok (.iconst 0, 1) := all_at dvX11_errors_0 0 rfl
theorem dX11_errors_1 : decode cX11_errors 1 = .ok (.istore_n 3, 1) := all_at dvX11_errors_0 1 rfl
theorem dX11_errors_2 : decode cX11_errors 2 = .ok (.iconst 0, 1) := all_at dvX11_errors_0 2 rfl
theorem dX11_errors_3 : decode cX11_errors 3 = .ok (.istore 4, 2) := all_at dvX11_errors_0 3 rfl
theorem dX11_errors_5 : decode cX11_errors 5 = .ok (.iload 4, 2) := all_at dvX11_errors_0 4 rfl
theorem dX11_errors_7 : decode cX11_errors 7 = .ok (.aload_n 0, 1) := all_at dvX11_errors_0 5 rfl
theorem dX11_errors_8 : decode cX11_errors 8 = .ok (.getfield 10, 3) := all_at dvX11_errors_0 6 rfl
theorem dX11_errors_11 : decode cX11_errors 11 = .ok (.getfield 109, 3) := all_at dvX11_errors_0 7 rfl
theorem dX11_errors_14 : decode cX11_errors 14 = .ok (.if_icmp .ge 110, 3) := all_at dvX11_errors_0 8 rfl
theorem dX11_errors_17 : decode cX11_errors 17 = .ok (.aload_n 0, 1) := all_at dvX11_errors_0 9 rfl
theorem dX11_errors_18 : decode cX11_errors 18 = .ok (.getfield 10, 3) := all_at dvX11_errors_0 10 rfl
theorem dX11_errors_21 : decode cX11_errors 21 = .ok (.iload 4, 2) := all_at dvX11_errors_0 11 rfl
theorem dX11_errors_23 : decode cX11_errors 23 = .ok (.iload_n 1, 1) := all_at dvX11_errors_0 12 rfl
theorem dX11_errors_24 : decode cX11_errors 24 = .ok (.iconst 0, 1) := all_at dvX11_errors_0 13 rfl
theorem dX11_errors_25 : decode cX11_errors 25 = .ok (.invokevirtual 240, 3) := all_at dvX11_errors_0 14 rfl
theorem dX11_errors_28 : decode cX11_errors 28 = .ok (.ifCond .eq 90, 3) := all_at dvX11_errors_0 15 rfl
theorem dX11_errors_31 : decode cX11_errors 31 = .ok (.aload_n 0, 1) := all_at dvX11_errors_0 16 rfl
theorem dX11_errors_32 : decode cX11_errors 32 = .ok (.getfield 10, 3) := all_at dvX11_errors_0 17 rfl
theorem dX11_errors_35 : decode cX11_errors 35 = .ok (.iload 4, 2) := all_at dvX11_errors_0 18 rfl
theorem dX11_errors_37 : decode cX11_errors 37 = .ok (.aload_n 0, 1) := all_at dvX11_errors_0 19 rfl
theorem dX11_errors_38 : decode cX11_errors 38 = .ok (.getfield 85, 3) := all_at dvX11_errors_0 20 rfl
theorem dX11_errors_41 : decode cX11_errors 41 = .ok (.invokevirtual 243, 3) := all_at dvX11_errors_0 21 rfl
theorem dX11_errors_44 : decode cX11_errors 44 = .ok (.ifCond .eq 74, 3) := all_at dvX11_errors_0 22 rfl
theorem dX11_errors_47 : decode cX11_errors 47 = .ok (.aload_n 0, 1) := all_at dvX11_errors_0 23 rfl
set_option maxRecDepth 100000 in
theorem dvX11_errors_48 : ([(48, .getfield 10, 3), (51, .iload 4, 2), (53, .iconst 2, 1), (54, .invokevirtual 127, 3), (57, .istore 5, 2), (59, .aload_n 0, 1), (60, .getfield 10, 3), (63, .iload 4, 2), (65, .bipush 7, 2), (67, .invokevirtual 127, 3), (70, .istore 6, 2), (72, .iload_n 2, 1), (73, .ifCond .eq 17, 3), (76, .aload_n 0, 1), (77, .getfield 19, 3), (80, .iload 5, 2), (82, .iload 6, 2), (84, .invokevirtual 141, 3), (87, .goto 14, 3), (90, .aload_n 0, 1), (91, .getfield 19, 3), (94, .iload 5, 2), (96, .iload 6, 2), (98, .invokevirtual 138, 3)] : List (Nat × Instr × Nat)).all (fun q => decide (decode cX11_errors q.1 = .ok (q.2.1, q.2.2))) = true := by decide +kernel
theorem dX11_errors_48 : decode cX11_errors 48 = .ok (.getfield 10, 3) := all_at dvX11_errors_48 0 rfl
theorem dX11_errors_51 : decode cX11_errors 51 = .ok (.iload 4, 2) := all_at dvX11_errors_48 1 rfl
theorem dX11_errors_53 : decode cX11_errors 53 = .ok (.iconst 2, 1) := all_at dvX11_errors_48 2 rfl
theorem dX11_errors_54 : decode cX11_errors 54 = .ok (.invokevirtual 127, 3) := all_at dvX11_errors_48 3 rfl
theorem dX11_errors_57 : decode cX11_errors 57 = .ok (.istore 5, 2) := all_at dvX11_errors_48 4 rfl
theorem dX11_errors_59 : decode cX11_errors 59 = .ok (.aload_n 0, 1) := all_at dvX11_errors_48 5 rfl
theorem dX11_errors_60 : decode cX11_errors 60 = .ok (.getfield 10, 3) := all_at dvX11_errors_48 6 rfl
theorem dX11_errors_63 : decode cX11_errors 63 = .ok (.iload 4, 2) := all_at dvX11_errors_48 7 rfl
theorem dX11_errors_65 : decode cX11_errors 65 = .ok (.bipush 7, 2) := all_at dvX11_errors_48 8 rfl
theorem dX11_errors_67 : decode cX11_errors 67 = .ok (.invokevirtual 127, 3) := all_at dvX11_errors_48 9 rfl
theorem dX11_errors_70 : decode cX11_errors 70 = .ok (.istore 6, 2) := all_at dvX11_errors_48 10 rfl
theorem dX11_errors_72 : decode cX11_errors 72 = .ok (.iload_n 2, 1) := all_at dvX11_errors_48 11 rfl
theorem dX11_errors_73 : decode cX11_errors 73 = .ok (.ifCond .eq 17, 3) := all_at dvX11_errors_48 12 rfl
theorem dX11_errors_76 : decode cX11_errors 76 = .ok (.aload_n 0, 1) := all_at dvX11_errors_48 13 rfl
theorem dX11_errors_77 : decode cX11_errors 77 = .ok (.getfield 19, 3) := all_at dvX11_errors_48 14 rfl
theorem dX11_errors_80 : decode cX11_errors 80 = .ok (.iload 5, 2) := all_at dvX11_errors_48 15 rfl
theorem dX11_errors_82 : decode cX11_errors 82 = .ok (.iload 6, 2) := all_at dvX11_errors_48 16 rfl
theorem dX11_errors_84 : decode cX11_errors 84 = .ok (.invokevirtual 141, 3) := all_at dvX11_errors_48 17 rfl
theorem dX11_errors_87 : decode cX11_errors 87 = .ok (.goto 14, 3) := all_at dvX11_errors_48 18 rfl
theorem dX11_errors_90 : decode cX11_errors 90 = .ok (.aload_n 0, 1) := all_at dvX11_errors_48 19 rfl
theorem dX11_errors_91 : decode cX11_errors 91 = .ok (.getfield 19, 3) := all_at dvX11_errors_48 20 rfl
theorem dX11_errors_94 : decode cX11_errors 94 = .ok (.iload 5, 2) := all_at dvX11_errors_48 21 rfl
theorem dX11_errors_96 : decode cX11_errors 96 = .ok (.iload 6, 2) := all_at dvX11_errors_48 22 rfl
theorem dX11_errors_98 : decode cX11_errors 98 = .ok (.invokevirtual 138, 3) := all_at dvX11_errors_48 23 rfl
set_option maxRecDepth 100000 in
theorem dvX11_errors_101 : ([(101, .istore 7, 2), (103, .iload_n 3, 1), (104, .bipush (-40), 2), (106, .bipush 40, 2), (108, .iload 7, 2), (110, .invokestatic 247, 3), (113, .invokestatic 252, 3), (116, .iadd, 1), (117, .istore_n 3, 1), (118, .iinc 4 1, 3), (121, .goto (-116), 3), (124, .iload_n 3, 1), (125, .ireturn, 1)] : List (Nat × Instr × Nat)).all (fun q => decide (decode cX11_errors q.1 = .ok (q.2.1, q.2.2))) = true := by decide +kernel
theorem dX11_errors_101 : decode cX11_errors 101 = .ok (.istore 7, 2) := all_at dvX11_errors_101 0 rfl
theorem dX11_errors_103 : decode cX11_errors 103 = .ok (.iload_n 3, 1) := all_at dvX11_errors_101 1 rfl
theorem dX11_errors_104 : decode cX11_errors 104 = .ok (.bipush (-40), 2) := all_at dvX11_errors_101 2 rfl
theorem dX11_errors_106 : decode cX11_errors 106 = .ok (.bipush 40, 2) := all_at dvX11_errors_101 3 rfl
theorem dX11_errors_108 : decode cX11_errors 108 = .ok (.iload 7, 2) := all_at dvX11_errors_101 4 rfl
theorem dX11_errors_110 : decode cX11_errors 110 = .ok (.invokestatic 247, 3) := all_at dvX11_errors_101 5 rfl
theorem dX11_errors_113 : decode cX11_errors 113 = .ok (.invokestatic 252, 3) := all_at dvX11_errors_101 6 rfl
theorem dX11_errors_116 : decode cX11_errors 116 = .ok (.iadd, 1) := all_at dvX11_errors_101 7 rfl
theorem dX11_errors_117 : decode cX11_errors 117 = .ok (.istore_n 3, 1) := all_at dvX11_errors_101 8 rfl
theorem dX11_errors_118 : decode cX11_errors 118 = .ok (.iinc 4 1, 3) := all_at dvX11_errors_101 9 rfl
theorem dX11_errors_121 : decode cX11_errors 121 = .ok (.goto (-116), 3) := all_at dvX11_errors_101 10 rfl
theorem dX11_errors_124 : decode cX11_errors 124 = .ok (.iload_n 3, 1) := all_at dvX11_errors_101 11 rfl
theorem dX11_errors_125 : decode cX11_errors 125 = .ok (.ireturn, 1) := all_at dvX11_errors_101 12 rfl
set_option maxRecDepth 100000 in
theorem dvX11_named_0 : ([(0, .aload_n 0, 1), (1, .getfield 26, 3), (4, .iload_n 1, 1), (5, .invokevirtual 104, 3), (8, .ifCond .ne 6, 3), (11, .ldc 108, 2), (13, .ireturn, 1), (14, .iload_n 2, 1), (15, .iconst 0, 1), (16, .sipush 3000, 3), (19, .invokestatic 89, 3), (22, .ifCond .ne 6, 3), (25, .ldc 93, 2), (27, .ireturn, 1), (28, .aload_n 0, 1), (29, .getfield 26, 3), (32, .getfield 271, 3), (35, .iload_n 1, 1), (36, .iaload, 1), (37, .ifCond .ne 5, 3), (40, .iconst (-1), 1), (41, .ireturn, 1), (42, .aload_n 0, 1), (43, .getfield 33, 3)] : List (Nat × Instr × Nat)).all (fun q => decide (decode cX11_named q.1 = .ok (q.2.1, q.2.2))) = true := by decide +kernel
theorem dX11_named_0 : decode cX11_named 0 = .ok (.aload_n 0, 1) := all_at dvX11_named_0 0 rfl
theorem dX11_named_1 : decode cX11_named 1 = .ok (.getfield 26, 3) := all_at dvX11_named_0 1 rfl
theorem dX11_named_4 : decode cX11_named 4 = .ok (.iload_n 1, 1) := all_at dvX11_named_0 2 rfl
theorem dX11_named_5 : decode cX11_named 5 = .ok (.invokevirtual 104, 3) := all_at dvX11_named_0 3 rfl
theorem dX11_named_8 : decode cX11_named 8 = .ok (.ifCond .ne 6, 3) := all_at dvX11_named_0 4 rfl
theorem dX11_named_11 : decode cX11_named 11 = .ok (.ldc 108, 2) := all_at dvX11_named_0 5 rfl
theorem dX11_named_13 : decode cX11_named 13 = .ok (.ireturn, 1) := all_at dvX11_named_0 6 rfl
theorem dX11_named_14 : decode cX11_named 14 = .ok (.iload_n 2, 1) := all_at dvX11_named_0 7 rfl
theorem dX11_named_15 : decode cX11_named 15 = .ok (.iconst 0, 1) := all_at dvX11_named_0 8 rfl
theorem dX11_named_16 : decode cX11_named 16 = .ok (.sipush 3000, 3) := all_at dvX11_named_0 9 rfl
theorem dX11_named_19 : decode cX11_named 19 = .ok (.invokestatic 89, 3) := all_at dvX11_named_0 10 rfl
theorem dX11_named_22 : decode cX11_named 22 = .ok (.ifCond .ne 6, 3) := all_at dvX11_named_0 11 rfl
theorem dX11_named_25 : decode cX11_named 25 = .ok (.ldc 93, 2) := all_at dvX11_named_0 12 rfl
theorem dX11_named_27 : decode cX11_named 27 = .ok (.ireturn, 1) := all_at dvX11_named_0 13 rfl
theorem dX11_named_28 : decode cX11_named 28 = .ok (.aload_n 0, 1) := all_at dvX11_named_0 14 rfl
theorem dX11_named_29 : decode cX11_named 29 = .ok (.getfield 26, 3) := all_at dvX11_named_0 15 rfl
theorem dX11_named_32 : decode cX11_named 32 = .ok (.getfield 271, 3) := all_at dvX11_named_0 16 rfl
theorem dX11_named_35 : decode cX11_named 35 = .ok (.iload_n 1, 1) := all_at dvX11_named_0 17 rfl
theorem dX11_named_36 : decode cX11_named 36 = .ok (.iaload, 1) := all_at dvX11_named_0 18 rfl
theorem dX11_named_37 : decode cX11_named 37 = .ok (.ifCond .ne 5, 3) := all_at dvX11_named_0 19 rfl
theorem dX11_named_40 : decode cX11_named 40 = .ok (.iconst (-1), 1) := all_at dvX11_named_0 20 rfl
theorem dX11_named_41 : decode cX11_named 41 = .ok (.ireturn, 1) := all_at dvX11_named_0 21 rfl
theorem dX11_named_42 : decode cX11_named 42 = .ok (.aload_n 0, 1) := all_at dvX11_named_0 22 rfl
theorem dX11_named_43 : decode cX11_named 43 = .ok (.getfield 33, 3) := all_at dvX11_named_0 23 rfl
set_option maxRecDepth 100000 in
theorem dvX11_named_46 : ([(46, .aload_n 0, 1), (47, .getfield 26, 3), (50, .iload_n 1, 1), (51, .invokevirtual 277, 3), (54, .aload_n 0, 1), (55, .getfield 26, 3), (58, .getfield 271, 3), (61, .iload_n 1, 1), (62, .iaload, 1), (63, .iload_n 2, 1), (64, .invokevirtual 284, 3), (67, .ireturn, 1)] : List (Nat × Instr × Nat)).all (fun q => decide (decode cX11_named q.1 = .ok (q.2.1, q.2.2))) = true := by decide +kernel
theorem dX11_named_46 : decode cX11_named 46 = .ok (.aload_n 0, 1) := all_at dvX11_named_46 0 rfl
theorem dX11_named_47 : decode cX11_named 47 = .ok (.getfield 26, 3) := all_at dvX11_named_46 1 rfl
theorem dX11_named_50 : decode cX11_named 50 = .ok (.iload_n 1, 1) := all_at dvX11_named_46 2 rfl
theorem dX11_named_51 : decode cX11_named 51 = .ok (.invokevirtual 277, 3) := all_at dvX11_named_46 3 rfl
theorem dX11_named_54 : decode cX11_named 54 = .ok (.aload_n 0, 1) := all_at dvX11_named_46 4 rfl
theorem dX11_named_55 : decode cX11_named 55 = .ok (.getfield 26, 3) := all_at dvX11_named_46 5 rfl
theorem dX11_named_58 : decode cX11_named 58 = .ok (.getfield 271, 3) := all_at dvX11_named_46 6 rfl
theorem dX11_named_61 : decode cX11_named 61 = .ok (.iload_n 1, 1) := all_at dvX11_named_46 7 rfl
theorem dX11_named_62 : decode cX11_named 62 = .ok (.iaload, 1) := all_at dvX11_named_46 8 rfl
theorem dX11_named_63 : decode cX11_named 63 = .ok (.iload_n 2, 1) := all_at dvX11_named_46 9 rfl
theorem dX11_named_64 : decode cX11_named 64 = .ok (.invokevirtual 284, 3) := all_at dvX11_named_46 10 rfl
theorem dX11_named_67 : decode cX11_named 67 = .ok (.ireturn, 1) := all_at dvX11_named_46 11 rfl
set_option maxRecDepth 100000 in
theorem dvX11_paper_0 : ([(0, .aload_n 0, 1), (1, .getfield 81, 3), (4, .iload_n 1, 1), (5, .invokevirtual 343, 3), (8, .ifCond .ne 6, 3), (11, .ldc 108, 2), (13, .ireturn, 1), (14, .iload_n 2, 1), (15, .tableswitch 110 0 6 #[41, 51, 61, 71, 81, 91, 101], 41), (56, .aload_n 0, 1), (57, .getfield 81, 3), (60, .getfield 362, 3), (63, .iload_n 1, 1), (64, .iaload, 1), (65, .ireturn, 1), (66, .aload_n 0, 1), (67, .getfield 81, 3), (70, .getfield 347, 3), (73, .iload_n 1, 1), (74, .iaload, 1), (75, .ireturn, 1), (76, .aload_n 0, 1), (77, .getfield 81, 3), (80, .getfield 350, 3)] : List (Nat × Instr × Nat)).all (fun q => decide (decode cX11_paper q.1 = .ok (q.2.1, q.2.2))) = true := by decide +kernel
theorem dX11_paper_0 : decode cX11_paper 0 = .ok (.aload_n 0, 1) := all_at dvX11_paper_0 0 rfl
theorem dX11_paper_1 : decode cX11_paper 1 = .ok (.getfield 81, 3) := all_at dvX11_paper_0 1 rfl
theorem dX11_paper_4 : decode cX11_paper 4 = .ok (.iload_n 1, 1) := all_at dvX11_paper_0 2 rfl
theorem dX11_paper_5 : decode cX11_paper 5 = .ok (.invokevirtual 343, 3) := all_at dvX11_paper_0 3 rfl
theorem dX11_paper_8 : decode cX11_paper 8 = .ok (.ifCond .ne 6, 3) := all_at dvX11_paper_0 4 rfl
theorem dX11_paper_11 : decode cX11_paper 11 = .ok (.ldc 108, 2) := all_at dvX11_paper_0 5 rfl
theorem dX11_paper_13 : decode cX11_paper 13 = .ok (.ireturn, 1) := all_at dvX11_paper_0 6 rfl
theorem dX11_paper_14 : decode cX11_paper 14 = .ok (.iload_n 2, 1) := all_at dvX11_paper_0 7 rfl
theorem dX11_paper_15 : decode cX11_paper 15 = .ok (.tableswitch 110 0 6 #[41, 51, 61, 71, 81, 91, 101], 41) := all_at dvX11_paper_0 8 rfl
theorem dX11_paper_56 : decode cX11_paper 56 = .ok (.aload_n 0, 1) := all_at dvX11_paper_0 9 rfl
theorem dX11_paper_57 : decode cX11_paper 57 = .ok (.getfield 81, 3) := all_at dvX11_paper_0 10 rfl
theorem dX11_paper_60 : decode cX11_paper 60 = .ok (.getfield 362, 3) := all_at dvX11_paper_0 11 rfl
theorem dX11_paper_63 : decode cX11_paper 63 = .ok (.iload_n 1, 1) := all_at dvX11_paper_0 12 rfl
theorem dX11_paper_64 : decode cX11_paper 64 = .ok (.iaload, 1) := all_at dvX11_paper_0 13 rfl
theorem dX11_paper_65 : decode cX11_paper 65 = .ok (.ireturn, 1) := all_at dvX11_paper_0 14 rfl
theorem dX11_paper_66 : decode cX11_paper 66 = .ok (.aload_n 0, 1) := all_at dvX11_paper_0 15 rfl
theorem dX11_paper_67 : decode cX11_paper 67 = .ok (.getfield 81, 3) := all_at dvX11_paper_0 16 rfl
theorem dX11_paper_70 : decode cX11_paper 70 = .ok (.getfield 347, 3) := all_at dvX11_paper_0 17 rfl
theorem dX11_paper_73 : decode cX11_paper 73 = .ok (.iload_n 1, 1) := all_at dvX11_paper_0 18 rfl
theorem dX11_paper_74 : decode cX11_paper 74 = .ok (.iaload, 1) := all_at dvX11_paper_0 19 rfl
theorem dX11_paper_75 : decode cX11_paper 75 = .ok (.ireturn, 1) := all_at dvX11_paper_0 20 rfl
theorem dX11_paper_76 : decode cX11_paper 76 = .ok (.aload_n 0, 1) := all_at dvX11_paper_0 21 rfl
theorem dX11_paper_77 : decode cX11_paper 77 = .ok (.getfield 81, 3) := all_at dvX11_paper_0 22 rfl
theorem dX11_paper_80 : decode cX11_paper 80 = .ok (.getfield 350, 3) := all_at dvX11_paper_0 23 rfl
set_option maxRecDepth 100000 in
theorem dvX11_paper_83 : ([(83, .iload_n 1, 1), (84, .iaload, 1), (85, .ireturn, 1), (86, .aload_n 0, 1), (87, .getfield 81, 3), (90, .getfield 188, 3), (93, .iload_n 1, 1), (94, .iaload, 1), (95, .ireturn, 1), (96, .aload_n 0, 1), (97, .getfield 81, 3), (100, .getfield 191, 3), (103, .iload_n 1, 1), (104, .iaload, 1), (105, .ireturn, 1), (106, .aload_n 0, 1), (107, .getfield 81, 3), (110, .getfield 356, 3), (113, .iload_n 1, 1), (114, .iaload, 1), (115, .ireturn, 1), (116, .aload_n 0, 1), (117, .getfield 81, 3), (120, .iload_n 1, 1)] : List (Nat × Instr × Nat)).all (fun q => decide (decode cX11_paper q.1 = .ok (q.2.1, q.2.2))) = true := by decide +kernel
theorem dX11_paper_83 : decode cX11_paper 83 = .ok (.iload_n 1, 1) := all_at dvX11_paper_83 0 rfl
theorem dX11_paper_84 : decode cX11_paper 84 = .ok (.iaload, 1) := all_at dvX11_paper_83 1 rfl
theorem dX11_paper_85 : decode cX11_paper 85 = .ok (.ireturn, 1) := all_at dvX11_paper_83 2 rfl
theorem dX11_paper_86 : decode cX11_paper 86 = .ok (.aload_n 0, 1) := all_at dvX11_paper_83 3 rfl
theorem dX11_paper_87 : decode cX11_paper 87 = .ok (.getfield 81, 3) := all_at dvX11_paper_83 4 rfl
theorem dX11_paper_90 : decode cX11_paper 90 = .ok (.getfield 188, 3) := all_at dvX11_paper_83 5 rfl
theorem dX11_paper_93 : decode cX11_paper 93 = .ok (.iload_n 1, 1) := all_at dvX11_paper_83 6 rfl
theorem dX11_paper_94 : decode cX11_paper 94 = .ok (.iaload, 1) := all_at dvX11_paper_83 7 rfl
theorem dX11_paper_95 : decode cX11_paper 95 = .ok (.ireturn, 1) := all_at dvX11_paper_83 8 rfl
theorem dX11_paper_96 : decode cX11_paper 96 = .ok (.aload_n 0, 1) := all_at dvX11_paper_83 9 rfl
theorem dX11_paper_97 : decode cX11_paper 97 = .ok (.getfield 81, 3) := all_at dvX11_paper_83 10 rfl
theorem dX11_paper_100 : decode cX11_paper 100 = .ok (.getfield 191, 3) := all_at dvX11_paper_83 11 rfl
theorem dX11_paper_103 : decode cX11_paper 103 = .ok (.iload_n 1, 1) := all_at dvX11_paper_83 12 rfl
theorem dX11_paper_104 : decode cX11_paper 104 = .ok (.iaload, 1) := all_at dvX11_paper_83 13 rfl
theorem dX11_paper_105 : decode cX11_paper 105 = .ok (.ireturn, 1) := all_at dvX11_paper_83 14 rfl
theorem dX11_paper_106 : decode cX11_paper 106 = .ok (.aload_n 0, 1) := all_at dvX11_paper_83 15 rfl
theorem dX11_paper_107 : decode cX11_paper 107 = .ok (.getfield 81, 3) := all_at dvX11_paper_83 16 rfl
theorem dX11_paper_110 : decode cX11_paper 110 = .ok (.getfield 356, 3) := all_at dvX11_paper_83 17 rfl
theorem dX11_paper_113 : decode cX11_paper 113 = .ok (.iload_n 1, 1) := all_at dvX11_paper_83 18 rfl
theorem dX11_paper_114 : decode cX11_paper 114 = .ok (.iaload, 1) := all_at dvX11_paper_83 19 rfl
theorem dX11_paper_115 : decode cX11_paper 115 = .ok (.ireturn, 1) := all_at dvX11_paper_83 20 rfl
theorem dX11_paper_116 : decode cX11_paper 116 = .ok (.aload_n 0, 1) := all_at dvX11_paper_83 21 rfl
theorem dX11_paper_117 : decode cX11_paper 117 = .ok (.getfield 81, 3) := all_at dvX11_paper_83 22 rfl
theorem dX11_paper_120 : decode cX11_paper 120 = .ok (.iload_n 1, 1) := all_at dvX11_paper_83 23 rfl
set_option maxRecDepth 100000 in
theorem dvX11_paper_121 : ([(121, .invokevirtual 365, 3), (124, .ireturn, 1), (125, .ldc 93, 2), (127, .ireturn, 1)] : List (Nat × Instr × Nat)).all (fun q => decide (decode cX11_paper q.1 = .ok (q.2.1, q.2.2))) = true := by decide +kernel
theorem dX11_paper_121 : decode cX11_paper 121 = .ok (.invokevirtual 365, 3) := all_at dvX11_paper_121 0 rfl
theorem dX11_paper_124 : decode cX11_paper 124 = .ok (.ireturn, 1) := all_at dvX11_paper_121 1 rfl
theorem dX11_paper_125 : decode cX11_paper 125 = .ok (.ldc 93, 2) := all_at dvX11_paper_121 2 rfl
theorem dX11_paper_127 : decode cX11_paper 127 = .ok (.ireturn, 1) := all_at dvX11_paper_121 3 rfl
set_option maxRecDepth 100000 in
theorem dvX11_shared_0 : ([(0, .iload_n 1, 1), (1, .iconst 1, 1), (2, .sipush 9999, 3), (5, .invokestatic 89, 3), (8, .ifCond .eq 14, 3), (11, .iload_n 2, 1), (12, .iload_n 1, 1), (13, .sipush 9999, 3), (16, .invokestatic 89, 3), (19, .ifCond .ne 6, 3), (22, .ldc 93, 2), (24, .ireturn, 1), (25, .iload_n 3, 1), (26, .iconst 1, 1), (27, .sipush 9999, 3), (30, .invokestatic 89, 3), (33, .ifCond .eq 15, 3), (36, .iload 4, 2), (38, .iload_n 3, 1), (39, .sipush 9999, 3), (42, .invokestatic 89, 3), (45, .ifCond .ne 6, 3), (48, .ldc 93, 2), (50, .ireturn, 1)] : List (Nat × Instr × Nat)).all (fun q => decide (decode cX11_shared q.1 = .ok (q.2.1, q.2.2))) = true := by decide +kernel
theorem dX11_shared_0 : decode cX11_shared 0 = .ok (.iload_n 1, 1) := all_at dvX11_shared_0 0 rfl
theorem dX11_shared_1 : decode cX11_shared 1 = .ok (.iconst 1, 1) := all_at dvX11_shared_0 1 rfl
theorem dX11_shared_2 : decode cX11_shared 2 = .ok (.sipush 9999, 3) := all_at dvX11_shared_0 2 rfl
theorem dX11_shared_5 : decode cX11_shared 5 = .ok (.invokestatic 89, 3) := all_at dvX11_shared_0 3 rfl
theorem dX11_shared_8 : decode cX11_shared 8 = .ok (.ifCond .eq 14, 3) := all_at dvX11_shared_0 4 rfl
theorem dX11_shared_11 : decode cX11_shared 11 = .ok (.iload_n 2, 1) := all_at dvX11_shared_0 5 rfl
theorem dX11_shared_12 : decode cX11_shared 12 = .ok (.iload_n 1, 1) := all_at dvX11_shared_0 6 rfl
theorem dX11_shared_13 : decode cX11_shared 13 = .ok (.sipush 9999, 3) := all_at dvX11_shared_0 7 rfl
theorem dX11_shared_16 : decode cX11_shared 16 = .ok (.invokestatic 89, 3) := all_at dvX11_shared_0 8 rfl
theorem dX11_shared_19 : decode cX11_shared 19 = .ok (.ifCond .ne 6, 3) := all_at dvX11_shared_0 9 rfl
theorem dX11_shared_22 : decode cX11_shared 22 = .ok (.ldc 93, 2) := all_at dvX11_shared_0 10 rfl
theorem dX11_shared_24 : decode cX11_shared 24 = .ok (.ireturn, 1) := all_at dvX11_shared_0 11 rfl
theorem dX11_shared_25 : decode cX11_shared 25 = .ok (.iload_n 3, 1) := all_at dvX11_shared_0 12 rfl
theorem dX11_shared_26 : decode cX11_shared 26 = .ok (.iconst 1, 1) := all_at dvX11_shared_0 13 rfl
theorem dX11_shared_27 : decode cX11_shared 27 = .ok (.sipush 9999, 3) := all_at dvX11_shared_0 14 rfl
theorem dX11_shared_30 : decode cX11_shared 30 = .ok (.invokestatic 89, 3) := all_at dvX11_shared_0 15 rfl
theorem dX11_shared_33 : decode cX11_shared 33 = .ok (.ifCond .eq 15, 3) := all_at dvX11_shared_0 16 rfl
theorem dX11_shared_36 : decode cX11_shared 36 = .ok (.iload 4, 2) := all_at dvX11_shared_0 17 rfl
theorem dX11_shared_38 : decode cX11_shared 38 = .ok (.iload_n 3, 1) := all_at dvX11_shared_0 18 rfl
theorem dX11_shared_39 : decode cX11_shared 39 = .ok (.sipush 9999, 3) := all_at dvX11_shared_0 19 rfl
theorem dX11_shared_42 : decode cX11_shared 42 = .ok (.invokestatic 89, 3) := all_at dvX11_shared_0 20 rfl
theorem dX11_shared_45 : decode cX11_shared 45 = .ok (.ifCond .ne 6, 3) := all_at dvX11_shared_0 21 rfl
theorem dX11_shared_48 : decode cX11_shared 48 = .ok (.ldc 93, 2) := all_at dvX11_shared_0 22 rfl
theorem dX11_shared_50 : decode cX11_shared 50 = .ok (.ireturn, 1) := all_at dvX11_shared_0 23 rfl
set_option maxRecDepth 100000 in
theorem dvX11_shared_51 : ([(51, .aload_n 0, 1), (52, .getfield 74, 3), (55, .getfield 320, 3), (58, .bipush 8, 2), (60, .if_icmp .lt 6, 3), (63, .ldc 99, 2), (65, .ireturn, 1), (66, .aload_n 0, 1), (67, .getfield 74, 3), (70, .iload_n 1, 1), (71, .iload 4, 2), (73, .isub, 1), (74, .iload_n 2, 1), (75, .iload_n 3, 1), (76, .isub, 1), (77, .invokevirtual 321, 3), (80, .ireturn, 1)] : List (Nat × Instr × Nat)).all (fun q => decide (decode cX11_shared q.1 = .ok (q.2.1, q.2.2))) = true := by decide +kernel
theorem dX11_shared_51 : decode cX11_shared 51 = .ok (.aload_n 0, 1) := all_at dvX11_shared_51 0 rfl
theorem dX11_shared_52 : decode cX11_shared 52 = .ok (.getfield 74, 3) := all_at dvX11_shared_51 1 rfl
theorem dX11_shared_55 : decode cX11_shared 55 = .ok (.getfield 320, 3) := all_at dvX11_shared_51 2 rfl
theorem dX11_shared_58 : decode cX11_shared 58 = .ok (.bipush 8, 2) := all_at dvX11_shared_51 3 rfl
theorem dX11_shared_60 : decode cX11_shared 60 = .ok (.if_icmp .lt 6, 3) := all_at dvX11_shared_51 4 rfl
theorem dX11_shared_63 : decode cX11_shared 63 = .ok (.ldc 99, 2) := all_at dvX11_shared_51 5 rfl
theorem dX11_shared_65 : decode cX11_shared 65 = .ok (.ireturn, 1) := all_at dvX11_shared_51 6 rfl
theorem dX11_shared_66 : decode cX11_shared 66 = .ok (.aload_n 0, 1) := all_at dvX11_shared_51 7 rfl
theorem dX11_shared_67 : decode cX11_shared 67 = .ok (.getfield 74, 3) := all_at dvX11_shared_51 8 rfl
theorem dX11_shared_70 : decode cX11_shared 70 = .ok (.iload_n 1, 1) := all_at dvX11_shared_51 9 rfl
theorem dX11_shared_71 : decode cX11_shared 71 = .ok (.iload 4, 2) := all_at dvX11_shared_51 10 rfl
theorem dX11_shared_73 : decode cX11_shared 73 = .ok (.isub, 1) := all_at dvX11_shared_51 11 rfl
theorem dX11_shared_74 : decode cX11_shared 74 = .ok (.iload_n 2, 1) := all_at dvX11_shared_51 12 rfl
theorem dX11_shared_75 : decode cX11_shared 75 = .ok (.iload_n 3, 1) := all_at dvX11_shared_51 13 rfl
theorem dX11_shared_76 : decode cX11_shared 76 = .ok (.isub, 1) := all_at dvX11_shared_51 14 rfl
theorem dX11_shared_77 : decode cX11_shared 77 = .ok (.invokevirtual 321, 3) := all_at dvX11_shared_51 15 rfl
theorem dX11_shared_80 : decode cX11_shared 80 = .ok (.ireturn, 1) := all_at dvX11_shared_51 16 rfl
set_option maxRecDepth 100000 in
theorem dvX11_stood_0 : ([(0, .iload_n 1, 1), (1, .iconst 0, 1), (2, .aload_n 0, 1), (3, .getfield 85, 3), (6, .invokestatic 89, 3), (9, .ifCond .eq 12, 3), (12, .iload_n 2, 1), (13, .iconst 0, 1), (14, .iconst 1, 1), (15, .invokestatic 89, 3), (18, .ifCond .ne 7, 3), (21, .ldc2_w 216, 3), (24, .lreturn, 1), (25, .aload_n 0, 1), (26, .getfield 81, 3), (29, .iload_n 1, 1), (30, .iload_n 2, 1), (31, .ifCond .ne 7, 3), (34, .iconst 1, 1), (35, .goto 4, 3), (38, .iconst 0, 1), (39, .invokevirtual 368, 3), (42, .lreturn, 1)] : List (Nat × Instr × Nat)).all (fun q => decide (decode cX11_stood q.1 = .ok (q.2.1, q.2.2))) = true := by decide +kernel
theorem dX11_stood_0 : decode cX11_stood 0 = .ok (.iload_n 1, 1) := all_at dvX11_stood_0 0 rfl
theorem dX11_stood_1 : decode cX11_stood 1 = .ok (.iconst 0, 1) := all_at dvX11_stood_0 1 rfl
theorem dX11_stood_2 : decode cX11_stood 2 = .ok (.aload_n 0, 1) := all_at dvX11_stood_0 2 rfl
theorem dX11_stood_3 : decode cX11_stood 3 = .ok (.getfield 85, 3) := all_at dvX11_stood_0 3 rfl
theorem dX11_stood_6 : decode cX11_stood 6 = .ok (.invokestatic 89, 3) := all_at dvX11_stood_0 4 rfl
theorem dX11_stood_9 : decode cX11_stood 9 = .ok (.ifCond .eq 12, 3) := all_at dvX11_stood_0 5 rfl
theorem dX11_stood_12 : decode cX11_stood 12 = .ok (.iload_n 2, 1) := all_at dvX11_stood_0 6 rfl
theorem dX11_stood_13 : decode cX11_stood 13 = .ok (.iconst 0, 1) := all_at dvX11_stood_0 7 rfl
theorem dX11_stood_14 : decode cX11_stood 14 = .ok (.iconst 1, 1) := all_at dvX11_stood_0 8 rfl
theorem dX11_stood_15 : decode cX11_stood 15 = .ok (.invokestatic 89, 3) := all_at dvX11_stood_0 9 rfl
theorem dX11_stood_18 : decode cX11_stood 18 = .ok (.ifCond .ne 7, 3) := all_at dvX11_stood_0 10 rfl
theorem dX11_stood_21 : decode cX11_stood 21 = .ok (.ldc2_w 216, 3) := all_at dvX11_stood_0 11 rfl
theorem dX11_stood_24 : decode cX11_stood 24 = .ok (.lreturn, 1) := all_at dvX11_stood_0 12 rfl
theorem dX11_stood_25 : decode cX11_stood 25 = .ok (.aload_n 0, 1) := all_at dvX11_stood_0 13 rfl
theorem dX11_stood_26 : decode cX11_stood 26 = .ok (.getfield 81, 3) := all_at dvX11_stood_0 14 rfl
theorem dX11_stood_29 : decode cX11_stood 29 = .ok (.iload_n 1, 1) := all_at dvX11_stood_0 15 rfl
theorem dX11_stood_30 : decode cX11_stood 30 = .ok (.iload_n 2, 1) := all_at dvX11_stood_0 16 rfl
theorem dX11_stood_31 : decode cX11_stood 31 = .ok (.ifCond .ne 7, 3) := all_at dvX11_stood_0 17 rfl
theorem dX11_stood_34 : decode cX11_stood 34 = .ok (.iconst 1, 1) := all_at dvX11_stood_0 18 rfl
theorem dX11_stood_35 : decode cX11_stood 35 = .ok (.goto 4, 3) := all_at dvX11_stood_0 19 rfl
theorem dX11_stood_38 : decode cX11_stood 38 = .ok (.iconst 0, 1) := all_at dvX11_stood_0 20 rfl
theorem dX11_stood_39 : decode cX11_stood 39 = .ok (.invokevirtual 368, 3) := all_at dvX11_stood_0 21 rfl
theorem dX11_stood_42 : decode cX11_stood 42 = .ok (.lreturn, 1) := all_at dvX11_stood_0 22 rfl
set_option maxRecDepth 100000 in
theorem dvX11_undo_0 : ([(0, .aload_n 0, 1), (1, .getfield 81, 3), (4, .iload_n 1, 1), (5, .invokevirtual 343, 3), (8, .ifCond .ne 6, 3), (11, .ldc 108, 2), (13, .ireturn, 1), (14, .aload_n 0, 1), (15, .getfield 81, 3), (18, .iload_n 1, 1), (19, .invokevirtual 185, 3), (22, .ifCond .eq 14, 3), (25, .aload_n 0, 1), (26, .getfield 81, 3), (29, .iload_n 1, 1), (30, .invokevirtual 344, 3), (33, .ifCond .eq 6, 3), (36, .ldc 94, 2), (38, .ireturn, 1), (39, .aload_n 0, 1), (40, .getfield 81, 3), (43, .iload_n 1, 1), (44, .aload_n 0, 1), (45, .getfield 85, 3)] : List (Nat × Instr × Nat)).all (fun q => decide (decode cX11_undo q.1 = .ok (q.2.1, q.2.2))) = true := by decide +kernel
theorem dX11_undo_0 : decode cX11_undo 0 = .ok (.aload_n 0, 1) := all_at dvX11_undo_0 0 rfl
theorem dX11_undo_1 : decode cX11_undo 1 = .ok (.getfield 81, 3) := all_at dvX11_undo_0 1 rfl
theorem dX11_undo_4 : decode cX11_undo 4 = .ok (.iload_n 1, 1) := all_at dvX11_undo_0 2 rfl
theorem dX11_undo_5 : decode cX11_undo 5 = .ok (.invokevirtual 343, 3) := all_at dvX11_undo_0 3 rfl
theorem dX11_undo_8 : decode cX11_undo 8 = .ok (.ifCond .ne 6, 3) := all_at dvX11_undo_0 4 rfl
theorem dX11_undo_11 : decode cX11_undo 11 = .ok (.ldc 108, 2) := all_at dvX11_undo_0 5 rfl
theorem dX11_undo_13 : decode cX11_undo 13 = .ok (.ireturn, 1) := all_at dvX11_undo_0 6 rfl
theorem dX11_undo_14 : decode cX11_undo 14 = .ok (.aload_n 0, 1) := all_at dvX11_undo_0 7 rfl
theorem dX11_undo_15 : decode cX11_undo 15 = .ok (.getfield 81, 3) := all_at dvX11_undo_0 8 rfl
theorem dX11_undo_18 : decode cX11_undo 18 = .ok (.iload_n 1, 1) := all_at dvX11_undo_0 9 rfl
theorem dX11_undo_19 : decode cX11_undo 19 = .ok (.invokevirtual 185, 3) := all_at dvX11_undo_0 10 rfl
theorem dX11_undo_22 : decode cX11_undo 22 = .ok (.ifCond .eq 14, 3) := all_at dvX11_undo_0 11 rfl
theorem dX11_undo_25 : decode cX11_undo 25 = .ok (.aload_n 0, 1) := all_at dvX11_undo_0 12 rfl
theorem dX11_undo_26 : decode cX11_undo 26 = .ok (.getfield 81, 3) := all_at dvX11_undo_0 13 rfl
theorem dX11_undo_29 : decode cX11_undo 29 = .ok (.iload_n 1, 1) := all_at dvX11_undo_0 14 rfl
theorem dX11_undo_30 : decode cX11_undo 30 = .ok (.invokevirtual 344, 3) := all_at dvX11_undo_0 15 rfl
theorem dX11_undo_33 : decode cX11_undo 33 = .ok (.ifCond .eq 6, 3) := all_at dvX11_undo_0 16 rfl
theorem dX11_undo_36 : decode cX11_undo 36 = .ok (.ldc 94, 2) := all_at dvX11_undo_0 17 rfl
theorem dX11_undo_38 : decode cX11_undo 38 = .ok (.ireturn, 1) := all_at dvX11_undo_0 18 rfl
theorem dX11_undo_39 : decode cX11_undo 39 = .ok (.aload_n 0, 1) := all_at dvX11_undo_0 19 rfl
theorem dX11_undo_40 : decode cX11_undo 40 = .ok (.getfield 81, 3) := all_at dvX11_undo_0 20 rfl
theorem dX11_undo_43 : decode cX11_undo 43 = .ok (.iload_n 1, 1) := all_at dvX11_undo_0 21 rfl
theorem dX11_undo_44 : decode cX11_undo 44 = .ok (.aload_n 0, 1) := all_at dvX11_undo_0 22 rfl
theorem dX11_undo_45 : decode cX11_undo 45 = .ok (.getfield 85, 3) := all_at dvX11_undo_0 23 rfl
theorem dX11_undo_48 : decode cX11_undo 48 = .ok (.invokevirtual 359, 3) := by decide +kernel
theorem dX11_undo_51 : decode cX11_undo 51 = .ok (.ireturn, 1) := by decide +kernel
set_option maxHeartbeats 4000000 in
set_option maxRecDepth 100000 in
/-- X11_shared -/
theorem c_X11_shared (l : Launch) (dC : Nat → ClassId) (dI : Nat → Nat → Nat) (sz : Nat) (h : Nat) (g : Nat → Nat → Nat) (ca : Nat → Nat → ClassId) (iv : Nat → Nat → Int32) (lv : Nat → Nat → Int64) (fa : Nat → Nat → Nat → Int32) (la : Nat → Nat → Nat → Int64) (hI : IX iv fa) (a : Int32) (b : Int32) (d : Int32) (k : Int32) : Met l yX11_shared (wc yX11_shared cX11_shared 5 (some .int)) ({ frames := 1, cells := 0, slots := 0, locals := 22 } : Room) (pW (dC, dI) classes (WX h g ca iv lv fa la) (TX ca) sz [.ref h, .int a, .int b, .int d, .int k]) (va_Qi (fun r (u : SS) => ∃ (na_4_0 : Nat → Int32) (na_4_1 : Nat → Int32) (ni_4_2 : Int32), inb (bI 4 2) ni_4_2 ∧ ((-100004) ≤ r.toInt ∧ r.toInt ≤ 8) ∧ u = ((u2 iv 4 2 ni_4_2), lv, (u2 (u2 fa 4 0 na_4_0) 4 1 na_4_1), la)) (bX (dC, dI) h g ca (va_A (WX h g ca iv lv fa la) sz)) (va_A (WX h g ca iv lv fa la) sz)) 0 0 (va_A (WX h g ca iv lv fa la) sz) := by
  refine Met.ofW (cc := cX11_shared) (maxL := 5) (ret := (some .int)) (by decide) rfl ?_
  intro p e s m args below meth c s₁ B hml hv
  obtain ⟨rfl, hsz, hP, hK, hD0⟩ := hv
  have hx := B.exec
  have hb := B.bytes
  have hr := B.returns
  have ht := tb_tl (atoms_spec (ws := wc yX11_shared cX11_shared 5 (some .int)) B.pre)
  have hown : s.vm.findClass RX11 = some m.cls := findClass_of_methodNamed B.named
  have hlocks := B.notSynchronized
  subst hsz
  have hD := hD0.self (sz := s.heap.size)
  generalize hAe : va_A (WX h g ca iv lv fa la) s.heap.size = A at hD ⊢
  have hA : ∀ q : Nat, s.heap.size ≤ q → A q := fun q h => by rw [← hAe]; exact Or.inr h
  have hS : va_S A s.heap s.heap [] := va_S.rf
  have hl := lv_entry [.ref h, .int a, .int b, .int d, .int k] (n := 5) (Nat.le_of_ble_eq_true rfl)
  rw [lg_entry_eq]
  generalize (lg_sl [.ref h, .int a, .int b, .int d, .int k] ++ List.replicate (5 - (lg_sl [.ref h, .int a, .int b, .int d, .int k]).length) Slot.unset).toArray = ls at hl ⊢
  have hl : lv_has ls 5 [(0, .ref h), (1, .int a), (2, .int b), (3, .int d), (4, .int k)] := hl
  refine lv_iload_n hx hb dX11_shared_0 rfl (lv_at hl 1 rfl) ?_
  refine lv_iconst (v := 1) hx hb dX11_shared_1 (by decide) ?_
  refine lv_sipush (v := 9999) hx hb dX11_shared_2 (by decide) ?_
  refine vp_callSi (W.runS (As := [.int a, .int 1, .int 9999]) (rest := []) ⟨hx, hb, hml, hown, ht⟩ (c_X11_within l dC dI a 1 9999 (a.toInt) (1) (9999) (rfl : (a).toInt = _) (by decide : (1 : Int32).toInt = 1) (by decide : (9999 : Int32).toInt = 9999)) (kS 3 ht m_453 m_454 m_77 m_455 rfl rfl hd_X11_within_v ⟨Nat.le_of_ble_eq_true rfl, Nat.le_of_ble_eq_true rfl⟩) (sR noP (hK.sub (tys' := []) [] rfl)) rfl rfl hl.1 rfl (lv_room (Nat.le_of_ble_eq_true rfl)) dX11_shared_5 ⟨Nat.le_of_ble_eq_true rfl, Nat.le_of_ble_eq_true rfl⟩) (fun r1 hr1 => ?_)
  rcases hr1 with ⟨rfl, fr1⟩ | ⟨rfl, fr1⟩
  · skip
    refine lv_if_eq (tgt := 22) hx hb dX11_shared_8 (by decide) (fun c2 => ?_) (fun c2 => ?_)
    · exact absurd c2 (by decide)
    · skip
      refine lv_iload_n hx hb dX11_shared_11 rfl (lv_at hl 2 rfl) ?_
      refine lv_iload_n hx hb dX11_shared_12 rfl (lv_at hl 1 rfl) ?_
      refine lv_sipush (v := 9999) hx hb dX11_shared_13 (by decide) ?_
      refine vp_callSi (W.runS (As := [.int b, .int a, .int 9999]) (rest := []) ⟨hx, hb, hml, hown, ht⟩ (c_X11_within l dC dI b a 9999 (b.toInt) (a.toInt) (9999) (rfl : (b).toInt = _) (rfl : (a).toInt = _) (by decide : (9999 : Int32).toInt = 9999)) (kS 3 ht m_453 m_454 m_77 m_455 rfl rfl hd_X11_within_v ⟨Nat.le_of_ble_eq_true rfl, Nat.le_of_ble_eq_true rfl⟩) (sR noP (hK.sub (tys' := []) [] rfl)) rfl rfl hl.1 rfl (lv_room (Nat.le_of_ble_eq_true rfl)) dX11_shared_16 ⟨Nat.le_of_ble_eq_true rfl, Nat.le_of_ble_eq_true rfl⟩) (fun r3 hr3 => ?_)
      rcases hr3 with ⟨rfl, fr3⟩ | ⟨rfl, fr3⟩
      · skip
        refine lv_if_ne (tgt := 25) hx hb dX11_shared_19 (by decide) (fun c4 => ?_) (fun c4 => ?_)
        · skip
          refine lv_iload_n hx hb dX11_shared_25 rfl (lv_at hl 3 rfl) ?_
          refine lv_iconst (v := 1) hx hb dX11_shared_26 (by decide) ?_
          refine lv_sipush (v := 9999) hx hb dX11_shared_27 (by decide) ?_
          refine vp_callSi (W.runS (As := [.int d, .int 1, .int 9999]) (rest := []) ⟨hx, hb, hml, hown, ht⟩ (c_X11_within l dC dI d 1 9999 (d.toInt) (1) (9999) (rfl : (d).toInt = _) (by decide : (1 : Int32).toInt = 1) (by decide : (9999 : Int32).toInt = 9999)) (kS 3 ht m_453 m_454 m_77 m_455 rfl rfl hd_X11_within_v ⟨Nat.le_of_ble_eq_true rfl, Nat.le_of_ble_eq_true rfl⟩) (sR noP (hK.sub (tys' := []) [] rfl)) rfl rfl hl.1 rfl (lv_room (Nat.le_of_ble_eq_true rfl)) dX11_shared_30 ⟨Nat.le_of_ble_eq_true rfl, Nat.le_of_ble_eq_true rfl⟩) (fun r5 hr5 => ?_)
          rcases hr5 with ⟨rfl, fr5⟩ | ⟨rfl, fr5⟩
          · skip
            refine lv_if_eq (tgt := 48) hx hb dX11_shared_33 (by decide) (fun c6 => ?_) (fun c6 => ?_)
            · exact absurd c6 (by decide)
            · skip
              refine lv_iload hx hb dX11_shared_36 (lv_at hl 4 rfl) ?_
              refine lv_iload_n hx hb dX11_shared_38 rfl (lv_at hl 3 rfl) ?_
              refine lv_sipush (v := 9999) hx hb dX11_shared_39 (by decide) ?_
              refine vp_callSi (W.runS (As := [.int k, .int d, .int 9999]) (rest := []) ⟨hx, hb, hml, hown, ht⟩ (c_X11_within l dC dI k d 9999 (k.toInt) (d.toInt) (9999) (rfl : (k).toInt = _) (rfl : (d).toInt = _) (by decide : (9999 : Int32).toInt = 9999)) (kS 3 ht m_453 m_454 m_77 m_455 rfl rfl hd_X11_within_v ⟨Nat.le_of_ble_eq_true rfl, Nat.le_of_ble_eq_true rfl⟩) (sR noP (hK.sub (tys' := []) [] rfl)) rfl rfl hl.1 rfl (lv_room (Nat.le_of_ble_eq_true rfl)) dX11_shared_42 ⟨Nat.le_of_ble_eq_true rfl, Nat.le_of_ble_eq_true rfl⟩) (fun r7 hr7 => ?_)
              rcases hr7 with ⟨rfl, fr7⟩ | ⟨rfl, fr7⟩
              · skip
                refine lv_if_ne (tgt := 51) hx hb dX11_shared_45 (by decide) (fun c8 => ?_) (fun c8 => ?_)
                · skip
                  refine lv_aload_n hx hb dX11_shared_51 rfl (lv_at hl 0 rfl) ?_
                  refine gX_11_8 hx hb ht hown hK hP m_423 dX11_shared_52 ?_
                  have i_4_2 : 0 ≤ (iv 4 2).toInt ∧ (iv 4 2).toInt ≤ 8 := hI.1 4 2
                  refine gX_4_2 hx hb ht hown hK hP m_369 (v := (iv 4 2)) rfl dX11_shared_55 ?_
                  refine lv_bipush (v := 8) hx hb dX11_shared_58 (by decide) ?_
                  refine lv_icmp_lt (tgt := 66) hx hb dX11_shared_60 (by decide) (fun c9 => ?_) (fun c9 => ?_)
                  · have fc9 := z_lt (rfl : ((iv 4 2)).toInt = _) (by decide : (8 : Int32).toInt = 8) c9
                    refine lv_aload_n hx hb dX11_shared_66 rfl (lv_at hl 0 rfl) ?_
                    refine gX_11_8 hx hb ht hown hK hP m_423 dX11_shared_67 ?_
                    refine lv_iload_n hx hb dX11_shared_70 rfl (lv_at hl 1 rfl) ?_
                    refine lv_iload hx hb dX11_shared_71 (lv_at hl 4 rfl) ?_
                    refine lv_isub hx hb dX11_shared_73 ?_
                    refine lv_topi (fun v10 ev10 => ?_)
                    have tv10 := z_sub ev10 (rfl : (a).toInt = _) (rfl : (k).toInt = _) (by omega) (by omega)
                    refine lv_iload_n hx hb dX11_shared_74 rfl (lv_at hl 2 rfl) ?_
                    refine lv_iload_n hx hb dX11_shared_75 rfl (lv_at hl 3 rfl) ?_
                    refine lv_isub hx hb dX11_shared_76 ?_
                    refine lv_topi (fun v11 ev11 => ?_)
                    have tv11 := z_sub ev11 (rfl : (b).toInt = _) (rfl : (d).toInt = _) (by omega) (by omega)
                    have hFc := free_all hD hS hA
                    refine va_calli (va_runV (As := [.int v10, .int v11]) (rest := []) ⟨hx, hb, hml, hown, ht⟩ (c_X4_compare l dC dI s.heap.size h g ca iv lv fa la hI v10 v11 (show 0 ≤ ((iv 4 2) : Int32).toInt ∧ ((iv 4 2) : Int32).toInt ≤ 7 from ⟨by omega, by omega⟩)) (kV 2 ht m_1038 m_1039 m_1040 m_87 m_1041 rfl rfl hd_X4_compare_v ⟨Nat.le_of_ble_eq_true rfl, Nat.le_of_ble_eq_true rfl⟩) (vW hP hK hD (rX_4 hK hP)) rfl rfl hl.1 rfl (lv_room (Nat.le_of_ble_eq_true rfl)) dX11_shared_77 ⟨Nat.le_of_ble_eq_true rfl, Nat.le_of_ble_eq_true rfl⟩) hS (fun q _ h => hFc q h) hFc (fun r12 u t H1 locs ht9 hvm hr12 hB hz1 hk1 hS => ?_)
                    obtain ⟨n13, n14, n15, hn15, dn15, hr12, rfl⟩ := hr12
                    have hn13 : ∀ j, inb (bA 4 0 j) (n13 j) := fun j => full_i _
                    have hn14 : ∀ j, inb (bA 4 1 j) (n14 j) := fun j => full_i _
                    have dn15 : n15.toInt = ((iv 4 2) : Int32).toInt + 1 := dn15
                    have hn15 : 0 ≤ n15.toInt ∧ n15.toInt ≤ 8 := hn15
                    obtain ⟨hP, hD⟩ := hB
                    rw [ht9] at hP
                    generalize H1 = H at hP hS ⊢
                    have hP : va_P (dC, dI) classes (WX h g ca (u2 iv 4 2 n15) lv (u2 (u2 fa 4 0 n13) 4 1 n14) la) H := hP
                    have hD : va_D A (WX h g ca (u2 iv 4 2 n15) lv (u2 (u2 fa 4 0 n13) 4 1 n14) la) := (show va_D _ (WX h g ca (u2 iv 4 2 n15) lv (u2 (u2 fa 4 0 n13) 4 1 n14) la) from hD).weaken (fun _ _ _ h => hFc _ h)
                    have hP9 : va_P (dC, dI) classes (WX h g ca (u2 iv 4 2 n15) lv (u2 (u2 fa 4 0 n13) 4 1 n14) la) H := hP
                    have hD9 : va_D A (WX h g ca (u2 iv 4 2 n15) lv (u2 (u2 fa 4 0 n13) 4 1 n14) la) := hD
                    exact W.iret (v := r12) hx hb hr (fun t ht9 hW => ⟨⟨r12, ((u2 iv 4 2 n15), lv, (u2 (u2 fa 4 0 n13) 4 1 n14), la), rfl, ⟨n13, n14, n15, (show inb (0, 8) n15 from ⟨by omega, by omega⟩), ⟨by omega, by omega⟩, rfl⟩, by rw [ht9]; exact hP9, hD9⟩, hS.F ht9⟩) hS.2.2 dX11_shared_80
                  · have fc9 := z_nlt (rfl : ((iv 4 2)).toInt = _) (by decide : (8 : Int32).toInt = 8) c9
                    refine lv_ldc hx hb hown (ht _ m_463) dX11_shared_63 ?_
                    have hP9 : va_P (dC, dI) classes (WX h g ca (u2 iv 4 2 (iv 4 2)) lv (u2 (u2 fa 4 0 (fa 4 0)) 4 1 (fa 4 1)) la) s.heap := hP
                    have hD9 : va_D A (WX h g ca (u2 iv 4 2 (iv 4 2)) lv (u2 (u2 fa 4 0 (fa 4 0)) 4 1 (fa 4 1)) la) := hD
                    exact W.iret (v := (-100004)) hx hb hr (fun t ht9 hW => ⟨⟨(-100004), ((u2 iv 4 2 (iv 4 2)), lv, (u2 (u2 fa 4 0 (fa 4 0)) 4 1 (fa 4 1)), la), rfl, ⟨(fa 4 0), (fa 4 1), (iv 4 2), (hI.1 4 2), ⟨by decide, by decide⟩, rfl⟩, by rw [ht9]; exact hP9, hD9⟩, hS.F ht9⟩) hS.2.2 dX11_shared_65
                · exact absurd c8 (by decide)
              · skip
                refine lv_if_ne (tgt := 51) hx hb dX11_shared_45 (by decide) (fun c16 => ?_) (fun c16 => ?_)
                · exact absurd rfl c16
                · skip
                  refine lv_ldc hx hb hown (ht _ m_456) dX11_shared_48 ?_
                  have hP9 : va_P (dC, dI) classes (WX h g ca (u2 iv 4 2 (iv 4 2)) lv (u2 (u2 fa 4 0 (fa 4 0)) 4 1 (fa 4 1)) la) s.heap := hP
                  have hD9 : va_D A (WX h g ca (u2 iv 4 2 (iv 4 2)) lv (u2 (u2 fa 4 0 (fa 4 0)) 4 1 (fa 4 1)) la) := hD
                  exact W.iret (v := (-100002)) hx hb hr (fun t ht9 hW => ⟨⟨(-100002), ((u2 iv 4 2 (iv 4 2)), lv, (u2 (u2 fa 4 0 (fa 4 0)) 4 1 (fa 4 1)), la), rfl, ⟨(fa 4 0), (fa 4 1), (iv 4 2), (hI.1 4 2), ⟨by decide, by decide⟩, rfl⟩, by rw [ht9]; exact hP9, hD9⟩, hS.F ht9⟩) hS.2.2 dX11_shared_50
          · skip
            refine lv_if_eq (tgt := 48) hx hb dX11_shared_33 (by decide) (fun c17 => ?_) (fun c17 => ?_)
            · skip
              refine lv_ldc hx hb hown (ht _ m_456) dX11_shared_48 ?_
              have hP9 : va_P (dC, dI) classes (WX h g ca (u2 iv 4 2 (iv 4 2)) lv (u2 (u2 fa 4 0 (fa 4 0)) 4 1 (fa 4 1)) la) s.heap := hP
              have hD9 : va_D A (WX h g ca (u2 iv 4 2 (iv 4 2)) lv (u2 (u2 fa 4 0 (fa 4 0)) 4 1 (fa 4 1)) la) := hD
              exact W.iret (v := (-100002)) hx hb hr (fun t ht9 hW => ⟨⟨(-100002), ((u2 iv 4 2 (iv 4 2)), lv, (u2 (u2 fa 4 0 (fa 4 0)) 4 1 (fa 4 1)), la), rfl, ⟨(fa 4 0), (fa 4 1), (iv 4 2), (hI.1 4 2), ⟨by decide, by decide⟩, rfl⟩, by rw [ht9]; exact hP9, hD9⟩, hS.F ht9⟩) hS.2.2 dX11_shared_50
            · exact absurd rfl c17
        · exact absurd c4 (by decide)
      · skip
        refine lv_if_ne (tgt := 25) hx hb dX11_shared_19 (by decide) (fun c18 => ?_) (fun c18 => ?_)
        · exact absurd rfl c18
        · skip
          refine lv_ldc hx hb hown (ht _ m_456) dX11_shared_22 ?_
          have hP9 : va_P (dC, dI) classes (WX h g ca (u2 iv 4 2 (iv 4 2)) lv (u2 (u2 fa 4 0 (fa 4 0)) 4 1 (fa 4 1)) la) s.heap := hP
          have hD9 : va_D A (WX h g ca (u2 iv 4 2 (iv 4 2)) lv (u2 (u2 fa 4 0 (fa 4 0)) 4 1 (fa 4 1)) la) := hD
          exact W.iret (v := (-100002)) hx hb hr (fun t ht9 hW => ⟨⟨(-100002), ((u2 iv 4 2 (iv 4 2)), lv, (u2 (u2 fa 4 0 (fa 4 0)) 4 1 (fa 4 1)), la), rfl, ⟨(fa 4 0), (fa 4 1), (iv 4 2), (hI.1 4 2), ⟨by decide, by decide⟩, rfl⟩, by rw [ht9]; exact hP9, hD9⟩, hS.F ht9⟩) hS.2.2 dX11_shared_24
  · skip
    refine lv_if_eq (tgt := 22) hx hb dX11_shared_8 (by decide) (fun c19 => ?_) (fun c19 => ?_)
    · skip
      refine lv_ldc hx hb hown (ht _ m_456) dX11_shared_22 ?_
      have hP9 : va_P (dC, dI) classes (WX h g ca (u2 iv 4 2 (iv 4 2)) lv (u2 (u2 fa 4 0 (fa 4 0)) 4 1 (fa 4 1)) la) s.heap := hP
      have hD9 : va_D A (WX h g ca (u2 iv 4 2 (iv 4 2)) lv (u2 (u2 fa 4 0 (fa 4 0)) 4 1 (fa 4 1)) la) := hD
      exact W.iret (v := (-100002)) hx hb hr (fun t ht9 hW => ⟨⟨(-100002), ((u2 iv 4 2 (iv 4 2)), lv, (u2 (u2 fa 4 0 (fa 4 0)) 4 1 (fa 4 1)), la), rfl, ⟨(fa 4 0), (fa 4 1), (iv 4 2), (hI.1 4 2), ⟨by decide, by decide⟩, rfl⟩, by rw [ht9]; exact hP9, hD9⟩, hS.F ht9⟩) hS.2.2 dX11_shared_24
    · exact absurd rfl c19
set_option maxHeartbeats 4000000 in
set_option maxRecDepth 100000 in
/-- X11_paper -/
theorem c_X11_paper (l : Launch) (dC : Nat → ClassId) (dI : Nat → Nat → Nat) (h : Nat) (g : Nat → Nat → Nat) (ca : Nat → Nat → ClassId) (iv : Nat → Nat → Int32) (lv : Nat → Nat → Int64) (fa : Nat → Nat → Nat → Int32) (la : Nat → Nat → Nat → Int64) (hI : IX iv fa) (a : Int32) (b : Int32) : Met l yX11_paper (wc yX11_paper cX11_paper 3 (some .int)) ({ frames := 1, cells := 0, slots := 0, locals := 23 } : Room) (pR (dC, dI) classes (WX h g ca iv lv fa la) (TX ca) [.ref h, .int a, .int b]) (vp_Si (fun r => True)) 0 0 (fun _ => False) := by
  refine Met.ofW (cc := cX11_paper) (maxL := 3) (ret := (some .int)) (by decide) rfl ?_
  intro p e s m args below meth c s₁ B hml hv
  obtain ⟨rfl, hP, hK⟩ := hv
  have hx := B.exec
  have hb := B.bytes
  have hr := B.returns
  have ht := tb_tl (atoms_spec (ws := wc yX11_paper cX11_paper 3 (some .int)) B.pre)
  have hown : s.vm.findClass RX11 = some m.cls := findClass_of_methodNamed B.named
  have hlocks := B.notSynchronized
  have hl := lv_entry [.ref h, .int a, .int b] (n := 3) (Nat.le_of_ble_eq_true rfl)
  rw [lg_entry_eq]
  generalize (lg_sl [.ref h, .int a, .int b] ++ List.replicate (3 - (lg_sl [.ref h, .int a, .int b]).length) Slot.unset).toArray = ls at hl ⊢
  have hl : lv_has ls 3 [(0, .ref h), (1, .int a), (2, .int b)] := hl
  refine lv_aload_n hx hb dX11_paper_0 rfl (lv_at hl 0 rfl) ?_
  refine gX_11_9 hx hb ht hown hK hP m_424 dX11_paper_1 ?_
  refine lv_iload_n hx hb dX11_paper_4 rfl (lv_at hl 1 rfl) ?_
  refine vp_callSi (W.runV (As := [.int a]) (rest := []) ⟨hx, hb, hml, hown, ht⟩ (c_X6_has l dC dI h g ca iv lv fa la hI a) (kV 1 ht m_1095 m_1096 m_1097 m_88 m_1098 rfl rfl hd_X6_has_v ⟨Nat.le_of_ble_eq_true rfl, Nat.le_of_ble_eq_true rfl⟩) (vR hP hK (rX_6 hK hP)) rfl rfl hl.1 rfl (lv_room (Nat.le_of_ble_eq_true rfl)) dX11_paper_5 ⟨Nat.le_of_ble_eq_true rfl, Nat.le_of_ble_eq_true rfl⟩) (fun r1 hr1 => ?_)
  rcases hr1 with ⟨rfl, fr1⟩ | ⟨rfl, fr1⟩
  · skip
    have i_6_7 : 0 ≤ (iv 6 7).toInt ∧ (iv 6 7).toInt ≤ 40 := hI.1 6 7
    have fr1 : (0 ≤ (a : Int32).toInt ∧ (a : Int32).toInt < ((iv 6 7) : Int32).toInt) := fr1
    refine lv_if_ne (tgt := 14) hx hb dX11_paper_8 (by decide) (fun c2 => ?_) (fun c2 => ?_)
    · skip
      refine lv_iload_n hx hb dX11_paper_14 rfl (lv_at hl 2 rfl) ?_
      rcases sw_0_6 b with h3 | rfl | rfl | rfl | rfl | rfl | rfl | rfl
      · refine lv_tableOut (tgt := 125) hx hb dX11_paper_15 h3 (by decide) ?_
        refine lv_ldc hx hb hown (ht _ m_456) dX11_paper_125 ?_
        exact W.iret (v := (-100002)) hx hb hr (fun t ht9 hW => ⟨(-100002), rfl, trivial, ht9⟩) (fun q hq => by cases hq) dX11_paper_127
      · refine lv_tableIn (tgt := 56) (off := 41) hx hb dX11_paper_15 (by decide) (by decide) rfl (by decide) ?_
        refine lv_aload_n hx hb dX11_paper_56 rfl (lv_at hl 0 rfl) ?_
        refine gX_11_9 hx hb ht hown hK hP m_424 dX11_paper_57 ?_
        refine gX_6_0 hx hb ht hown hK hP m_384 dX11_paper_60 ?_
        refine lv_iload_n hx hb dX11_paper_63 rfl (lv_at hl 1 rfl) ?_
        refine lX_6_0 hx hb hK hP (f := (fa 6 0)) rfl (vp_in_iff.mpr ⟨by omega, by omega⟩) dX11_paper_64 ?_
        refine lv_topi (fun v4 ev4 => ?_)
        exact W.iret (v := v4) hx hb hr (fun t ht9 hW => ⟨v4, rfl, trivial, ht9⟩) (fun q hq => by cases hq) dX11_paper_65
      · refine lv_tableIn (tgt := 66) (off := 51) hx hb dX11_paper_15 (by decide) (by decide) rfl (by decide) ?_
        refine lv_aload_n hx hb dX11_paper_66 rfl (lv_at hl 0 rfl) ?_
        refine gX_11_9 hx hb ht hown hK hP m_424 dX11_paper_67 ?_
        refine gX_6_1 hx hb ht hown hK hP m_386 dX11_paper_70 ?_
        refine lv_iload_n hx hb dX11_paper_73 rfl (lv_at hl 1 rfl) ?_
        refine lX_6_1 hx hb hK hP (f := (fa 6 1)) rfl (vp_in_iff.mpr ⟨by omega, by omega⟩) dX11_paper_74 ?_
        refine lv_topi (fun v5 ev5 => ?_)
        exact W.iret (v := v5) hx hb hr (fun t ht9 hW => ⟨v5, rfl, trivial, ht9⟩) (fun q hq => by cases hq) dX11_paper_75
      · refine lv_tableIn (tgt := 76) (off := 61) hx hb dX11_paper_15 (by decide) (by decide) rfl (by decide) ?_
        refine lv_aload_n hx hb dX11_paper_76 rfl (lv_at hl 0 rfl) ?_
        refine gX_11_9 hx hb ht hown hK hP m_424 dX11_paper_77 ?_
        refine gX_6_2 hx hb ht hown hK hP m_388 dX11_paper_80 ?_
        refine lv_iload_n hx hb dX11_paper_83 rfl (lv_at hl 1 rfl) ?_
        refine lX_6_2 hx hb hK hP (f := (fa 6 2)) rfl (vp_in_iff.mpr ⟨by omega, by omega⟩) dX11_paper_84 ?_
        refine lv_topi (fun v6 ev6 => ?_)
        exact W.iret (v := v6) hx hb hr (fun t ht9 hW => ⟨v6, rfl, trivial, ht9⟩) (fun q hq => by cases hq) dX11_paper_85
      · refine lv_tableIn (tgt := 86) (off := 71) hx hb dX11_paper_15 (by decide) (by decide) rfl (by decide) ?_
        refine lv_aload_n hx hb dX11_paper_86 rfl (lv_at hl 0 rfl) ?_
        refine gX_11_9 hx hb ht hown hK hP m_424 dX11_paper_87 ?_
        refine gX_6_3 hx hb ht hown hK hP m_390 dX11_paper_90 ?_
        refine lv_iload_n hx hb dX11_paper_93 rfl (lv_at hl 1 rfl) ?_
        refine lX_6_3 hx hb hK hP (f := (fa 6 3)) rfl (vp_in_iff.mpr ⟨by omega, by omega⟩) dX11_paper_94 ?_
        refine lv_topi (fun v7 ev7 => ?_)
        have tv7 : (-1) ≤ v7.toInt ∧ v7.toInt ≤ 39 := by rw [ev7]; exact hI.2 6 3 _
        exact W.iret (v := v7) hx hb hr (fun t ht9 hW => ⟨v7, rfl, trivial, ht9⟩) (fun q hq => by cases hq) dX11_paper_95
      · refine lv_tableIn (tgt := 96) (off := 81) hx hb dX11_paper_15 (by decide) (by decide) rfl (by decide) ?_
        refine lv_aload_n hx hb dX11_paper_96 rfl (lv_at hl 0 rfl) ?_
        refine gX_11_9 hx hb ht hown hK hP m_424 dX11_paper_97 ?_
        refine gX_6_4 hx hb ht hown hK hP m_392 dX11_paper_100 ?_
        refine lv_iload_n hx hb dX11_paper_103 rfl (lv_at hl 1 rfl) ?_
        refine lX_6_4 hx hb hK hP (f := (fa 6 4)) rfl (vp_in_iff.mpr ⟨by omega, by omega⟩) dX11_paper_104 ?_
        refine lv_topi (fun v8 ev8 => ?_)
        exact W.iret (v := v8) hx hb hr (fun t ht9 hW => ⟨v8, rfl, trivial, ht9⟩) (fun q hq => by cases hq) dX11_paper_105
      · refine lv_tableIn (tgt := 106) (off := 91) hx hb dX11_paper_15 (by decide) (by decide) rfl (by decide) ?_
        refine lv_aload_n hx hb dX11_paper_106 rfl (lv_at hl 0 rfl) ?_
        refine gX_11_9 hx hb ht hown hK hP m_424 dX11_paper_107 ?_
        refine gX_6_5 hx hb ht hown hK hP m_394 dX11_paper_110 ?_
        refine lv_iload_n hx hb dX11_paper_113 rfl (lv_at hl 1 rfl) ?_
        refine lX_6_5 hx hb hK hP (f := (fa 6 5)) rfl (vp_in_iff.mpr ⟨by omega, by omega⟩) dX11_paper_114 ?_
        refine lv_topi (fun v9 ev9 => ?_)
        exact W.iret (v := v9) hx hb hr (fun t ht9 hW => ⟨v9, rfl, trivial, ht9⟩) (fun q hq => by cases hq) dX11_paper_115
      · refine lv_tableIn (tgt := 116) (off := 101) hx hb dX11_paper_15 (by decide) (by decide) rfl (by decide) ?_
        refine lv_aload_n hx hb dX11_paper_116 rfl (lv_at hl 0 rfl) ?_
        refine gX_11_9 hx hb ht hown hK hP m_424 dX11_paper_117 ?_
        refine lv_iload_n hx hb dX11_paper_120 rfl (lv_at hl 1 rfl) ?_
        refine vp_callSi (W.runV (As := [.int a]) (rest := []) ⟨hx, hb, hml, hown, ht⟩ (c_X6_hanging l dC dI h g ca iv lv fa la hI a) (kV 1 ht m_1121 m_1122 m_1123 m_88 m_1124 rfl rfl hd_X6_hanging_v ⟨Nat.le_of_ble_eq_true rfl, Nat.le_of_ble_eq_true rfl⟩) (vR hP hK (rX_6 hK hP)) rfl rfl hl.1 rfl (lv_room (Nat.le_of_ble_eq_true rfl)) dX11_paper_121 ⟨Nat.le_of_ble_eq_true rfl, Nat.le_of_ble_eq_true rfl⟩) (fun r10 hr10 => ?_)
        exact W.iret (v := r10) hx hb hr (fun t ht9 hW => ⟨r10, rfl, trivial, ht9⟩) (fun q hq => by cases hq) dX11_paper_124
    · exact absurd c2 (by decide)
  · skip
    have i_6_7 : 0 ≤ (iv 6 7).toInt ∧ (iv 6 7).toInt ≤ 40 := hI.1 6 7
    have fr1 : ¬ (0 ≤ (a : Int32).toInt ∧ (a : Int32).toInt < ((iv 6 7) : Int32).toInt) := fr1
    refine lv_if_ne (tgt := 14) hx hb dX11_paper_8 (by decide) (fun c11 => ?_) (fun c11 => ?_)
    · exact absurd rfl c11
    · skip
      refine lv_ldc hx hb hown (ht _ m_476) dX11_paper_11 ?_
      exact W.iret (v := (-100001)) hx hb hr (fun t ht9 hW => ⟨(-100001), rfl, trivial, ht9⟩) (fun q hq => by cases hq) dX11_paper_13
set_option maxHeartbeats 4000000 in
set_option maxRecDepth 100000 in
/-- X11_errors -/
theorem c_X11_errors (l : Launch) (dC : Nat → ClassId) (dI : Nat → Nat → Nat) (h : Nat) (g : Nat → Nat → Nat) (ca : Nat → Nat → ClassId) (iv : Nat → Nat → Int32) (lv : Nat → Nat → Int64) (fa : Nat → Nat → Nat → Int32) (la : Nat → Nat → Nat → Int64) (hI : IX iv fa) (a : Int32) (b : Int32) (h_b : 0 ≤ b.toInt ∧ b.toInt ≤ 1) : Met l yX11_errors (wc yX11_errors cX11_errors 8 (some .int)) ({ frames := 2, cells := 0, slots := 0, locals := 64 } : Room) (pR (dC, dI) classes (WX h g ca iv lv fa la) (TX ca) [.ref h, .int a, .int b]) (vp_Si (fun r => True)) 0 0 (fun _ => False) := by
  refine Met.ofW (cc := cX11_errors) (maxL := 8) (ret := (some .int)) (by decide) rfl ?_
  intro p e s m args below meth c s₁ B hml hv
  obtain ⟨rfl, hP, hK⟩ := hv
  have hx := B.exec
  have hb := B.bytes
  have hr := B.returns
  have ht := tb_tl (atoms_spec (ws := wc yX11_errors cX11_errors 8 (some .int)) B.pre)
  have hown : s.vm.findClass RX11 = some m.cls := findClass_of_methodNamed B.named
  have hlocks := B.notSynchronized
  have hl := lv_entry [.ref h, .int a, .int b] (n := 8) (Nat.le_of_ble_eq_true rfl)
  rw [lg_entry_eq]
  generalize (lg_sl [.ref h, .int a, .int b] ++ List.replicate (8 - (lg_sl [.ref h, .int a, .int b]).length) Slot.unset).toArray = ls at hl ⊢
  have hl : lv_has ls 8 [(0, .ref h), (1, .int a), (2, .int b)] := hl
  refine lv_iconst (v := 0) hx hb dX11_errors_0 (by decide) ?_
  refine lv_istore_n (lv' := [(3, .int 0), (0, .ref h), (1, .int a), (2, .int b)]) hx hb dX11_errors_1 rfl hl (by decide) rfl (fun ls hl => ?_)
  refine lv_iconst (v := 0) hx hb dX11_errors_2 (by decide) ?_
  refine lv_istore (lv' := [(4, .int 0), (3, .int 0), (0, .ref h), (1, .int a), (2, .int b)]) hx hb dX11_errors_3 hl (by decide) rfl (fun ls hl => ?_)
  have lp464 : ∀ (nn464 : Nat) (x463_4 : Int32) (x463_3 : Int32), 0 ≤ x463_4.toInt ∧ x463_4.toInt ≤ 60 → 60 - x463_4.toInt < (nn464 : Int) → ∀ (ls : Array Slot), lv_has ls 8 [(4, .int x463_4), (3, .int x463_3), (0, .ref h), (1, .int a), (2, .int b)] → W p l e ({ frames := 2, cells := 0, slots := 0, locals := 64 } : Room) s m ([.ref h, .int a, .int b] : List Value).toArray below meth c s.heap [] 0 0 (MQ below (vp_Si (fun r => True)) ([.ref h, .int a, .int b] : List Value).toArray s 0 0 (fun _ => False)) (F0 m 5 ls []) := by
    intro nn464
    induction nn464 with
    | zero => intro x463_4 x463_3 hx463_4 hm464; exfalso; omega
    | succ nn464 ih464 =>
      intro x463_4 x463_3 hx463_4 hm464 ls hl
      refine lv_iload hx hb dX11_errors_5 (lv_at hl 0 rfl) ?_
      refine lv_aload_n hx hb dX11_errors_7 rfl (lv_at hl 2 rfl) ?_
      refine gX_11_0 hx hb ht hown hK hP m_415 dX11_errors_8 ?_
      have i_10_1 : 0 ≤ (iv 10 1).toInt ∧ (iv 10 1).toInt ≤ 60 := hI.1 10 1
      refine gX_10_1 hx hb ht hown hK hP m_114 (v := (iv 10 1)) rfl dX11_errors_11 ?_
      refine lv_icmp_ge (tgt := 124) hx hb dX11_errors_14 (by decide) (fun c465 => ?_) (fun c465 => ?_)
      · have fc465 := z_le (rfl : ((iv 10 1)).toInt = _) (rfl : (x463_4).toInt = _) c465
        refine lv_iload_n hx hb dX11_errors_124 rfl (lv_at hl 1 rfl) ?_
        exact W.iret (v := x463_3) hx hb hr (fun t ht9 hW => ⟨x463_3, rfl, trivial, ht9⟩) (fun q hq => by cases hq) dX11_errors_125
      · have fc465 := z_nle (rfl : ((iv 10 1)).toInt = _) (rfl : (x463_4).toInt = _) c465
        refine lv_aload_n hx hb dX11_errors_17 rfl (lv_at hl 2 rfl) ?_
        refine gX_11_0 hx hb ht hown hK hP m_415 dX11_errors_18 ?_
        refine lv_iload hx hb dX11_errors_21 (lv_at hl 0 rfl) ?_
        refine lv_iload_n hx hb dX11_errors_23 rfl (lv_at hl 3 rfl) ?_
        refine lv_iconst (v := 0) hx hb dX11_errors_24 (by decide) ?_
        refine vp_callSi (W.runV (As := [.int x463_4, .int a, .int 0]) (rest := []) ⟨hx, hb, hml, hown, ht⟩ (c_X10_isOf l dC dI h g ca iv lv fa la hI x463_4 a 0 ⟨by omega, by omega⟩) (kV 3 ht m_862 m_482 m_483 m_78 m_484 rfl rfl hd_X10_isOf_v ⟨Nat.le_of_ble_eq_true rfl, Nat.le_of_ble_eq_true rfl⟩) (vR hP hK (rX_10 hK hP)) rfl rfl hl.1 rfl (lv_room (Nat.le_of_ble_eq_true rfl)) dX11_errors_25 ⟨Nat.le_of_ble_eq_true rfl, Nat.le_of_ble_eq_true rfl⟩) (fun r466 hr466 => ?_)
        refine lv_if_eq (tgt := 118) hx hb dX11_errors_28 (by decide) (fun c467 => ?_) (fun c467 => ?_)
        · have fc467 := z_eq (rfl : (r466).toInt = _) (by decide : (0 : Int32).toInt = 0) c467
          obtain ⟨v468, ev468⟩ : ∃ y : Int32, y = x463_4 + 1 := ⟨_, rfl⟩
          have tv468 := z_add ev468 rfl (by decide : (1 : Int32).toInt = 1) (by omega) (by omega)
          refine lv_iinc (v := v468) (lv' := [(4, .int v468), (3, .int x463_3), (0, .ref h), (1, .int a), (2, .int b)]) hx hb dX11_errors_118 hl (k := 0) rfl (by rw [ev468]; rfl) (by decide) rfl (fun ls hl => ?_)
          refine lv_goto (tgt := 5) hx hb dX11_errors_121 (by decide) ?_
          exact ih464 v468 x463_3 ⟨by omega, by omega⟩ (by omega) ls (lv_sub hl [0, 1, 2, 3, 4] rfl)
        · have fc467 := z_ne (rfl : (r466).toInt = _) (by decide : (0 : Int32).toInt = 0) c467
          refine lv_aload_n hx hb dX11_errors_31 rfl (lv_at hl 2 rfl) ?_
          refine gX_11_0 hx hb ht hown hK hP m_415 dX11_errors_32 ?_
          refine lv_iload hx hb dX11_errors_35 (lv_at hl 0 rfl) ?_
          refine lv_aload_n hx hb dX11_errors_37 rfl (lv_at hl 2 rfl) ?_
          have i_11_10 : 0 ≤ (iv 11 10).toInt ∧ (iv 11 10).toInt ≤ 3000 := hI.1 11 10
          refine gX_11_10 hx hb ht hown hK hP m_425 (v := (iv 11 10)) rfl dX11_errors_38 ?_
          refine vp_callSi (W.runV (As := [.int x463_4, .int (iv 11 10)]) (rest := []) ⟨hx, hb, hml, hown, ht⟩ (c_X10_counts l dC dI h g ca iv lv fa la hI x463_4 (iv 11 10) ⟨by omega, by omega⟩) (kV 2 ht m_863 m_574 m_575 m_78 m_576 rfl rfl hd_X10_counts_v ⟨Nat.le_of_ble_eq_true rfl, Nat.le_of_ble_eq_true rfl⟩) (vR hP hK (rX_10 hK hP)) rfl rfl hl.1 rfl (lv_room (Nat.le_of_ble_eq_true rfl)) dX11_errors_41 ⟨Nat.le_of_ble_eq_true rfl, Nat.le_of_ble_eq_true rfl⟩) (fun r469 hr469 => ?_)
          refine lv_if_eq (tgt := 118) hx hb dX11_errors_44 (by decide) (fun c470 => ?_) (fun c470 => ?_)
          · have fc470 := z_eq (rfl : (r469).toInt = _) (by decide : (0 : Int32).toInt = 0) c470
            obtain ⟨v471, ev471⟩ : ∃ y : Int32, y = x463_4 + 1 := ⟨_, rfl⟩
            have tv471 := z_add ev471 rfl (by decide : (1 : Int32).toInt = 1) (by omega) (by omega)
            refine lv_iinc (v := v471) (lv' := [(4, .int v471), (3, .int x463_3), (0, .ref h), (1, .int a), (2, .int b)]) hx hb dX11_errors_118 hl (k := 0) rfl (by rw [ev471]; rfl) (by decide) rfl (fun ls hl => ?_)
            refine lv_goto (tgt := 5) hx hb dX11_errors_121 (by decide) ?_
            exact ih464 v471 x463_3 ⟨by omega, by omega⟩ (by omega) ls (lv_sub hl [0, 1, 2, 3, 4] rfl)
          · have fc470 := z_ne (rfl : (r469).toInt = _) (by decide : (0 : Int32).toInt = 0) c470
            refine lv_aload_n hx hb dX11_errors_47 rfl (lv_at hl 2 rfl) ?_
            refine gX_11_0 hx hb ht hown hK hP m_415 dX11_errors_48 ?_
            refine lv_iload hx hb dX11_errors_51 (lv_at hl 0 rfl) ?_
            refine lv_iconst (v := 2) hx hb dX11_errors_53 (by decide) ?_
            refine vp_callSi (W.runV (As := [.int x463_4, .int 2]) (rest := []) ⟨hx, hb, hml, hown, ht⟩ (c_X10_get l dC dI h g ca iv lv fa la hI x463_4 2 ⟨by omega, by omega⟩ ⟨by decide, by decide⟩) (kV 2 ht m_513 m_486 m_487 m_78 m_488 rfl rfl hd_X10_get_v ⟨Nat.le_of_ble_eq_true rfl, Nat.le_of_ble_eq_true rfl⟩) (vR hP hK (rX_10 hK hP)) rfl rfl hl.1 rfl (lv_room (Nat.le_of_ble_eq_true rfl)) dX11_errors_54 ⟨Nat.le_of_ble_eq_true rfl, Nat.le_of_ble_eq_true rfl⟩) (fun r472 hr472 => ?_)
            refine lv_istore (lv' := [(5, .int r472), (4, .int x463_4), (3, .int x463_3), (0, .ref h), (1, .int a), (2, .int b)]) hx hb dX11_errors_57 hl (by decide) rfl (fun ls hl => ?_)
            refine lv_aload_n hx hb dX11_errors_59 rfl (lv_at hl 3 rfl) ?_
            refine gX_11_0 hx hb ht hown hK hP m_415 dX11_errors_60 ?_
            refine lv_iload hx hb dX11_errors_63 (lv_at hl 1 rfl) ?_
            refine lv_bipush (v := 7) hx hb dX11_errors_65 (by decide) ?_
            refine vp_callSi (W.runV (As := [.int x463_4, .int 7]) (rest := []) ⟨hx, hb, hml, hown, ht⟩ (c_X10_get l dC dI h g ca iv lv fa la hI x463_4 7 ⟨by omega, by omega⟩ ⟨by decide, by decide⟩) (kV 2 ht m_513 m_486 m_487 m_78 m_488 rfl rfl hd_X10_get_v ⟨Nat.le_of_ble_eq_true rfl, Nat.le_of_ble_eq_true rfl⟩) (vR hP hK (rX_10 hK hP)) rfl rfl hl.1 rfl (lv_room (Nat.le_of_ble_eq_true rfl)) dX11_errors_67 ⟨Nat.le_of_ble_eq_true rfl, Nat.le_of_ble_eq_true rfl⟩) (fun r473 hr473 => ?_)
            refine lv_istore (lv' := [(6, .int r473), (5, .int r472), (4, .int x463_4), (3, .int x463_3), (0, .ref h), (1, .int a), (2, .int b)]) hx hb dX11_errors_70 hl (by decide) rfl (fun ls hl => ?_)
            refine lv_iload_n hx hb dX11_errors_72 rfl (lv_at hl 6 rfl) ?_
            refine lv_if_eq (tgt := 90) hx hb dX11_errors_73 (by decide) (fun c474 => ?_) (fun c474 => ?_)
            · have fc474 := z_eq (rfl : (b).toInt = _) (by decide : (0 : Int32).toInt = 0) c474
              refine lv_aload_n hx hb dX11_errors_90 rfl (lv_at hl 4 rfl) ?_
              refine gX_11_1 hx hb ht hown hK hP m_416 dX11_errors_91 ?_
              refine lv_iload hx hb dX11_errors_94 (lv_at hl 1 rfl) ?_
              refine lv_iload hx hb dX11_errors_96 (lv_at hl 0 rfl) ?_
              refine vp_callSi (W.runV (As := [.int r472, .int r473]) (rest := []) ⟨hx, hb, hml, hown, ht⟩ (c_X9_least l dC dI h g ca iv lv fa la hI r472 r473) (kV 2 ht m_534 m_535 m_536 m_79 m_537 rfl rfl hd_X9_least_v ⟨Nat.le_of_ble_eq_true rfl, Nat.le_of_ble_eq_true rfl⟩) (vR hP hK (rX_9 hK hP)) rfl rfl hl.1 rfl (lv_room (Nat.le_of_ble_eq_true rfl)) dX11_errors_98 ⟨Nat.le_of_ble_eq_true rfl, Nat.le_of_ble_eq_true rfl⟩) (fun r475 hr475 => ?_)
              refine lv_istore (lv' := [(7, .int r475), (6, .int r473), (5, .int r472), (4, .int x463_4), (3, .int x463_3), (0, .ref h), (1, .int a), (2, .int b)]) hx hb dX11_errors_101 hl (by decide) rfl (fun ls hl => ?_)
              refine lv_iload_n hx hb dX11_errors_103 rfl (lv_at hl 4 rfl) ?_
              refine lv_bipush (v := (-40)) hx hb dX11_errors_104 (by decide) ?_
              refine lv_bipush (v := 40) hx hb dX11_errors_106 (by decide) ?_
              refine lv_iload hx hb dX11_errors_108 (lv_at hl 0 rfl) ?_
              refine va_mmin hx hb (hml.trans hl.1.symm) hown (ht _ m_864) (ht _ m_551) (ht _ m_90) (ht _ m_552) (Nat.le_of_ble_eq_true rfl) (Nat.le_of_ble_eq_true rfl) (Nat.le_of_ble_eq_true rfl) (Nat.le_of_ble_eq_true rfl) dX11_errors_110 ?_
              refine lv_topi (fun v476 ev476 => ?_)
              have tv476 := mm_or ev476
              rw [show (40 : Int32).toInt = 40 from by decide] at tv476
              have uv476 := mm_min ev476 (by decide : (40 : Int32).toInt = 40) (rfl : (r475).toInt = _)
              refine va_mmax hx hb (hml.trans hl.1.symm) hown (ht _ m_865) (ht _ m_558) (ht _ m_90) (ht _ m_559) (Nat.le_of_ble_eq_true rfl) (Nat.le_of_ble_eq_true rfl) (Nat.le_of_ble_eq_true rfl) (Nat.le_of_ble_eq_true rfl) dX11_errors_113 ?_
              refine lv_topi (fun v477 ev477 => ?_)
              have tv477 := mm_or ev477
              rw [show ((-40) : Int32).toInt = (-40) from by decide] at tv477
              have uv477 := mm_max ev477 (by decide : ((-40) : Int32).toInt = (-40)) (rfl : (v476).toInt = _)
              refine lv_iadd hx hb dX11_errors_116 ?_
              refine lv_topi (fun v478 ev478 => ?_)
              refine lv_istore_n (lv' := [(3, .int v478), (7, .int r475), (6, .int r473), (5, .int r472), (4, .int x463_4), (0, .ref h), (1, .int a), (2, .int b)]) hx hb dX11_errors_117 rfl hl (by decide) rfl (fun ls hl => ?_)
              obtain ⟨v479, ev479⟩ : ∃ y : Int32, y = x463_4 + 1 := ⟨_, rfl⟩
              have tv479 := z_add ev479 rfl (by decide : (1 : Int32).toInt = 1) (by omega) (by omega)
              refine lv_iinc (v := v479) (lv' := [(4, .int v479), (3, .int v478), (7, .int r475), (6, .int r473), (5, .int r472), (0, .ref h), (1, .int a), (2, .int b)]) hx hb dX11_errors_118 hl (k := 4) rfl (by rw [ev479]; rfl) (by decide) rfl (fun ls hl => ?_)
              refine lv_goto (tgt := 5) hx hb dX11_errors_121 (by decide) ?_
              exact ih464 v479 v478 ⟨by omega, by omega⟩ (by omega) ls (lv_sub hl [0, 1, 5, 6, 7] rfl)
            · have fc474 := z_ne (rfl : (b).toInt = _) (by decide : (0 : Int32).toInt = 0) c474
              refine lv_aload_n hx hb dX11_errors_76 rfl (lv_at hl 4 rfl) ?_
              refine gX_11_1 hx hb ht hown hK hP m_416 dX11_errors_77 ?_
              refine lv_iload hx hb dX11_errors_80 (lv_at hl 1 rfl) ?_
              refine lv_iload hx hb dX11_errors_82 (lv_at hl 0 rfl) ?_
              refine vp_callSi (W.runV (As := [.int r472, .int r473]) (rest := []) ⟨hx, hb, hml, hown, ht⟩ (c_X9_greatest l dC dI h g ca iv lv fa la hI r472 r473) (kV 2 ht m_553 m_554 m_555 m_79 m_556 rfl rfl hd_X9_greatest_v ⟨Nat.le_of_ble_eq_true rfl, Nat.le_of_ble_eq_true rfl⟩) (vR hP hK (rX_9 hK hP)) rfl rfl hl.1 rfl (lv_room (Nat.le_of_ble_eq_true rfl)) dX11_errors_84 ⟨Nat.le_of_ble_eq_true rfl, Nat.le_of_ble_eq_true rfl⟩) (fun r480 hr480 => ?_)
              refine lv_goto (tgt := 101) hx hb dX11_errors_87 (by decide) ?_
              refine lv_istore (lv' := [(7, .int r480), (6, .int r473), (5, .int r472), (4, .int x463_4), (3, .int x463_3), (0, .ref h), (1, .int a), (2, .int b)]) hx hb dX11_errors_101 hl (by decide) rfl (fun ls hl => ?_)
              refine lv_iload_n hx hb dX11_errors_103 rfl (lv_at hl 4 rfl) ?_
              refine lv_bipush (v := (-40)) hx hb dX11_errors_104 (by decide) ?_
              refine lv_bipush (v := 40) hx hb dX11_errors_106 (by decide) ?_
              refine lv_iload hx hb dX11_errors_108 (lv_at hl 0 rfl) ?_
              refine va_mmin hx hb (hml.trans hl.1.symm) hown (ht _ m_864) (ht _ m_551) (ht _ m_90) (ht _ m_552) (Nat.le_of_ble_eq_true rfl) (Nat.le_of_ble_eq_true rfl) (Nat.le_of_ble_eq_true rfl) (Nat.le_of_ble_eq_true rfl) dX11_errors_110 ?_
              refine lv_topi (fun v481 ev481 => ?_)
              have tv481 := mm_or ev481
              rw [show (40 : Int32).toInt = 40 from by decide] at tv481
              have uv481 := mm_min ev481 (by decide : (40 : Int32).toInt = 40) (rfl : (r480).toInt = _)
              refine va_mmax hx hb (hml.trans hl.1.symm) hown (ht _ m_865) (ht _ m_558) (ht _ m_90) (ht _ m_559) (Nat.le_of_ble_eq_true rfl) (Nat.le_of_ble_eq_true rfl) (Nat.le_of_ble_eq_true rfl) (Nat.le_of_ble_eq_true rfl) dX11_errors_113 ?_
              refine lv_topi (fun v482 ev482 => ?_)
              have tv482 := mm_or ev482
              rw [show ((-40) : Int32).toInt = (-40) from by decide] at tv482
              have uv482 := mm_max ev482 (by decide : ((-40) : Int32).toInt = (-40)) (rfl : (v481).toInt = _)
              refine lv_iadd hx hb dX11_errors_116 ?_
              refine lv_topi (fun v483 ev483 => ?_)
              refine lv_istore_n (lv' := [(3, .int v483), (7, .int r480), (6, .int r473), (5, .int r472), (4, .int x463_4), (0, .ref h), (1, .int a), (2, .int b)]) hx hb dX11_errors_117 rfl hl (by decide) rfl (fun ls hl => ?_)
              obtain ⟨v484, ev484⟩ : ∃ y : Int32, y = x463_4 + 1 := ⟨_, rfl⟩
              have tv484 := z_add ev484 rfl (by decide : (1 : Int32).toInt = 1) (by omega) (by omega)
              refine lv_iinc (v := v484) (lv' := [(4, .int v484), (3, .int v483), (7, .int r480), (6, .int r473), (5, .int r472), (0, .ref h), (1, .int a), (2, .int b)]) hx hb dX11_errors_118 hl (k := 4) rfl (by rw [ev484]; rfl) (by decide) rfl (fun ls hl => ?_)
              refine lv_goto (tgt := 5) hx hb dX11_errors_121 (by decide) ?_
              exact ih464 v484 v483 ⟨by omega, by omega⟩ (by omega) ls (lv_sub hl [0, 1, 5, 6, 7] rfl)
  exact lp464 61 0 0 ⟨by decide, by decide⟩ (by first | decide | omega) ls (lv_sub hl [0, 1, 2, 3, 4] rfl)
set_option maxHeartbeats 4000000 in
set_option maxRecDepth 100000 in
/-- X11_named -/
theorem c_X11_named (l : Launch) (dC : Nat → ClassId) (dI : Nat → Nat → Nat) (sz : Nat) (h : Nat) (g : Nat → Nat → Nat) (ca : Nat → Nat → ClassId) (iv : Nat → Nat → Int32) (lv : Nat → Nat → Int64) (fa : Nat → Nat → Nat → Int32) (la : Nat → Nat → Nat → Int64) (hI : IX iv fa) (a : Int32) (b : Int32) : Met l yX11_named (wc yX11_named cX11_named 3 (some .int)) ({ frames := 4, cells := 0, slots := 0, locals := 94 } : Room) (pW (dC, dI) classes (WX h g ca iv lv fa la) (TX ca) sz [.ref h, .int a, .int b]) (va_Qi (fun r (u : SS) => ∃ (na_1_6 : Nat → Int32), (∀ j, inb (bA 1 6 j) (na_1_6 j)) ∧ ((-100002) ≤ r.toInt ∧ r.toInt ≤ 767) ∧ u = (iv, lv, (u2 fa 1 6 na_1_6), la)) (bX (dC, dI) h g ca (va_A (WX h g ca iv lv fa la) sz)) (va_A (WX h g ca iv lv fa la) sz)) 0 0 (va_A (WX h g ca iv lv fa la) sz) := by
  refine Met.ofW (cc := cX11_named) (maxL := 3) (ret := (some .int)) (by decide) rfl ?_
  intro p e s m args below meth c s₁ B hml hv
  obtain ⟨rfl, hsz, hP, hK, hD0⟩ := hv
  have hx := B.exec
  have hb := B.bytes
  have hr := B.returns
  have ht := tb_tl (atoms_spec (ws := wc yX11_named cX11_named 3 (some .int)) B.pre)
  have hown : s.vm.findClass RX11 = some m.cls := findClass_of_methodNamed B.named
  have hlocks := B.notSynchronized
  subst hsz
  have hD := hD0.self (sz := s.heap.size)
  generalize hAe : va_A (WX h g ca iv lv fa la) s.heap.size = A at hD ⊢
  have hA : ∀ q : Nat, s.heap.size ≤ q → A q := fun q h => by rw [← hAe]; exact Or.inr h
  have hS : va_S A s.heap s.heap [] := va_S.rf
  have hl := lv_entry [.ref h, .int a, .int b] (n := 3) (Nat.le_of_ble_eq_true rfl)
  rw [lg_entry_eq]
  generalize (lg_sl [.ref h, .int a, .int b] ++ List.replicate (3 - (lg_sl [.ref h, .int a, .int b]).length) Slot.unset).toArray = ls at hl ⊢
  have hl : lv_has ls 3 [(0, .ref h), (1, .int a), (2, .int b)] := hl
  refine lv_aload_n hx hb dX11_named_0 rfl (lv_at hl 0 rfl) ?_
  refine gX_11_2 hx hb ht hown hK hP m_417 dX11_named_1 ?_
  refine lv_iload_n hx hb dX11_named_4 rfl (lv_at hl 1 rfl) ?_
  refine vp_callSi (W.runV (As := [.int a]) (rest := []) ⟨hx, hb, hml, hown, ht⟩ (c_X0_has l dC dI h g ca iv lv fa la hI a) (kV 1 ht m_472 m_473 m_474 m_80 m_475 rfl rfl hd_X0_has_v ⟨Nat.le_of_ble_eq_true rfl, Nat.le_of_ble_eq_true rfl⟩) (vR hP hK (rX_0 hK hP)) rfl rfl hl.1 rfl (lv_room (Nat.le_of_ble_eq_true rfl)) dX11_named_5 ⟨Nat.le_of_ble_eq_true rfl, Nat.le_of_ble_eq_true rfl⟩) (fun r1 hr1 => ?_)
  rcases hr1 with ⟨rfl, fr1⟩ | ⟨rfl, fr1⟩
  · skip
    have i_0_7 : 0 ≤ (iv 0 7).toInt ∧ (iv 0 7).toInt ≤ 10 := hI.1 0 7
    have fr1 : (0 ≤ (a : Int32).toInt ∧ (a : Int32).toInt < ((iv 0 7) : Int32).toInt) := fr1
    refine lv_if_ne (tgt := 14) hx hb dX11_named_8 (by decide) (fun c2 => ?_) (fun c2 => ?_)
    · skip
      refine lv_iload_n hx hb dX11_named_14 rfl (lv_at hl 2 rfl) ?_
      refine lv_iconst (v := 0) hx hb dX11_named_15 (by decide) ?_
      refine lv_sipush (v := 3000) hx hb dX11_named_16 (by decide) ?_
      refine vp_callSi (W.runS (As := [.int b, .int 0, .int 3000]) (rest := []) ⟨hx, hb, hml, hown, ht⟩ (c_X11_within l dC dI b 0 3000 (b.toInt) (0) (3000) (rfl : (b).toInt = _) (by decide : (0 : Int32).toInt = 0) (by decide : (3000 : Int32).toInt = 3000)) (kS 3 ht m_453 m_454 m_77 m_455 rfl rfl hd_X11_within_v ⟨Nat.le_of_ble_eq_true rfl, Nat.le_of_ble_eq_true rfl⟩) (sR noP (hK.sub (tys' := []) [] rfl)) rfl rfl hl.1 rfl (lv_room (Nat.le_of_ble_eq_true rfl)) dX11_named_19 ⟨Nat.le_of_ble_eq_true rfl, Nat.le_of_ble_eq_true rfl⟩) (fun r3 hr3 => ?_)
      rcases hr3 with ⟨rfl, fr3⟩ | ⟨rfl, fr3⟩
      · skip
        refine lv_if_ne (tgt := 28) hx hb dX11_named_22 (by decide) (fun c4 => ?_) (fun c4 => ?_)
        · skip
          refine lv_aload_n hx hb dX11_named_28 rfl (lv_at hl 0 rfl) ?_
          refine gX_11_2 hx hb ht hown hK hP m_417 dX11_named_29 ?_
          refine gX_0_1 hx hb ht hown hK hP m_155 dX11_named_32 ?_
          refine lv_iload_n hx hb dX11_named_35 rfl (lv_at hl 1 rfl) ?_
          refine lX_0_1 hx hb hK hP (f := (fa 0 1)) rfl (vp_in_iff.mpr ⟨by omega, by omega⟩) dX11_named_36 ?_
          refine lv_topi (fun v5 ev5 => ?_)
          have tv5 : 0 ≤ v5.toInt ∧ v5.toInt ≤ 12 := by rw [ev5]; exact hI.2 0 1 _
          refine lv_if_ne (tgt := 42) hx hb dX11_named_37 (by decide) (fun c6 => ?_) (fun c6 => ?_)
          · have fc6 := z_ne (rfl : (v5).toInt = _) (by decide : (0 : Int32).toInt = 0) c6
            refine lv_aload_n hx hb dX11_named_42 rfl (lv_at hl 0 rfl) ?_
            refine gX_11_3 hx hb ht hown hK hP m_418 dX11_named_43 ?_
            refine lv_aload_n hx hb dX11_named_46 rfl (lv_at hl 0 rfl) ?_
            refine gX_11_2 hx hb ht hown hK hP m_417 dX11_named_47 ?_
            refine lv_iload_n hx hb dX11_named_50 rfl (lv_at hl 1 rfl) ?_
            refine vp_callSi (W.runV (As := [.int a]) (rest := [.ref (g 11 3)]) ⟨hx, hb, hml, hown, ht⟩ (c_X0_allSizes l dC dI h g ca iv lv fa la hI a ⟨by omega, by omega⟩) (kV 1 ht m_953 m_954 m_955 m_80 m_956 rfl rfl hd_X0_allSizes_v ⟨Nat.le_of_ble_eq_true rfl, Nat.le_of_ble_eq_true rfl⟩) (vR hP hK (rX_0 hK hP)) rfl rfl hl.1 rfl (lv_room (Nat.le_of_ble_eq_true rfl)) dX11_named_51 ⟨Nat.le_of_ble_eq_true rfl, Nat.le_of_ble_eq_true rfl⟩) (fun r7 hr7 => ?_)
            refine lv_aload_n hx hb dX11_named_54 rfl (lv_at hl 0 rfl) ?_
            refine gX_11_2 hx hb ht hown hK hP m_417 dX11_named_55 ?_
            refine gX_0_1 hx hb ht hown hK hP m_155 dX11_named_58 ?_
            refine lv_iload_n hx hb dX11_named_61 rfl (lv_at hl 1 rfl) ?_
            refine lX_0_1 hx hb hK hP (f := (fa 0 1)) rfl (vp_in_iff.mpr ⟨by omega, by omega⟩) dX11_named_62 ?_
            refine lv_topi (fun v8 ev8 => ?_)
            obtain rfl : v5 = v8 := ev5.trans ev8.symm
            refine lv_iload_n hx hb dX11_named_63 rfl (lv_at hl 2 rfl) ?_
            have hFc := free_all hD hS hA
            refine va_calli (va_runV (As := [.int r7, .int v5, .int b]) (rest := []) ⟨hx, hb, hml, hown, ht⟩ (c_X1_naming l dC dI s.heap.size h g ca iv lv fa la hI r7 v5 b) (kV 3 ht m_965 m_966 m_967 m_81 m_968 rfl rfl hd_X1_naming_v ⟨Nat.le_of_ble_eq_true rfl, Nat.le_of_ble_eq_true rfl⟩) (vW hP hK hD (rX_1 hK hP)) rfl rfl hl.1 rfl (lv_room (Nat.le_of_ble_eq_true rfl)) dX11_named_64 ⟨Nat.le_of_ble_eq_true rfl, Nat.le_of_ble_eq_true rfl⟩) hS (fun q _ h => hFc q h) hFc (fun r9 u t H1 locs ht9 hvm hr9 hB hz1 hk1 hS => ?_)
            obtain ⟨n10, hn10, hr9, rfl⟩ := hr9
            obtain ⟨hP, hD⟩ := hB
            rw [ht9] at hP
            generalize H1 = H at hP hS ⊢
            have hP : va_P (dC, dI) classes (WX h g ca iv lv (u2 fa 1 6 n10) la) H := hP
            have hD : va_D A (WX h g ca iv lv (u2 fa 1 6 n10) la) := (show va_D _ (WX h g ca iv lv (u2 fa 1 6 n10) la) from hD).weaken (fun _ _ _ h => hFc _ h)
            have hP9 : va_P (dC, dI) classes (WX h g ca iv lv (u2 fa 1 6 n10) la) H := hP
            have hD9 : va_D A (WX h g ca iv lv (u2 fa 1 6 n10) la) := hD
            exact W.iret (v := r9) hx hb hr (fun t ht9 hW => ⟨⟨r9, (iv, lv, (u2 fa 1 6 n10), la), rfl, ⟨n10, hn10, ⟨by omega, by omega⟩, rfl⟩, by rw [ht9]; exact hP9, hD9⟩, hS.F ht9⟩) hS.2.2 dX11_named_67
          · have fc6 := z_eq (rfl : (v5).toInt = _) (by decide : (0 : Int32).toInt = 0) c6
            refine lv_iconst (v := (-1)) hx hb dX11_named_40 (by decide) ?_
            have hP9 : va_P (dC, dI) classes (WX h g ca iv lv (u2 fa 1 6 (fa 1 6)) la) s.heap := hP
            have hD9 : va_D A (WX h g ca iv lv (u2 fa 1 6 (fa 1 6)) la) := hD
            exact W.iret (v := (-1)) hx hb hr (fun t ht9 hW => ⟨⟨(-1), (iv, lv, (u2 fa 1 6 (fa 1 6)), la), rfl, ⟨(fa 1 6), (hI.2 1 6), ⟨by decide, by decide⟩, rfl⟩, by rw [ht9]; exact hP9, hD9⟩, hS.F ht9⟩) hS.2.2 dX11_named_41
        · exact absurd c4 (by decide)
      · skip
        refine lv_if_ne (tgt := 28) hx hb dX11_named_22 (by decide) (fun c11 => ?_) (fun c11 => ?_)
        · exact absurd rfl c11
        · skip
          refine lv_ldc hx hb hown (ht _ m_456) dX11_named_25 ?_
          have hP9 : va_P (dC, dI) classes (WX h g ca iv lv (u2 fa 1 6 (fa 1 6)) la) s.heap := hP
          have hD9 : va_D A (WX h g ca iv lv (u2 fa 1 6 (fa 1 6)) la) := hD
          exact W.iret (v := (-100002)) hx hb hr (fun t ht9 hW => ⟨⟨(-100002), (iv, lv, (u2 fa 1 6 (fa 1 6)), la), rfl, ⟨(fa 1 6), (hI.2 1 6), ⟨by decide, by decide⟩, rfl⟩, by rw [ht9]; exact hP9, hD9⟩, hS.F ht9⟩) hS.2.2 dX11_named_27
    · exact absurd c2 (by decide)
  · skip
    have i_0_7 : 0 ≤ (iv 0 7).toInt ∧ (iv 0 7).toInt ≤ 10 := hI.1 0 7
    have fr1 : ¬ (0 ≤ (a : Int32).toInt ∧ (a : Int32).toInt < ((iv 0 7) : Int32).toInt) := fr1
    refine lv_if_ne (tgt := 14) hx hb dX11_named_8 (by decide) (fun c12 => ?_) (fun c12 => ?_)
    · exact absurd rfl c12
    · skip
      refine lv_ldc hx hb hown (ht _ m_476) dX11_named_11 ?_
      have hP9 : va_P (dC, dI) classes (WX h g ca iv lv (u2 fa 1 6 (fa 1 6)) la) s.heap := hP
      have hD9 : va_D A (WX h g ca iv lv (u2 fa 1 6 (fa 1 6)) la) := hD
      exact W.iret (v := (-100001)) hx hb hr (fun t ht9 hW => ⟨⟨(-100001), (iv, lv, (u2 fa 1 6 (fa 1 6)), la), rfl, ⟨(fa 1 6), (hI.2 1 6), ⟨by decide, by decide⟩, rfl⟩, by rw [ht9]; exact hP9, hD9⟩, hS.F ht9⟩) hS.2.2 dX11_named_13
/-! ===== h10 ===== -/
theorem m_821 : Cond.methodLink RX11 210 yX1_has ∈ tb := mb_4_0 _ (List.mem_of_getElem? (i := 23) rfl)
theorem m_822 : Cond.instanceMethod yX1_has ∈ tb := mb_4_1 _ (List.mem_of_getElem? (i := 0) rfl)
theorem m_823 : Cond.selects RX1 yX1_has yX1_has ∈ tb := mb_4_1 _ (List.mem_of_getElem? (i := 1) rfl)
theorem m_824 : Cond.code yX1_has cX1_has 2 (some .boolean) ∈ tb := mb_4_1 _ (List.mem_of_getElem? (i := 2) rfl)
theorem m_825 : Cond.methodLink RX11 211 yX1_letterOf ∈ tb := mb_4_1 _ (List.mem_of_getElem? (i := 3) rfl)
theorem m_826 : Cond.instanceMethod yX1_letterOf ∈ tb := mb_4_1 _ (List.mem_of_getElem? (i := 4) rfl)
theorem m_827 : Cond.selects RX1 yX1_letterOf yX1_letterOf ∈ tb := mb_4_1 _ (List.mem_of_getElem? (i := 5) rfl)
theorem m_828 : Cond.code yX1_letterOf cX1_letterOf 5 (some .int) ∈ tb := mb_4_1 _ (List.mem_of_getElem? (i := 6) rfl)
theorem m_1087 : Cond.methodLink RX11 339 yX6_write ∈ tb := mb_5_2 _ (List.mem_of_getElem? (i := 0) rfl)
theorem m_1088 : Cond.instanceMethod yX6_write ∈ tb := mb_5_2 _ (List.mem_of_getElem? (i := 1) rfl)
theorem m_1089 : Cond.selects RX6 yX6_write yX6_write ∈ tb := mb_5_2 _ (List.mem_of_getElem? (i := 2) rfl)
theorem m_1090 : Cond.code yX6_write cX6_write 7 (some .int) ∈ tb := mb_5_2 _ (List.mem_of_getElem? (i := 3) rfl)
theorem hd_X1_has_v : yX1_has.cls = RX1 ∧ yX1_has.cls ≠ "java/lang/invoke/MethodHandle" ∧ yX1_has.cls ≠ "java/lang/invoke/VarHandle" ∧ (parseMethodDescriptor yX1_has.desc).map (fun d => d.parameters.length) = some 1 := by decide +kernel
theorem hd_X1_letterOf_v : yX1_letterOf.cls = RX1 ∧ yX1_letterOf.cls ≠ "java/lang/invoke/MethodHandle" ∧ yX1_letterOf.cls ≠ "java/lang/invoke/VarHandle" ∧ (parseMethodDescriptor yX1_letterOf.desc).map (fun d => d.parameters.length) = some 2 := by decide +kernel
theorem hd_X6_write_v : yX6_write.cls = RX6 ∧ yX6_write.cls ≠ "java/lang/invoke/MethodHandle" ∧ yX6_write.cls ≠ "java/lang/invoke/VarHandle" ∧ (parseMethodDescriptor yX6_write.desc).map (fun d => d.parameters.length) = some 5 := by decide +kernel
set_option maxRecDepth 100000 in
theorem dvX11_bill_11 : ([(11, .ldc 108, 2), (13, .ireturn, 1), (25, .ldc 93, 2), (27, .ireturn, 1), (64, .ldc 99, 2), (66, .ireturn, 1), (100, .ireturn, 1)] : List (Nat × Instr × Nat)).all (fun q => decide (decode cX11_bill q.1 = .ok (q.2.1, q.2.2))) = true := by decide +kernel
theorem dX11_bill_11 : decode cX11_bill 11 = .ok (.ldc 108, 2) := all_at dvX11_bill_11 0 rfl
theorem dX11_bill_13 : decode cX11_bill 13 = .ok (.ireturn, 1) := all_at dvX11_bill_11 1 rfl
theorem dX11_bill_25 : decode cX11_bill 25 = .ok (.ldc 93, 2) := all_at dvX11_bill_11 2 rfl
theorem dX11_bill_27 : decode cX11_bill 27 = .ok (.ireturn, 1) := all_at dvX11_bill_11 3 rfl
theorem dX11_bill_64 : decode cX11_bill 64 = .ok (.ldc 99, 2) := all_at dvX11_bill_11 4 rfl
theorem dX11_bill_66 : decode cX11_bill 66 = .ok (.ireturn, 1) := all_at dvX11_bill_11 5 rfl
theorem dX11_bill_100 : decode cX11_bill 100 = .ok (.ireturn, 1) := all_at dvX11_bill_11 6 rfl
set_option maxRecDepth 100000 in
theorem dvX11_cut_11 : ([(11, .ldc 108, 2), (13, .ireturn, 1), (93, .ldc 99, 2), (95, .ireturn, 1), (132, .istore 4, 2), (134, .aload_n 0, 1), (135, .getfield 81, 3), (138, .iconst 0, 1), (139, .aload_n 0, 1), (140, .getfield 81, 3), (143, .getfield 347, 3), (146, .iload_n 1, 1), (147, .iaload, 1), (148, .iload_n 3, 1), (149, .iload_n 1, 1), (150, .aload_n 0, 1), (151, .getfield 85, 3), (154, .invokevirtual 339, 3), (157, .pop, 1), (158, .iload 4, 2), (160, .ireturn, 1)] : List (Nat × Instr × Nat)).all (fun q => decide (decode cX11_cut q.1 = .ok (q.2.1, q.2.2))) = true := by decide +kernel
theorem dX11_cut_11 : decode cX11_cut 11 = .ok (.ldc 108, 2) := all_at dvX11_cut_11 0 rfl
theorem dX11_cut_13 : decode cX11_cut 13 = .ok (.ireturn, 1) := all_at dvX11_cut_11 1 rfl
theorem dX11_cut_93 : decode cX11_cut 93 = .ok (.ldc 99, 2) := all_at dvX11_cut_11 2 rfl
theorem dX11_cut_95 : decode cX11_cut 95 = .ok (.ireturn, 1) := all_at dvX11_cut_11 3 rfl
theorem dX11_cut_132 : decode cX11_cut 132 = .ok (.istore 4, 2) := all_at dvX11_cut_11 4 rfl
theorem dX11_cut_134 : decode cX11_cut 134 = .ok (.aload_n 0, 1) := all_at dvX11_cut_11 5 rfl
theorem dX11_cut_135 : decode cX11_cut 135 = .ok (.getfield 81, 3) := all_at dvX11_cut_11 6 rfl
theorem dX11_cut_138 : decode cX11_cut 138 = .ok (.iconst 0, 1) := all_at dvX11_cut_11 7 rfl
theorem dX11_cut_139 : decode cX11_cut 139 = .ok (.aload_n 0, 1) := all_at dvX11_cut_11 8 rfl
theorem dX11_cut_140 : decode cX11_cut 140 = .ok (.getfield 81, 3) := all_at dvX11_cut_11 9 rfl
theorem dX11_cut_143 : decode cX11_cut 143 = .ok (.getfield 347, 3) := all_at dvX11_cut_11 10 rfl
theorem dX11_cut_146 : decode cX11_cut 146 = .ok (.iload_n 1, 1) := all_at dvX11_cut_11 11 rfl
theorem dX11_cut_147 : decode cX11_cut 147 = .ok (.iaload, 1) := all_at dvX11_cut_11 12 rfl
theorem dX11_cut_148 : decode cX11_cut 148 = .ok (.iload_n 3, 1) := all_at dvX11_cut_11 13 rfl
theorem dX11_cut_149 : decode cX11_cut 149 = .ok (.iload_n 1, 1) := all_at dvX11_cut_11 14 rfl
theorem dX11_cut_150 : decode cX11_cut 150 = .ok (.aload_n 0, 1) := all_at dvX11_cut_11 15 rfl
theorem dX11_cut_151 : decode cX11_cut 151 = .ok (.getfield 85, 3) := all_at dvX11_cut_11 16 rfl
theorem dX11_cut_154 : decode cX11_cut 154 = .ok (.invokevirtual 339, 3) := all_at dvX11_cut_11 17 rfl
theorem dX11_cut_157 : decode cX11_cut 157 = .ok (.pop, 1) := all_at dvX11_cut_11 18 rfl
theorem dX11_cut_158 : decode cX11_cut 158 = .ok (.iload 4, 2) := all_at dvX11_cut_11 19 rfl
theorem dX11_cut_160 : decode cX11_cut 160 = .ok (.ireturn, 1) := all_at dvX11_cut_11 20 rfl
set_option maxRecDepth 100000 in
theorem dvX11_letter_0 : ([(0, .aload_n 0, 1), (1, .getfield 33, 3), (4, .iload_n 1, 1), (5, .invokevirtual 210, 3), (8, .ifCond .eq 15, 3), (11, .aload_n 0, 1), (12, .getfield 33, 3), (15, .iload_n 1, 1), (16, .iload_n 2, 1), (17, .invokevirtual 211, 3), (20, .goto 5, 3), (23, .ldc 108, 2), (25, .ireturn, 1)] : List (Nat × Instr × Nat)).all (fun q => decide (decode cX11_letter q.1 = .ok (q.2.1, q.2.2))) = true := by decide +kernel
theorem dX11_letter_0 : decode cX11_letter 0 = .ok (.aload_n 0, 1) := all_at dvX11_letter_0 0 rfl
theorem dX11_letter_1 : decode cX11_letter 1 = .ok (.getfield 33, 3) := all_at dvX11_letter_0 1 rfl
theorem dX11_letter_4 : decode cX11_letter 4 = .ok (.iload_n 1, 1) := all_at dvX11_letter_0 2 rfl
theorem dX11_letter_5 : decode cX11_letter 5 = .ok (.invokevirtual 210, 3) := all_at dvX11_letter_0 3 rfl
theorem dX11_letter_8 : decode cX11_letter 8 = .ok (.ifCond .eq 15, 3) := all_at dvX11_letter_0 4 rfl
theorem dX11_letter_11 : decode cX11_letter 11 = .ok (.aload_n 0, 1) := all_at dvX11_letter_0 5 rfl
theorem dX11_letter_12 : decode cX11_letter 12 = .ok (.getfield 33, 3) := all_at dvX11_letter_0 6 rfl
theorem dX11_letter_15 : decode cX11_letter 15 = .ok (.iload_n 1, 1) := all_at dvX11_letter_0 7 rfl
theorem dX11_letter_16 : decode cX11_letter 16 = .ok (.iload_n 2, 1) := all_at dvX11_letter_0 8 rfl
theorem dX11_letter_17 : decode cX11_letter 17 = .ok (.invokevirtual 211, 3) := all_at dvX11_letter_0 9 rfl
theorem dX11_letter_20 : decode cX11_letter 20 = .ok (.goto 5, 3) := all_at dvX11_letter_0 10 rfl
theorem dX11_letter_23 : decode cX11_letter 23 = .ok (.ldc 108, 2) := all_at dvX11_letter_0 11 rfl
theorem dX11_letter_25 : decode cX11_letter 25 = .ok (.ireturn, 1) := all_at dvX11_letter_0 12 rfl
set_option maxRecDepth 100000 in
theorem dvX1_has_0 : ([(0, .iload_n 1, 1), (1, .ifCond .lt 34, 3), (4, .iload_n 1, 1), (5, .bipush 100, 2), (7, .idiv, 1), (8, .aload_n 0, 1), (9, .getfield 35, 3), (12, .if_icmp .ge 23, 3), (15, .iload_n 1, 1), (16, .bipush 100, 2), (18, .irem, 1), (19, .aload_n 0, 1), (20, .getfield 15, 3), (23, .iload_n 1, 1), (24, .bipush 100, 2), (26, .idiv, 1), (27, .iaload, 1), (28, .if_icmp .ge 7, 3), (31, .iconst 1, 1), (32, .goto 4, 3), (35, .iconst 0, 1), (36, .ireturn, 1)] : List (Nat × Instr × Nat)).all (fun q => decide (decode cX1_has q.1 = .ok (q.2.1, q.2.2))) = true := by decide +kernel
theorem dX1_has_0 : decode cX1_has 0 = .ok (.iload_n 1, 1) := all_at dvX1_has_0 0 rfl
theorem dX1_has_1 : decode cX1_has 1 = .ok (.ifCond .lt 34, 3) := all_at dvX1_has_0 1 rfl
theorem dX1_has_4 : decode cX1_has 4 = .ok (.iload_n 1, 1) := all_at dvX1_has_0 2 rfl
theorem dX1_has_5 : decode cX1_has 5 = .ok (.bipush 100, 2) := all_at dvX1_has_0 3 rfl
theorem dX1_has_7 : decode cX1_has 7 = .ok (.idiv, 1) := all_at dvX1_has_0 4 rfl
theorem dX1_has_8 : decode cX1_has 8 = .ok (.aload_n 0, 1) := all_at dvX1_has_0 5 rfl
theorem dX1_has_9 : decode cX1_has 9 = .ok (.getfield 35, 3) := all_at dvX1_has_0 6 rfl
theorem dX1_has_12 : decode cX1_has 12 = .ok (.if_icmp .ge 23, 3) := all_at dvX1_has_0 7 rfl
theorem dX1_has_15 : decode cX1_has 15 = .ok (.iload_n 1, 1) := all_at dvX1_has_0 8 rfl
theorem dX1_has_16 : decode cX1_has 16 = .ok (.bipush 100, 2) := all_at dvX1_has_0 9 rfl
theorem dX1_has_18 : decode cX1_has 18 = .ok (.irem, 1) := all_at dvX1_has_0 10 rfl
theorem dX1_has_19 : decode cX1_has 19 = .ok (.aload_n 0, 1) := all_at dvX1_has_0 11 rfl
theorem dX1_has_20 : decode cX1_has 20 = .ok (.getfield 15, 3) := all_at dvX1_has_0 12 rfl
theorem dX1_has_23 : decode cX1_has 23 = .ok (.iload_n 1, 1) := all_at dvX1_has_0 13 rfl
theorem dX1_has_24 : decode cX1_has 24 = .ok (.bipush 100, 2) := all_at dvX1_has_0 14 rfl
theorem dX1_has_26 : decode cX1_has 26 = .ok (.idiv, 1) := all_at dvX1_has_0 15 rfl
theorem dX1_has_27 : decode cX1_has 27 = .ok (.iaload, 1) := all_at dvX1_has_0 16 rfl
theorem dX1_has_28 : decode cX1_has 28 = .ok (.if_icmp .ge 7, 3) := all_at dvX1_has_0 17 rfl
theorem dX1_has_31 : decode cX1_has 31 = .ok (.iconst 1, 1) := all_at dvX1_has_0 18 rfl
theorem dX1_has_32 : decode cX1_has 32 = .ok (.goto 4, 3) := all_at dvX1_has_0 19 rfl
theorem dX1_has_35 : decode cX1_has 35 = .ok (.iconst 0, 1) := all_at dvX1_has_0 20 rfl
theorem dX1_has_36 : decode cX1_has 36 = .ok (.ireturn, 1) := all_at dvX1_has_0 21 rfl
set_option maxRecDepth 100000 in
theorem dvX1_letterOf_0 : ([(0, .iload_n 1, 1), (1, .bipush 100, 2), (3, .idiv, 1), (4, .bipush 12, 2), (6, .imul, 1), (7, .iload_n 1, 1), (8, .bipush 100, 2), (10, .irem, 1), (11, .iadd, 1), (12, .istore_n 3, 1), (13, .aload_n 0, 1), (14, .getfield 18, 3), (17, .iload_n 3, 1), (18, .iaload, 1), (19, .bipush 6, 2), (21, .if_icmp .ne 13, 3), (24, .iload_n 2, 1), (25, .ifCond .lt 9, 3), (28, .iload_n 2, 1), (29, .bipush 8, 2), (31, .if_icmp .lt 5, 3), (34, .iconst (-1), 1), (35, .ireturn, 1), (36, .aload_n 0, 1)] : List (Nat × Instr × Nat)).all (fun q => decide (decode cX1_letterOf q.1 = .ok (q.2.1, q.2.2))) = true := by decide +kernel
theorem dX1_letterOf_0 : decode cX1_letterOf 0 = .ok (.iload_n 1, 1) := all_at dvX1_letterOf_0 0 rfl
theorem dX1_letterOf_1 : decode cX1_letterOf 1 = .ok (.bipush 100, 2) := all_at dvX1_letterOf_0 1 rfl
theorem dX1_letterOf_3 : decode cX1_letterOf 3 = .ok (.idiv, 1) := all_at dvX1_letterOf_0 2 rfl
theorem dX1_letterOf_4 : decode cX1_letterOf 4 = .ok (.bipush 12, 2) := all_at dvX1_letterOf_0 3 rfl
theorem dX1_letterOf_6 : decode cX1_letterOf 6 = .ok (.imul, 1) := all_at dvX1_letterOf_0 4 rfl
theorem dX1_letterOf_7 : decode cX1_letterOf 7 = .ok (.iload_n 1, 1) := all_at dvX1_letterOf_0 5 rfl
theorem dX1_letterOf_8 : decode cX1_letterOf 8 = .ok (.bipush 100, 2) := all_at dvX1_letterOf_0 6 rfl
theorem dX1_letterOf_10 : decode cX1_letterOf 10 = .ok (.irem, 1) := all_at dvX1_letterOf_0 7 rfl
theorem dX1_letterOf_11 : decode cX1_letterOf 11 = .ok (.iadd, 1) := all_at dvX1_letterOf_0 8 rfl
theorem dX1_letterOf_12 : decode cX1_letterOf 12 = .ok (.istore_n 3, 1) := all_at dvX1_letterOf_0 9 rfl
theorem dX1_letterOf_13 : decode cX1_letterOf 13 = .ok (.aload_n 0, 1) := all_at dvX1_letterOf_0 10 rfl
theorem dX1_letterOf_14 : decode cX1_letterOf 14 = .ok (.getfield 18, 3) := all_at dvX1_letterOf_0 11 rfl
theorem dX1_letterOf_17 : decode cX1_letterOf 17 = .ok (.iload_n 3, 1) := all_at dvX1_letterOf_0 12 rfl
theorem dX1_letterOf_18 : decode cX1_letterOf 18 = .ok (.iaload, 1) := all_at dvX1_letterOf_0 13 rfl
theorem dX1_letterOf_19 : decode cX1_letterOf 19 = .ok (.bipush 6, 2) := all_at dvX1_letterOf_0 14 rfl
theorem dX1_letterOf_21 : decode cX1_letterOf 21 = .ok (.if_icmp .ne 13, 3) := all_at dvX1_letterOf_0 15 rfl
theorem dX1_letterOf_24 : decode cX1_letterOf 24 = .ok (.iload_n 2, 1) := all_at dvX1_letterOf_0 16 rfl
theorem dX1_letterOf_25 : decode cX1_letterOf 25 = .ok (.ifCond .lt 9, 3) := all_at dvX1_letterOf_0 17 rfl
theorem dX1_letterOf_28 : decode cX1_letterOf 28 = .ok (.iload_n 2, 1) := all_at dvX1_letterOf_0 18 rfl
theorem dX1_letterOf_29 : decode cX1_letterOf 29 = .ok (.bipush 8, 2) := all_at dvX1_letterOf_0 19 rfl
theorem dX1_letterOf_31 : decode cX1_letterOf 31 = .ok (.if_icmp .lt 5, 3) := all_at dvX1_letterOf_0 20 rfl
theorem dX1_letterOf_34 : decode cX1_letterOf 34 = .ok (.iconst (-1), 1) := all_at dvX1_letterOf_0 21 rfl
theorem dX1_letterOf_35 : decode cX1_letterOf 35 = .ok (.ireturn, 1) := all_at dvX1_letterOf_0 22 rfl
theorem dX1_letterOf_36 : decode cX1_letterOf 36 = .ok (.aload_n 0, 1) := all_at dvX1_letterOf_0 23 rfl
set_option maxRecDepth 100000 in
theorem dvX1_letterOf_37 : ([(37, .getfield 27, 3), (40, .iload_n 3, 1), (41, .bipush 8, 2), (43, .imul, 1), (44, .iload_n 2, 1), (45, .iadd, 1), (46, .baload, 1), (47, .istore 4, 2), (49, .iload 4, 2), (51, .ifCond .ne 7, 3), (54, .iconst (-1), 1), (55, .goto 5, 3), (58, .iload 4, 2), (60, .ireturn, 1)] : List (Nat × Instr × Nat)).all (fun q => decide (decode cX1_letterOf q.1 = .ok (q.2.1, q.2.2))) = true := by decide +kernel
theorem dX1_letterOf_37 : decode cX1_letterOf 37 = .ok (.getfield 27, 3) := all_at dvX1_letterOf_37 0 rfl
theorem dX1_letterOf_40 : decode cX1_letterOf 40 = .ok (.iload_n 3, 1) := all_at dvX1_letterOf_37 1 rfl
theorem dX1_letterOf_41 : decode cX1_letterOf 41 = .ok (.bipush 8, 2) := all_at dvX1_letterOf_37 2 rfl
theorem dX1_letterOf_43 : decode cX1_letterOf 43 = .ok (.imul, 1) := all_at dvX1_letterOf_37 3 rfl
theorem dX1_letterOf_44 : decode cX1_letterOf 44 = .ok (.iload_n 2, 1) := all_at dvX1_letterOf_37 4 rfl
theorem dX1_letterOf_45 : decode cX1_letterOf 45 = .ok (.iadd, 1) := all_at dvX1_letterOf_37 5 rfl
theorem dX1_letterOf_46 : decode cX1_letterOf 46 = .ok (.baload, 1) := all_at dvX1_letterOf_37 6 rfl
theorem dX1_letterOf_47 : decode cX1_letterOf 47 = .ok (.istore 4, 2) := all_at dvX1_letterOf_37 7 rfl
theorem dX1_letterOf_49 : decode cX1_letterOf 49 = .ok (.iload 4, 2) := all_at dvX1_letterOf_37 8 rfl
theorem dX1_letterOf_51 : decode cX1_letterOf 51 = .ok (.ifCond .ne 7, 3) := all_at dvX1_letterOf_37 9 rfl
theorem dX1_letterOf_54 : decode cX1_letterOf 54 = .ok (.iconst (-1), 1) := all_at dvX1_letterOf_37 10 rfl
theorem dX1_letterOf_55 : decode cX1_letterOf 55 = .ok (.goto 5, 3) := all_at dvX1_letterOf_37 11 rfl
theorem dX1_letterOf_58 : decode cX1_letterOf 58 = .ok (.iload 4, 2) := all_at dvX1_letterOf_37 12 rfl
theorem dX1_letterOf_60 : decode cX1_letterOf 60 = .ok (.ireturn, 1) := all_at dvX1_letterOf_37 13 rfl
set_option maxHeartbeats 4000000 in
set_option maxRecDepth 100000 in
/-- X6_hasRoom -/
theorem c_X6_hasRoom_b (l : Launch) (dC : Nat → ClassId) (dI : Nat → Nat → Nat) (h : Nat) (g : Nat → Nat → Nat) (ca : Nat → Nat → ClassId) (iv : Nat → Nat → Int32) (lv : Nat → Nat → Int64) (fa : Nat → Nat → Nat → Int32) (la : Nat → Nat → Nat → Int64) (hI : IX iv fa) (a : Int32) (h_a : 0 ≤ a.toInt ∧ a.toInt ≤ 2) : Met l yX6_hasRoom (wc yX6_hasRoom cX6_hasRoom 2 (some .boolean)) ({ frames := 0, cells := 0, slots := 0, locals := 0 } : Room) (pR (dC, dI) classes (WX h g ca iv lv fa la) (TX ca) [.ref (g 11 9), .int a]) (vp_Si (fun r => (r = 1 ∧ ((iv 6 7).toInt + a.toInt ≤ 40)) ∨ (r = 0 ∧ ¬ ((iv 6 7).toInt + a.toInt ≤ 40)))) 0 0 (fun _ => False) := by
  refine Met.ofW (cc := cX6_hasRoom) (maxL := 2) (ret := (some .boolean)) (by decide) rfl ?_
  intro p e s m args below meth c s₁ B hml hv
  obtain ⟨rfl, hP, hK⟩ := hv
  have hx := B.exec
  have hb := B.bytes
  have hr := B.returns
  have ht := tb_tl (atoms_spec (ws := wc yX6_hasRoom cX6_hasRoom 2 (some .boolean)) B.pre)
  have hown : s.vm.findClass RX6 = some m.cls := findClass_of_methodNamed B.named
  have hlocks := B.notSynchronized
  have hl := lv_entry [.ref (g 11 9), .int a] (n := 2) (Nat.le_of_ble_eq_true rfl)
  rw [lg_entry_eq]
  generalize (lg_sl [.ref (g 11 9), .int a] ++ List.replicate (2 - (lg_sl [.ref (g 11 9), .int a]).length) Slot.unset).toArray = ls at hl ⊢
  have hl : lv_has ls 2 [(0, .ref (g 11 9)), (1, .int a)] := hl
  refine lv_aload_n hx hb dX6_hasRoom_0 rfl (lv_at hl 0 rfl) ?_
  have i_6_7 : 0 ≤ (iv 6 7).toInt ∧ (iv 6 7).toInt ≤ 40 := hI.1 6 7
  refine gX_6_7 hx hb ht hown hK hP m_396 (v := (iv 6 7)) rfl dX6_hasRoom_1 ?_
  refine lv_iload_n hx hb dX6_hasRoom_4 rfl (lv_at hl 1 rfl) ?_
  refine lv_iadd hx hb dX6_hasRoom_5 ?_
  refine lv_topi (fun v1 ev1 => ?_)
  have tv1 := z_add ev1 (rfl : ((iv 6 7)).toInt = _) (rfl : (a).toInt = _) (by omega) (by omega)
  refine lv_bipush (v := 40) hx hb dX6_hasRoom_6 (by decide) ?_
  refine lv_icmp_gt (tgt := 15) hx hb dX6_hasRoom_8 (by decide) (fun c2 => ?_) (fun c2 => ?_)
  · have fc2 := z_lt (by decide : (40 : Int32).toInt = 40) (rfl : (v1).toInt = _) c2
    refine lv_iconst (v := 0) hx hb dX6_hasRoom_15 (by decide) ?_
    exact W.zret (v := 0) hx hb hr rfl (fun t ht9 hW => ⟨0, rfl, Or.inr ⟨rfl, by omega⟩, ht9⟩) (fun q hq => by cases hq) dX6_hasRoom_16
  · have fc2 := z_nlt (by decide : (40 : Int32).toInt = 40) (rfl : (v1).toInt = _) c2
    refine lv_iconst (v := 1) hx hb dX6_hasRoom_11 (by decide) ?_
    refine lv_goto (tgt := 16) hx hb dX6_hasRoom_12 (by decide) ?_
    exact W.zret (v := 1) hx hb hr rfl (fun t ht9 hW => ⟨1, rfl, Or.inl ⟨rfl, by omega⟩, ht9⟩) (fun q hq => by cases hq) dX6_hasRoom_16
set_option maxHeartbeats 4000000 in
set_option maxRecDepth 100000 in
/-- X1_has -/
theorem c_X1_has (l : Launch) (dC : Nat → ClassId) (dI : Nat → Nat → Nat) (h : Nat) (g : Nat → Nat → Nat) (ca : Nat → Nat → ClassId) (iv : Nat → Nat → Int32) (lv : Nat → Nat → Int64) (fa : Nat → Nat → Nat → Int32) (la : Nat → Nat → Nat → Int64) (hI : IX iv fa) (a : Int32) : Met l yX1_has (wc yX1_has cX1_has 2 (some .boolean)) ({ frames := 0, cells := 0, slots := 0, locals := 0 } : Room) (pR (dC, dI) classes (WX h g ca iv lv fa la) (TX ca) [.ref (g 11 3), .int a]) (vp_Si (fun r => (r = 1 ∧ (0 ≤ a.toInt ∧ a.toInt / 100 ≤ 7 ∧ a.toInt % 100 ≤ 11)) ∨ r = 0)) 0 0 (fun _ => False) := by
  refine Met.ofW (cc := cX1_has) (maxL := 2) (ret := (some .boolean)) (by decide) rfl ?_
  intro p e s m args below meth c s₁ B hml hv
  obtain ⟨rfl, hP, hK⟩ := hv
  have hx := B.exec
  have hb := B.bytes
  have hr := B.returns
  have ht := tb_tl (atoms_spec (ws := wc yX1_has cX1_has 2 (some .boolean)) B.pre)
  have hown : s.vm.findClass RX1 = some m.cls := findClass_of_methodNamed B.named
  have hlocks := B.notSynchronized
  have hl := lv_entry [.ref (g 11 3), .int a] (n := 2) (Nat.le_of_ble_eq_true rfl)
  rw [lg_entry_eq]
  generalize (lg_sl [.ref (g 11 3), .int a] ++ List.replicate (2 - (lg_sl [.ref (g 11 3), .int a]).length) Slot.unset).toArray = ls at hl ⊢
  have hl : lv_has ls 2 [(0, .ref (g 11 3)), (1, .int a)] := hl
  refine lv_iload_n hx hb dX1_has_0 rfl (lv_at hl 1 rfl) ?_
  refine lv_if_lt (tgt := 35) hx hb dX1_has_1 (by decide) (fun c1 => ?_) (fun c1 => ?_)
  · have fc1 := z_lt (rfl : (a).toInt = _) (by decide : (0 : Int32).toInt = 0) c1
    refine lv_iconst (v := 0) hx hb dX1_has_35 (by decide) ?_
    exact W.zret (v := 0) hx hb hr rfl (fun t ht9 hW => ⟨0, rfl, Or.inr rfl, ht9⟩) (fun q hq => by cases hq) dX1_has_36
  · have fc1 := z_nlt (rfl : (a).toInt = _) (by decide : (0 : Int32).toInt = 0) c1
    refine lv_iload_n hx hb dX1_has_4 rfl (lv_at hl 1 rfl) ?_
    refine lv_bipush (v := 100) hx hb dX1_has_5 (by decide) ?_
    refine lv_idiv hx hb dX1_has_7 (by decide) ?_
    refine lv_topi (fun v2 ev2 => ?_)
    have tv2 := z_divp ev2 (rfl : (a).toInt = _) (by decide : (100 : Int32).toInt = 100) (by omega) (by omega)
    refine lv_aload_n hx hb dX1_has_8 rfl (lv_at hl 0 rfl) ?_
    have i_1_7 : 0 ≤ (iv 1 7).toInt ∧ (iv 1 7).toInt ≤ 8 := hI.1 1 7
    refine gX_1_7 hx hb ht hown hK hP m_196 (v := (iv 1 7)) rfl dX1_has_9 ?_
    refine lv_icmp_ge (tgt := 35) hx hb dX1_has_12 (by decide) (fun c3 => ?_) (fun c3 => ?_)
    · have fc3 := z_le (rfl : ((iv 1 7)).toInt = _) (rfl : (v2).toInt = _) c3
      refine lv_iconst (v := 0) hx hb dX1_has_35 (by decide) ?_
      exact W.zret (v := 0) hx hb hr rfl (fun t ht9 hW => ⟨0, rfl, Or.inr rfl, ht9⟩) (fun q hq => by cases hq) dX1_has_36
    · have fc3 := z_nle (rfl : ((iv 1 7)).toInt = _) (rfl : (v2).toInt = _) c3
      refine lv_iload_n hx hb dX1_has_15 rfl (lv_at hl 1 rfl) ?_
      refine lv_bipush (v := 100) hx hb dX1_has_16 (by decide) ?_
      refine lv_irem hx hb dX1_has_18 (by decide) ?_
      refine lv_topi (fun v4 ev4 => ?_)
      have tv4 := z_remp ev4 (rfl : (a).toInt = _) (by decide : (100 : Int32).toInt = 100) (by omega) (by omega)
      refine lv_aload_n hx hb dX1_has_19 rfl (lv_at hl 0 rfl) ?_
      refine gX_1_1 hx hb ht hown hK hP m_190 dX1_has_20 ?_
      refine lv_iload_n hx hb dX1_has_23 rfl (lv_at hl 1 rfl) ?_
      refine lv_bipush (v := 100) hx hb dX1_has_24 (by decide) ?_
      refine lv_idiv hx hb dX1_has_26 (by decide) ?_
      refine lv_topi (fun v5 ev5 => ?_)
      obtain rfl : v2 = v5 := ev2.trans ev5.symm
      refine lX_1_1 hx hb hK hP (f := (fa 1 1)) rfl (vp_in_iff.mpr ⟨by omega, by omega⟩) dX1_has_27 ?_
      refine lv_topi (fun v6 ev6 => ?_)
      have tv6 : 0 ≤ v6.toInt ∧ v6.toInt ≤ 12 := by rw [ev6]; exact hI.2 1 1 _
      refine lv_icmp_ge (tgt := 35) hx hb dX1_has_28 (by decide) (fun c7 => ?_) (fun c7 => ?_)
      · have fc7 := z_le (rfl : (v6).toInt = _) (rfl : (v4).toInt = _) c7
        refine lv_iconst (v := 0) hx hb dX1_has_35 (by decide) ?_
        exact W.zret (v := 0) hx hb hr rfl (fun t ht9 hW => ⟨0, rfl, Or.inr rfl, ht9⟩) (fun q hq => by cases hq) dX1_has_36
      · have fc7 := z_nle (rfl : (v6).toInt = _) (rfl : (v4).toInt = _) c7
        refine lv_iconst (v := 1) hx hb dX1_has_31 (by decide) ?_
        refine lv_goto (tgt := 36) hx hb dX1_has_32 (by decide) ?_
        exact W.zret (v := 1) hx hb hr rfl (fun t ht9 hW => ⟨1, rfl, Or.inl ⟨rfl, by omega⟩, ht9⟩) (fun q hq => by cases hq) dX1_has_36
set_option maxHeartbeats 4000000 in
set_option maxRecDepth 100000 in
/-- X1_letterOf -/
theorem c_X1_letterOf (l : Launch) (dC : Nat → ClassId) (dI : Nat → Nat → Nat) (h : Nat) (g : Nat → Nat → Nat) (ca : Nat → Nat → ClassId) (iv : Nat → Nat → Int32) (lv : Nat → Nat → Int64) (fa : Nat → Nat → Nat → Int32) (la : Nat → Nat → Nat → Int64) (hI : IX iv fa) (a : Int32) (b : Int32) (h_a : 0 ≤ a.toInt ∧ a.toInt ≤ 799) (hq : a.toInt / 100 ≤ 7 ∧ a.toInt % 100 ≤ 11) : Met l yX1_letterOf (wc yX1_letterOf cX1_letterOf 5 (some .int)) ({ frames := 0, cells := 0, slots := 0, locals := 0 } : Room) (pR (dC, dI) classes (WX h g ca iv lv fa la) (TX ca) [.ref (g 11 3), .int a, .int b]) (vp_Si (fun r => True)) 0 0 (fun _ => False) := by
  refine Met.ofW (cc := cX1_letterOf) (maxL := 5) (ret := (some .int)) (by decide) rfl ?_
  intro p e s m args below meth c s₁ B hml hv
  obtain ⟨rfl, hP, hK⟩ := hv
  have hx := B.exec
  have hb := B.bytes
  have hr := B.returns
  have ht := tb_tl (atoms_spec (ws := wc yX1_letterOf cX1_letterOf 5 (some .int)) B.pre)
  have hown : s.vm.findClass RX1 = some m.cls := findClass_of_methodNamed B.named
  have hlocks := B.notSynchronized
  have hl := lv_entry [.ref (g 11 3), .int a, .int b] (n := 5) (Nat.le_of_ble_eq_true rfl)
  rw [lg_entry_eq]
  generalize (lg_sl [.ref (g 11 3), .int a, .int b] ++ List.replicate (5 - (lg_sl [.ref (g 11 3), .int a, .int b]).length) Slot.unset).toArray = ls at hl ⊢
  have hl : lv_has ls 5 [(0, .ref (g 11 3)), (1, .int a), (2, .int b)] := hl
  refine lv_iload_n hx hb dX1_letterOf_0 rfl (lv_at hl 1 rfl) ?_
  refine lv_bipush (v := 100) hx hb dX1_letterOf_1 (by decide) ?_
  refine lv_idiv hx hb dX1_letterOf_3 (by decide) ?_
  refine lv_topi (fun v1 ev1 => ?_)
  have tv1 := z_divp ev1 (rfl : (a).toInt = _) (by decide : (100 : Int32).toInt = 100) (by omega) (by omega)
  refine lv_bipush (v := 12) hx hb dX1_letterOf_4 (by decide) ?_
  refine lv_imul hx hb dX1_letterOf_6 ?_
  refine lv_topi (fun v2 ev2 => ?_)
  have tv2 := z_mul ev2 (rfl : (v1).toInt = _) (by decide : (12 : Int32).toInt = 12) (by omega) (by omega)
  refine lv_iload_n hx hb dX1_letterOf_7 rfl (lv_at hl 1 rfl) ?_
  refine lv_bipush (v := 100) hx hb dX1_letterOf_8 (by decide) ?_
  refine lv_irem hx hb dX1_letterOf_10 (by decide) ?_
  refine lv_topi (fun v3 ev3 => ?_)
  have tv3 := z_remp ev3 (rfl : (a).toInt = _) (by decide : (100 : Int32).toInt = 100) (by omega) (by omega)
  refine lv_iadd hx hb dX1_letterOf_11 ?_
  refine lv_topi (fun v4 ev4 => ?_)
  have tv4 := z_add ev4 (rfl : (v2).toInt = _) (rfl : (v3).toInt = _) (by omega) (by omega)
  refine lv_istore_n (lv' := [(3, .int v4), (0, .ref (g 11 3)), (1, .int a), (2, .int b)]) hx hb dX1_letterOf_12 rfl hl (by decide) rfl (fun ls hl => ?_)
  refine lv_aload_n hx hb dX1_letterOf_13 rfl (lv_at hl 1 rfl) ?_
  refine gX_1_2 hx hb ht hown hK hP m_191 dX1_letterOf_14 ?_
  refine lv_iload_n hx hb dX1_letterOf_17 rfl (lv_at hl 0 rfl) ?_
  refine lX_1_2 hx hb hK hP (f := (fa 1 2)) rfl (vp_in_iff.mpr ⟨by omega, by omega⟩) dX1_letterOf_18 ?_
  refine lv_topi (fun v5 ev5 => ?_)
  refine lv_bipush (v := 6) hx hb dX1_letterOf_19 (by decide) ?_
  refine lv_icmp_ne (tgt := 34) hx hb dX1_letterOf_21 (by decide) (fun c6 => ?_) (fun c6 => ?_)
  · have fc6 := z_ne (rfl : (v5).toInt = _) (by decide : (6 : Int32).toInt = 6) c6
    refine lv_iconst (v := (-1)) hx hb dX1_letterOf_34 (by decide) ?_
    exact W.iret (v := (-1)) hx hb hr (fun t ht9 hW => ⟨(-1), rfl, trivial, ht9⟩) (fun q hq => by cases hq) dX1_letterOf_35
  · have fc6 := z_eq (rfl : (v5).toInt = _) (by decide : (6 : Int32).toInt = 6) c6
    refine lv_iload_n hx hb dX1_letterOf_24 rfl (lv_at hl 3 rfl) ?_
    refine lv_if_lt (tgt := 34) hx hb dX1_letterOf_25 (by decide) (fun c7 => ?_) (fun c7 => ?_)
    · have fc7 := z_lt (rfl : (b).toInt = _) (by decide : (0 : Int32).toInt = 0) c7
      refine lv_iconst (v := (-1)) hx hb dX1_letterOf_34 (by decide) ?_
      exact W.iret (v := (-1)) hx hb hr (fun t ht9 hW => ⟨(-1), rfl, trivial, ht9⟩) (fun q hq => by cases hq) dX1_letterOf_35
    · have fc7 := z_nlt (rfl : (b).toInt = _) (by decide : (0 : Int32).toInt = 0) c7
      refine lv_iload_n hx hb dX1_letterOf_28 rfl (lv_at hl 3 rfl) ?_
      refine lv_bipush (v := 8) hx hb dX1_letterOf_29 (by decide) ?_
      refine lv_icmp_lt (tgt := 36) hx hb dX1_letterOf_31 (by decide) (fun c8 => ?_) (fun c8 => ?_)
      · have fc8 := z_lt (rfl : (b).toInt = _) (by decide : (8 : Int32).toInt = 8) c8
        refine lv_aload_n hx hb dX1_letterOf_36 rfl (lv_at hl 1 rfl) ?_
        refine gX_1_5 hx hb ht hown hK hP m_194 dX1_letterOf_37 ?_
        refine lv_iload_n hx hb dX1_letterOf_40 rfl (lv_at hl 0 rfl) ?_
        refine lv_bipush (v := 8) hx hb dX1_letterOf_41 (by decide) ?_
        refine lv_imul hx hb dX1_letterOf_43 ?_
        refine lv_topi (fun v9 ev9 => ?_)
        have tv9 := z_mul ev9 (rfl : (v4).toInt = _) (by decide : (8 : Int32).toInt = 8) (by omega) (by omega)
        refine lv_iload_n hx hb dX1_letterOf_44 rfl (lv_at hl 3 rfl) ?_
        refine lv_iadd hx hb dX1_letterOf_45 ?_
        refine lv_topi (fun v10 ev10 => ?_)
        have tv10 := z_add ev10 (rfl : (v9).toInt = _) (rfl : (b).toInt = _) (by omega) (by omega)
        refine lX_1_5 hx hb hK hP (f := (fa 1 5)) rfl (vp_in_iff.mpr ⟨by omega, by omega⟩) dX1_letterOf_46 ?_
        refine lv_topi (fun v11 ev11 => ?_)
        refine lv_istore (lv' := [(4, .int v11), (3, .int v4), (0, .ref (g 11 3)), (1, .int a), (2, .int b)]) hx hb dX1_letterOf_47 hl (by decide) rfl (fun ls hl => ?_)
        refine lv_iload hx hb dX1_letterOf_49 (lv_at hl 0 rfl) ?_
        refine lv_if_ne (tgt := 58) hx hb dX1_letterOf_51 (by decide) (fun c12 => ?_) (fun c12 => ?_)
        · have fc12 := z_ne (rfl : (v11).toInt = _) (by decide : (0 : Int32).toInt = 0) c12
          refine lv_iload hx hb dX1_letterOf_58 (lv_at hl 0 rfl) ?_
          exact W.iret (v := v11) hx hb hr (fun t ht9 hW => ⟨v11, rfl, trivial, ht9⟩) (fun q hq => by cases hq) dX1_letterOf_60
        · have fc12 := z_eq (rfl : (v11).toInt = _) (by decide : (0 : Int32).toInt = 0) c12
          refine lv_iconst (v := (-1)) hx hb dX1_letterOf_54 (by decide) ?_
          refine lv_goto (tgt := 60) hx hb dX1_letterOf_55 (by decide) ?_
          exact W.iret (v := (-1)) hx hb hr (fun t ht9 hW => ⟨(-1), rfl, trivial, ht9⟩) (fun q hq => by cases hq) dX1_letterOf_60
      · have fc8 := z_nlt (rfl : (b).toInt = _) (by decide : (8 : Int32).toInt = 8) c8
        refine lv_iconst (v := (-1)) hx hb dX1_letterOf_34 (by decide) ?_
        exact W.iret (v := (-1)) hx hb hr (fun t ht9 hW => ⟨(-1), rfl, trivial, ht9⟩) (fun q hq => by cases hq) dX1_letterOf_35
set_option maxHeartbeats 4000000 in
set_option maxRecDepth 100000 in
/-- X11_letter -/
theorem c_X11_letter (l : Launch) (dC : Nat → ClassId) (dI : Nat → Nat → Nat) (h : Nat) (g : Nat → Nat → Nat) (ca : Nat → Nat → ClassId) (iv : Nat → Nat → Int32) (lv : Nat → Nat → Int64) (fa : Nat → Nat → Nat → Int32) (la : Nat → Nat → Nat → Int64) (hI : IX iv fa) (a : Int32) (b : Int32) : Met l yX11_letter (wc yX11_letter cX11_letter 3 (some .int)) ({ frames := 1, cells := 0, slots := 0, locals := 24 } : Room) (pR (dC, dI) classes (WX h g ca iv lv fa la) (TX ca) [.ref h, .int a, .int b]) (vp_Si (fun r => True)) 0 0 (fun _ => False) := by
  refine Met.ofW (cc := cX11_letter) (maxL := 3) (ret := (some .int)) (by decide) rfl ?_
  intro p e s m args below meth c s₁ B hml hv
  obtain ⟨rfl, hP, hK⟩ := hv
  have hx := B.exec
  have hb := B.bytes
  have hr := B.returns
  have ht := tb_tl (atoms_spec (ws := wc yX11_letter cX11_letter 3 (some .int)) B.pre)
  have hown : s.vm.findClass RX11 = some m.cls := findClass_of_methodNamed B.named
  have hlocks := B.notSynchronized
  have hl := lv_entry [.ref h, .int a, .int b] (n := 3) (Nat.le_of_ble_eq_true rfl)
  rw [lg_entry_eq]
  generalize (lg_sl [.ref h, .int a, .int b] ++ List.replicate (3 - (lg_sl [.ref h, .int a, .int b]).length) Slot.unset).toArray = ls at hl ⊢
  have hl : lv_has ls 3 [(0, .ref h), (1, .int a), (2, .int b)] := hl
  refine lv_aload_n hx hb dX11_letter_0 rfl (lv_at hl 0 rfl) ?_
  refine gX_11_3 hx hb ht hown hK hP m_418 dX11_letter_1 ?_
  refine lv_iload_n hx hb dX11_letter_4 rfl (lv_at hl 1 rfl) ?_
  refine vp_callSi (W.runV (As := [.int a]) (rest := []) ⟨hx, hb, hml, hown, ht⟩ (c_X1_has l dC dI h g ca iv lv fa la hI a) (kV 1 ht m_821 m_822 m_823 m_81 m_824 rfl rfl hd_X1_has_v ⟨Nat.le_of_ble_eq_true rfl, Nat.le_of_ble_eq_true rfl⟩) (vR hP hK (rX_1 hK hP)) rfl rfl hl.1 rfl (lv_room (Nat.le_of_ble_eq_true rfl)) dX11_letter_5 ⟨Nat.le_of_ble_eq_true rfl, Nat.le_of_ble_eq_true rfl⟩) (fun r1 hr1 => ?_)
  rcases hr1 with ⟨rfl, fr1⟩ | rfl
  · skip
    refine lv_if_eq (tgt := 23) hx hb dX11_letter_8 (by decide) (fun c2 => ?_) (fun c2 => ?_)
    · exact absurd c2 (by decide)
    · skip
      refine lv_aload_n hx hb dX11_letter_11 rfl (lv_at hl 0 rfl) ?_
      refine gX_11_3 hx hb ht hown hK hP m_418 dX11_letter_12 ?_
      refine lv_iload_n hx hb dX11_letter_15 rfl (lv_at hl 1 rfl) ?_
      refine lv_iload_n hx hb dX11_letter_16 rfl (lv_at hl 2 rfl) ?_
      refine vp_callSi (W.runV (As := [.int a, .int b]) (rest := []) ⟨hx, hb, hml, hown, ht⟩ (c_X1_letterOf l dC dI h g ca iv lv fa la hI a b ⟨by omega, by omega⟩ ⟨by omega, by omega⟩) (kV 2 ht m_825 m_826 m_827 m_81 m_828 rfl rfl hd_X1_letterOf_v ⟨Nat.le_of_ble_eq_true rfl, Nat.le_of_ble_eq_true rfl⟩) (vR hP hK (rX_1 hK hP)) rfl rfl hl.1 rfl (lv_room (Nat.le_of_ble_eq_true rfl)) dX11_letter_17 ⟨Nat.le_of_ble_eq_true rfl, Nat.le_of_ble_eq_true rfl⟩) (fun r3 hr3 => ?_)
      refine lv_goto (tgt := 25) hx hb dX11_letter_20 (by decide) ?_
      exact W.iret (v := r3) hx hb hr (fun t ht9 hW => ⟨r3, rfl, trivial, ht9⟩) (fun q hq => by cases hq) dX11_letter_25
  · skip
    refine lv_if_eq (tgt := 23) hx hb dX11_letter_8 (by decide) (fun c4 => ?_) (fun c4 => ?_)
    · skip
      refine lv_ldc hx hb hown (ht _ m_476) dX11_letter_23 ?_
      exact W.iret (v := (-100001)) hx hb hr (fun t ht9 hW => ⟨(-100001), rfl, trivial, ht9⟩) (fun q hq => by cases hq) dX11_letter_25
    · exact absurd rfl c4
/-! ===== h11 ===== -/
theorem m_630 : Cond.constantLong RX7 20 (1000) ∈ tb := mb_3_2 _ (List.mem_of_getElem? (i := 19) rfl)
theorem m_631 : Cond.methodLink RX7 22 Lib.MathLoose.abs_long.x ∈ tb := mb_3_2 _ (List.mem_of_getElem? (i := 20) rfl)
theorem m_632 : Cond.static Lib.MathLoose.abs_long.x ∈ tb := mb_3_2 _ (List.mem_of_getElem? (i := 21) rfl)
theorem m_633 : Cond.code Lib.MathLoose.abs_long.x Lib.MathLoose.abs_long.code 2 (some .long) ∈ tb := mb_3_2 _ (List.mem_of_getElem? (i := 22) rfl)
set_option maxRecDepth 100000 in
theorem dvX7_differ_0 : ([(0, .ldc2_w 20, 3), (3, .aload_n 0, 1), (4, .getfield 13, 3), (7, .iload_n 1, 1), (8, .laload, 1), (9, .aload_n 0, 1), (10, .getfield 7, 3), (13, .iload_n 2, 1), (14, .laload, 1), (15, .lmul, 1), (16, .aload_n 0, 1), (17, .getfield 13, 3), (20, .iload_n 2, 1), (21, .laload, 1), (22, .aload_n 0, 1), (23, .getfield 7, 3), (26, .iload_n 1, 1), (27, .laload, 1), (28, .lmul, 1), (29, .lsub, 1), (30, .invokestatic 22, 3), (33, .lmul, 1), (34, .iload_n 3, 1), (35, .i2l, 1)] : List (Nat × Instr × Nat)).all (fun q => decide (decode cX7_differ q.1 = .ok (q.2.1, q.2.2))) = true := by decide +kernel
theorem dX7_differ_0 : decode cX7_differ 0 = .ok (.ldc2_w 20, 3) := all_at dvX7_differ_0 0 rfl
theorem dX7_differ_3 : decode cX7_differ 3 = .ok (.aload_n 0, 1) := all_at dvX7_differ_0 1 rfl
theorem dX7_differ_4 : decode cX7_differ 4 = .ok (.getfield 13, 3) := all_at dvX7_differ_0 2 rfl
theorem dX7_differ_7 : decode cX7_differ 7 = .ok (.iload_n 1, 1) := all_at dvX7_differ_0 3 rfl
theorem dX7_differ_8 : decode cX7_differ 8 = .ok (.laload, 1) := all_at dvX7_differ_0 4 rfl
theorem dX7_differ_9 : decode cX7_differ 9 = .ok (.aload_n 0, 1) := all_at dvX7_differ_0 5 rfl
theorem dX7_differ_10 : decode cX7_differ 10 = .ok (.getfield 7, 3) := all_at dvX7_differ_0 6 rfl
theorem dX7_differ_13 : decode cX7_differ 13 = .ok (.iload_n 2, 1) := all_at dvX7_differ_0 7 rfl
theorem dX7_differ_14 : decode cX7_differ 14 = .ok (.laload, 1) := all_at dvX7_differ_0 8 rfl
theorem dX7_differ_15 : decode cX7_differ 15 = .ok (.lmul, 1) := all_at dvX7_differ_0 9 rfl
theorem dX7_differ_16 : decode cX7_differ 16 = .ok (.aload_n 0, 1) := all_at dvX7_differ_0 10 rfl
theorem dX7_differ_17 : decode cX7_differ 17 = .ok (.getfield 13, 3) := all_at dvX7_differ_0 11 rfl
theorem dX7_differ_20 : decode cX7_differ 20 = .ok (.iload_n 2, 1) := all_at dvX7_differ_0 12 rfl
theorem dX7_differ_21 : decode cX7_differ 21 = .ok (.laload, 1) := all_at dvX7_differ_0 13 rfl
theorem dX7_differ_22 : decode cX7_differ 22 = .ok (.aload_n 0, 1) := all_at dvX7_differ_0 14 rfl
theorem dX7_differ_23 : decode cX7_differ 23 = .ok (.getfield 7, 3) := all_at dvX7_differ_0 15 rfl
theorem dX7_differ_26 : decode cX7_differ 26 = .ok (.iload_n 1, 1) := all_at dvX7_differ_0 16 rfl
theorem dX7_differ_27 : decode cX7_differ 27 = .ok (.laload, 1) := all_at dvX7_differ_0 17 rfl
theorem dX7_differ_28 : decode cX7_differ 28 = .ok (.lmul, 1) := all_at dvX7_differ_0 18 rfl
theorem dX7_differ_29 : decode cX7_differ 29 = .ok (.lsub, 1) := all_at dvX7_differ_0 19 rfl
theorem dX7_differ_30 : decode cX7_differ 30 = .ok (.invokestatic 22, 3) := all_at dvX7_differ_0 20 rfl
theorem dX7_differ_33 : decode cX7_differ 33 = .ok (.lmul, 1) := all_at dvX7_differ_0 21 rfl
theorem dX7_differ_34 : decode cX7_differ 34 = .ok (.iload_n 3, 1) := all_at dvX7_differ_0 22 rfl
theorem dX7_differ_35 : decode cX7_differ 35 = .ok (.i2l, 1) := all_at dvX7_differ_0 23 rfl
set_option maxRecDepth 100000 in
theorem dvX7_differ_36 : ([(36, .aload_n 0, 1), (37, .getfield 7, 3), (40, .iload_n 1, 1), (41, .laload, 1), (42, .lmul, 1), (43, .aload_n 0, 1), (44, .getfield 7, 3), (47, .iload_n 2, 1), (48, .laload, 1), (49, .lmul, 1), (50, .lcmp, 1), (51, .ifCond .le 7, 3), (54, .iconst 1, 1), (55, .goto 4, 3), (58, .iconst 0, 1), (59, .ireturn, 1)] : List (Nat × Instr × Nat)).all (fun q => decide (decode cX7_differ q.1 = .ok (q.2.1, q.2.2))) = true := by decide +kernel
theorem dX7_differ_36 : decode cX7_differ 36 = .ok (.aload_n 0, 1) := all_at dvX7_differ_36 0 rfl
theorem dX7_differ_37 : decode cX7_differ 37 = .ok (.getfield 7, 3) := all_at dvX7_differ_36 1 rfl
theorem dX7_differ_40 : decode cX7_differ 40 = .ok (.iload_n 1, 1) := all_at dvX7_differ_36 2 rfl
theorem dX7_differ_41 : decode cX7_differ 41 = .ok (.laload, 1) := all_at dvX7_differ_36 3 rfl
theorem dX7_differ_42 : decode cX7_differ 42 = .ok (.lmul, 1) := all_at dvX7_differ_36 4 rfl
theorem dX7_differ_43 : decode cX7_differ 43 = .ok (.aload_n 0, 1) := all_at dvX7_differ_36 5 rfl
theorem dX7_differ_44 : decode cX7_differ 44 = .ok (.getfield 7, 3) := all_at dvX7_differ_36 6 rfl
theorem dX7_differ_47 : decode cX7_differ 47 = .ok (.iload_n 2, 1) := all_at dvX7_differ_36 7 rfl
theorem dX7_differ_48 : decode cX7_differ 48 = .ok (.laload, 1) := all_at dvX7_differ_36 8 rfl
theorem dX7_differ_49 : decode cX7_differ 49 = .ok (.lmul, 1) := all_at dvX7_differ_36 9 rfl
theorem dX7_differ_50 : decode cX7_differ 50 = .ok (.lcmp, 1) := all_at dvX7_differ_36 10 rfl
theorem dX7_differ_51 : decode cX7_differ 51 = .ok (.ifCond .le 7, 3) := all_at dvX7_differ_36 11 rfl
theorem dX7_differ_54 : decode cX7_differ 54 = .ok (.iconst 1, 1) := all_at dvX7_differ_36 12 rfl
theorem dX7_differ_55 : decode cX7_differ 55 = .ok (.goto 4, 3) := all_at dvX7_differ_36 13 rfl
theorem dX7_differ_58 : decode cX7_differ 58 = .ok (.iconst 0, 1) := all_at dvX7_differ_36 14 rfl
theorem dX7_differ_59 : decode cX7_differ 59 = .ok (.ireturn, 1) := all_at dvX7_differ_36 15 rfl
set_option maxHeartbeats 4000000 in
set_option maxRecDepth 100000 in
/-- X7_differ -/
theorem c_X7_differ_30 (l : Launch) (dC : Nat → ClassId) (dI : Nat → Nat → Nat) (h : Nat) (g : Nat → Nat → Nat) (ca : Nat → Nat → ClassId) (iv : Nat → Nat → Int32) (lv : Nat → Nat → Int64) (fa : Nat → Nat → Nat → Int32) (la : Nat → Nat → Nat → Int64) (hI : IX iv fa) (a : Int32) (b : Int32) (d : Int32) (h_a : 0 ≤ a.toInt ∧ a.toInt ≤ 2) (h_b : 0 ≤ b.toInt ∧ b.toInt ≤ 2) : Met l yX7_differ (wc yX7_differ cX7_differ 4 (some .boolean)) ({ frames := 1, cells := 0, slots := 0, locals := 40 } : Room) (pR (dC, dI) classes (WX h g ca iv lv fa la) (TX ca) [.ref (g 3 2), .int a, .int b, .int d]) (vp_Si (fun r => 0 ≤ r.toInt ∧ r.toInt ≤ 1)) 0 0 (fun _ => False) := by
  refine Met.ofW (cc := cX7_differ) (maxL := 4) (ret := (some .boolean)) (by decide) rfl ?_
  intro p e s m args below meth c s₁ B hml hv
  obtain ⟨rfl, hP, hK⟩ := hv
  have hx := B.exec
  have hb := B.bytes
  have hr := B.returns
  have ht := tb_tl (atoms_spec (ws := wc yX7_differ cX7_differ 4 (some .boolean)) B.pre)
  have hown : s.vm.findClass RX7 = some m.cls := findClass_of_methodNamed B.named
  have hlocks := B.notSynchronized
  have hl := lv_entry [.ref (g 3 2), .int a, .int b, .int d] (n := 4) (Nat.le_of_ble_eq_true rfl)
  rw [lg_entry_eq]
  generalize (lg_sl [.ref (g 3 2), .int a, .int b, .int d] ++ List.replicate (4 - (lg_sl [.ref (g 3 2), .int a, .int b, .int d]).length) Slot.unset).toArray = ls at hl ⊢
  have hl : lv_has ls 4 [(0, .ref (g 3 2)), (1, .int a), (2, .int b), (3, .int d)] := hl
  refine lv_ldc2 hx hb hown (ht _ m_630) dX7_differ_0 ?_
  refine lv_aload_n hx hb dX7_differ_3 rfl (lv_at hl 0 rfl) ?_
  refine gX_30_1 hx hb ht hown hK hP m_264 dX7_differ_4 ?_
  refine lv_iload_n hx hb dX7_differ_7 rfl (lv_at hl 1 rfl) ?_
  refine lX_30_1 hx hb hK hP (f := (la 30 1)) rfl (vp_in_iff.mpr ⟨by omega, by omega⟩) dX7_differ_8 ?_
  refine lv_topl (fun w1 ew1 => ?_)
  refine lv_aload_n hx hb dX7_differ_9 rfl (lv_at hl 0 rfl) ?_
  refine gX_30_0 hx hb ht hown hK hP m_261 dX7_differ_10 ?_
  refine lv_iload_n hx hb dX7_differ_13 rfl (lv_at hl 2 rfl) ?_
  refine lX_30_0 hx hb hK hP (f := (la 30 0)) rfl (vp_in_iff.mpr ⟨by omega, by omega⟩) dX7_differ_14 ?_
  refine lv_topl (fun w2 ew2 => ?_)
  refine lv_lmul hx hb dX7_differ_15 ?_
  refine lv_topl (fun w3 ew3 => ?_)
  refine lv_aload_n hx hb dX7_differ_16 rfl (lv_at hl 0 rfl) ?_
  refine gX_30_1 hx hb ht hown hK hP m_264 dX7_differ_17 ?_
  refine lv_iload_n hx hb dX7_differ_20 rfl (lv_at hl 2 rfl) ?_
  refine lX_30_1 hx hb hK hP (f := (la 30 1)) rfl (vp_in_iff.mpr ⟨by omega, by omega⟩) dX7_differ_21 ?_
  refine lv_topl (fun w4 ew4 => ?_)
  refine lv_aload_n hx hb dX7_differ_22 rfl (lv_at hl 0 rfl) ?_
  refine gX_30_0 hx hb ht hown hK hP m_261 dX7_differ_23 ?_
  refine lv_iload_n hx hb dX7_differ_26 rfl (lv_at hl 1 rfl) ?_
  refine lX_30_0 hx hb hK hP (f := (la 30 0)) rfl (vp_in_iff.mpr ⟨by omega, by omega⟩) dX7_differ_27 ?_
  refine lv_topl (fun w5 ew5 => ?_)
  refine lv_lmul hx hb dX7_differ_28 ?_
  refine lv_topl (fun w6 ew6 => ?_)
  refine lv_lsub hx hb dX7_differ_29 ?_
  refine lv_topl (fun w7 ew7 => ?_)
  refine va_mabs_long hx hb (hml.trans hl.1.symm) hown (ht _ m_631) (ht _ m_632) (ht _ m_90) (ht _ m_633) (Nat.le_of_ble_eq_true rfl) (Nat.le_of_ble_eq_true rfl) (Nat.le_of_ble_eq_true rfl) (Nat.le_of_ble_eq_true rfl) dX7_differ_30 ?_
  refine lv_topl (fun w8 ew8 => ?_)
  refine lv_lmul hx hb dX7_differ_33 ?_
  refine lv_topl (fun w9 ew9 => ?_)
  refine lv_iload_n hx hb dX7_differ_34 rfl (lv_at hl 3 rfl) ?_
  refine lv_i2l (v := (d.toInt64)) hx hb dX7_differ_35 rfl ?_
  refine lv_aload_n hx hb dX7_differ_36 rfl (lv_at hl 0 rfl) ?_
  refine gX_30_0 hx hb ht hown hK hP m_261 dX7_differ_37 ?_
  refine lv_iload_n hx hb dX7_differ_40 rfl (lv_at hl 1 rfl) ?_
  refine lX_30_0 hx hb hK hP (f := (la 30 0)) rfl (vp_in_iff.mpr ⟨by omega, by omega⟩) dX7_differ_41 ?_
  refine lv_topl (fun w10 ew10 => ?_)
  refine lv_lmul hx hb dX7_differ_42 ?_
  refine lv_topl (fun w11 ew11 => ?_)
  refine lv_aload_n hx hb dX7_differ_43 rfl (lv_at hl 0 rfl) ?_
  refine gX_30_0 hx hb ht hown hK hP m_261 dX7_differ_44 ?_
  refine lv_iload_n hx hb dX7_differ_47 rfl (lv_at hl 2 rfl) ?_
  refine lX_30_0 hx hb hK hP (f := (la 30 0)) rfl (vp_in_iff.mpr ⟨by omega, by omega⟩) dX7_differ_48 ?_
  refine lv_topl (fun w12 ew12 => ?_)
  refine lv_lmul hx hb dX7_differ_49 ?_
  refine lv_topl (fun w13 ew13 => ?_)
  refine W.lcmp hx hb dX7_differ_50 ?_
  refine lv_topi (fun v14 ev14 => ?_)
  refine lv_if_le (tgt := 58) hx hb dX7_differ_51 (by decide) (fun c15 => ?_) (fun c15 => ?_)
  · have fc15 := zc_ngt ev14 (rfl : (w9).toInt = _) (rfl : (w13).toInt = _) (Int32.not_lt.mpr c15)
    refine lv_iconst (v := 0) hx hb dX7_differ_58 (by decide) ?_
    exact W.zret (v := 0) hx hb hr rfl (fun t ht9 hW => ⟨0, rfl, ⟨by decide, by decide⟩, ht9⟩) (fun q hq => by cases hq) dX7_differ_59
  · have fc15 := zc_gt ev14 (rfl : (w9).toInt = _) (rfl : (w13).toInt = _) (Int32.not_le.mp c15)
    refine lv_iconst (v := 1) hx hb dX7_differ_54 (by decide) ?_
    refine lv_goto (tgt := 59) hx hb dX7_differ_55 (by decide) ?_
    exact W.zret (v := 1) hx hb hr rfl (fun t ht9 hW => ⟨1, rfl, ⟨by decide, by decide⟩, ht9⟩) (fun q hq => by cases hq) dX7_differ_59
set_option maxHeartbeats 4000000 in
set_option maxRecDepth 100000 in
/-- X7_differ -/
theorem c_X7_differ_20 (l : Launch) (dC : Nat → ClassId) (dI : Nat → Nat → Nat) (h : Nat) (g : Nat → Nat → Nat) (ca : Nat → Nat → ClassId) (iv : Nat → Nat → Int32) (lv : Nat → Nat → Int64) (fa : Nat → Nat → Nat → Int32) (la : Nat → Nat → Nat → Int64) (hI : IX iv fa) (a : Int32) (b : Int32) (d : Int32) (h_a : 0 ≤ a.toInt ∧ a.toInt ≤ 2) (h_b : 0 ≤ b.toInt ∧ b.toInt ≤ 2) : Met l yX7_differ (wc yX7_differ cX7_differ 4 (some .boolean)) ({ frames := 1, cells := 0, slots := 0, locals := 40 } : Room) (pR (dC, dI) classes (WX h g ca iv lv fa la) (TX ca) [.ref (g 2 1), .int a, .int b, .int d]) (vp_Si (fun r => 0 ≤ r.toInt ∧ r.toInt ≤ 1)) 0 0 (fun _ => False) := by
  refine Met.ofW (cc := cX7_differ) (maxL := 4) (ret := (some .boolean)) (by decide) rfl ?_
  intro p e s m args below meth c s₁ B hml hv
  obtain ⟨rfl, hP, hK⟩ := hv
  have hx := B.exec
  have hb := B.bytes
  have hr := B.returns
  have ht := tb_tl (atoms_spec (ws := wc yX7_differ cX7_differ 4 (some .boolean)) B.pre)
  have hown : s.vm.findClass RX7 = some m.cls := findClass_of_methodNamed B.named
  have hlocks := B.notSynchronized
  have hl := lv_entry [.ref (g 2 1), .int a, .int b, .int d] (n := 4) (Nat.le_of_ble_eq_true rfl)
  rw [lg_entry_eq]
  generalize (lg_sl [.ref (g 2 1), .int a, .int b, .int d] ++ List.replicate (4 - (lg_sl [.ref (g 2 1), .int a, .int b, .int d]).length) Slot.unset).toArray = ls at hl ⊢
  have hl : lv_has ls 4 [(0, .ref (g 2 1)), (1, .int a), (2, .int b), (3, .int d)] := hl
  refine lv_ldc2 hx hb hown (ht _ m_630) dX7_differ_0 ?_
  refine lv_aload_n hx hb dX7_differ_3 rfl (lv_at hl 0 rfl) ?_
  refine gX_20_1 hx hb ht hown hK hP m_264 dX7_differ_4 ?_
  refine lv_iload_n hx hb dX7_differ_7 rfl (lv_at hl 1 rfl) ?_
  refine lX_20_1 hx hb hK hP (f := (la 20 1)) rfl (vp_in_iff.mpr ⟨by omega, by omega⟩) dX7_differ_8 ?_
  refine lv_topl (fun w1 ew1 => ?_)
  refine lv_aload_n hx hb dX7_differ_9 rfl (lv_at hl 0 rfl) ?_
  refine gX_20_0 hx hb ht hown hK hP m_261 dX7_differ_10 ?_
  refine lv_iload_n hx hb dX7_differ_13 rfl (lv_at hl 2 rfl) ?_
  refine lX_20_0 hx hb hK hP (f := (la 20 0)) rfl (vp_in_iff.mpr ⟨by omega, by omega⟩) dX7_differ_14 ?_
  refine lv_topl (fun w2 ew2 => ?_)
  refine lv_lmul hx hb dX7_differ_15 ?_
  refine lv_topl (fun w3 ew3 => ?_)
  refine lv_aload_n hx hb dX7_differ_16 rfl (lv_at hl 0 rfl) ?_
  refine gX_20_1 hx hb ht hown hK hP m_264 dX7_differ_17 ?_
  refine lv_iload_n hx hb dX7_differ_20 rfl (lv_at hl 2 rfl) ?_
  refine lX_20_1 hx hb hK hP (f := (la 20 1)) rfl (vp_in_iff.mpr ⟨by omega, by omega⟩) dX7_differ_21 ?_
  refine lv_topl (fun w4 ew4 => ?_)
  refine lv_aload_n hx hb dX7_differ_22 rfl (lv_at hl 0 rfl) ?_
  refine gX_20_0 hx hb ht hown hK hP m_261 dX7_differ_23 ?_
  refine lv_iload_n hx hb dX7_differ_26 rfl (lv_at hl 1 rfl) ?_
  refine lX_20_0 hx hb hK hP (f := (la 20 0)) rfl (vp_in_iff.mpr ⟨by omega, by omega⟩) dX7_differ_27 ?_
  refine lv_topl (fun w5 ew5 => ?_)
  refine lv_lmul hx hb dX7_differ_28 ?_
  refine lv_topl (fun w6 ew6 => ?_)
  refine lv_lsub hx hb dX7_differ_29 ?_
  refine lv_topl (fun w7 ew7 => ?_)
  refine va_mabs_long hx hb (hml.trans hl.1.symm) hown (ht _ m_631) (ht _ m_632) (ht _ m_90) (ht _ m_633) (Nat.le_of_ble_eq_true rfl) (Nat.le_of_ble_eq_true rfl) (Nat.le_of_ble_eq_true rfl) (Nat.le_of_ble_eq_true rfl) dX7_differ_30 ?_
  refine lv_topl (fun w8 ew8 => ?_)
  refine lv_lmul hx hb dX7_differ_33 ?_
  refine lv_topl (fun w9 ew9 => ?_)
  refine lv_iload_n hx hb dX7_differ_34 rfl (lv_at hl 3 rfl) ?_
  refine lv_i2l (v := (d.toInt64)) hx hb dX7_differ_35 rfl ?_
  refine lv_aload_n hx hb dX7_differ_36 rfl (lv_at hl 0 rfl) ?_
  refine gX_20_0 hx hb ht hown hK hP m_261 dX7_differ_37 ?_
  refine lv_iload_n hx hb dX7_differ_40 rfl (lv_at hl 1 rfl) ?_
  refine lX_20_0 hx hb hK hP (f := (la 20 0)) rfl (vp_in_iff.mpr ⟨by omega, by omega⟩) dX7_differ_41 ?_
  refine lv_topl (fun w10 ew10 => ?_)
  refine lv_lmul hx hb dX7_differ_42 ?_
  refine lv_topl (fun w11 ew11 => ?_)
  refine lv_aload_n hx hb dX7_differ_43 rfl (lv_at hl 0 rfl) ?_
  refine gX_20_0 hx hb ht hown hK hP m_261 dX7_differ_44 ?_
  refine lv_iload_n hx hb dX7_differ_47 rfl (lv_at hl 2 rfl) ?_
  refine lX_20_0 hx hb hK hP (f := (la 20 0)) rfl (vp_in_iff.mpr ⟨by omega, by omega⟩) dX7_differ_48 ?_
  refine lv_topl (fun w12 ew12 => ?_)
  refine lv_lmul hx hb dX7_differ_49 ?_
  refine lv_topl (fun w13 ew13 => ?_)
  refine W.lcmp hx hb dX7_differ_50 ?_
  refine lv_topi (fun v14 ev14 => ?_)
  refine lv_if_le (tgt := 58) hx hb dX7_differ_51 (by decide) (fun c15 => ?_) (fun c15 => ?_)
  · have fc15 := zc_ngt ev14 (rfl : (w9).toInt = _) (rfl : (w13).toInt = _) (Int32.not_lt.mpr c15)
    refine lv_iconst (v := 0) hx hb dX7_differ_58 (by decide) ?_
    exact W.zret (v := 0) hx hb hr rfl (fun t ht9 hW => ⟨0, rfl, ⟨by decide, by decide⟩, ht9⟩) (fun q hq => by cases hq) dX7_differ_59
  · have fc15 := zc_gt ev14 (rfl : (w9).toInt = _) (rfl : (w13).toInt = _) (Int32.not_le.mp c15)
    refine lv_iconst (v := 1) hx hb dX7_differ_54 (by decide) ?_
    refine lv_goto (tgt := 59) hx hb dX7_differ_55 (by decide) ?_
    exact W.zret (v := 1) hx hb hr rfl (fun t ht9 hW => ⟨1, rfl, ⟨by decide, by decide⟩, ht9⟩) (fun q hq => by cases hq) dX7_differ_59
