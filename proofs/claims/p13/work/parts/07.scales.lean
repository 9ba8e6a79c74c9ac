/-! ===== scales ===== -/
set_option maxRecDepth 100000 in
theorem m_1 : Cond.selects RX9 yX9_lastBy yX9_lastBy ∈ tb := tb_in 1 (by decide +kernel) rfl
set_option maxRecDepth 100000 in
theorem m_2 : Cond.selects RX9 yX9_firstAfter yX9_firstAfter ∈ tb := tb_in 2 (by decide +kernel) rfl
set_option maxRecDepth 100000 in
theorem m_3 : Cond.selects RX9 yX9_driftOf yX9_driftOf ∈ tb := tb_in 3 (by decide +kernel) rfl
theorem m_79 : Cond.initialized RX9 ∈ tb := mb_1_0 _ (List.mem_of_getElem? (i := 2) rfl)
theorem m_90 : Cond.initialized "java/lang/Math" ∈ tb := mb_1_0 _ (List.mem_of_getElem? (i := 13) rfl)
theorem m_132 : Cond.fieldLink RX9 11 "SilkHouse$Scales" "scale" "[I" ∈ tb := mb_1_1 _ (List.mem_of_getElem? (i := 21) rfl)
theorem m_133 : Cond.fieldLink RX9 15 "SilkHouse$Scales" "day" "[I" ∈ tb := mb_1_1 _ (List.mem_of_getElem? (i := 22) rfl)
theorem m_134 : Cond.fieldLink RX9 18 "SilkHouse$Scales" "drift" "[I" ∈ tb := mb_1_1 _ (List.mem_of_getElem? (i := 23) rfl)
theorem m_135 : Cond.fieldLink RX9 21 "SilkHouse$Scales" "number" "I" ∈ tb := mb_1_2 _ (List.mem_of_getElem? (i := 0) rfl)
theorem m_538 : Cond.methodLink RX9 25 yX9_lastBy ∈ tb := mb_2_5 _ (List.mem_of_getElem? (i := 23) rfl)
theorem m_540 : Cond.instanceMethod yX9_lastBy ∈ tb := mb_2_6 _ (List.mem_of_getElem? (i := 0) rfl)
theorem m_541 : Cond.code yX9_lastBy cX9_lastBy 5 (some .int) ∈ tb := mb_2_6 _ (List.mem_of_getElem? (i := 1) rfl)
theorem m_542 : Cond.methodLink RX9 29 yX9_firstAfter ∈ tb := mb_2_6 _ (List.mem_of_getElem? (i := 2) rfl)
theorem m_544 : Cond.instanceMethod yX9_firstAfter ∈ tb := mb_2_6 _ (List.mem_of_getElem? (i := 3) rfl)
theorem m_545 : Cond.code yX9_firstAfter cX9_firstAfter 4 (some .int) ∈ tb := mb_2_6 _ (List.mem_of_getElem? (i := 4) rfl)
theorem m_546 : Cond.methodLink RX9 32 yX9_driftOf ∈ tb := mb_2_6 _ (List.mem_of_getElem? (i := 5) rfl)
theorem m_548 : Cond.instanceMethod yX9_driftOf ∈ tb := mb_2_6 _ (List.mem_of_getElem? (i := 6) rfl)
theorem m_549 : Cond.code yX9_driftOf cX9_driftOf 3 (some .int) ∈ tb := mb_2_6 _ (List.mem_of_getElem? (i := 7) rfl)
theorem m_550 : Cond.methodLink RX9 35 Lib.Math.min.name ∈ tb := mb_2_6 _ (List.mem_of_getElem? (i := 8) rfl)
theorem m_551 : Cond.static Lib.Math.min.name ∈ tb := mb_2_6 _ (List.mem_of_getElem? (i := 9) rfl)
theorem m_552 : Cond.code Lib.Math.min.name Lib.Math.min.code 2 (some .int) ∈ tb := mb_2_6 _ (List.mem_of_getElem? (i := 10) rfl)
theorem m_557 : Cond.methodLink RX9 40 Lib.Math.max.name ∈ tb := mb_3_0 _ (List.mem_of_getElem? (i := 1) rfl)
theorem m_558 : Cond.static Lib.Math.max.name ∈ tb := mb_3_0 _ (List.mem_of_getElem? (i := 2) rfl)
theorem m_559 : Cond.code Lib.Math.max.name Lib.Math.max.code 2 (some .int) ∈ tb := mb_3_0 _ (List.mem_of_getElem? (i := 3) rfl)
theorem hd_X9_driftOf_v : yX9_driftOf.cls = RX9 ∧ yX9_driftOf.cls ≠ "java/lang/invoke/MethodHandle" ∧ yX9_driftOf.cls ≠ "java/lang/invoke/VarHandle" ∧ (parseMethodDescriptor yX9_driftOf.desc).map (fun d => d.parameters.length) = some 2 := by decide +kernel
theorem hd_X9_firstAfter_v : yX9_firstAfter.cls = RX9 ∧ yX9_firstAfter.cls ≠ "java/lang/invoke/MethodHandle" ∧ yX9_firstAfter.cls ≠ "java/lang/invoke/VarHandle" ∧ (parseMethodDescriptor yX9_firstAfter.desc).map (fun d => d.parameters.length) = some 2 := by decide +kernel
theorem hd_X9_lastBy_v : yX9_lastBy.cls = RX9 ∧ yX9_lastBy.cls ≠ "java/lang/invoke/MethodHandle" ∧ yX9_lastBy.cls ≠ "java/lang/invoke/VarHandle" ∧ (parseMethodDescriptor yX9_lastBy.desc).map (fun d => d.parameters.length) = some 2 := by decide +kernel
set_option maxRecDepth 100000 in
theorem dvX9_driftOf_0 : ([(0, .iload_n 1, 1), (1, .iconst (-1), 1), (2, .if_icmp .eq 10, 3), (5, .aload_n 0, 1), (6, .getfield 18, 3), (9, .iload_n 1, 1), (10, .iaload, 1), (11, .ireturn, 1), (12, .iload_n 2, 1), (13, .iconst (-1), 1), (14, .if_icmp .ne 7, 3), (17, .iconst 0, 1), (18, .goto 9, 3), (21, .aload_n 0, 1), (22, .getfield 18, 3), (25, .iload_n 2, 1), (26, .iaload, 1), (27, .ireturn, 1)] : List (Nat × Instr × Nat)).all (fun q => decide (decode cX9_driftOf q.1 = .ok (q.2.1, q.2.2))) = true := by decide +kernel
theorem dX9_driftOf_0 : decode cX9_driftOf 0 = .ok (.iload_n 1, 1) := all_at dvX9_driftOf_0 0 rfl
theorem dX9_driftOf_1 : decode cX9_driftOf 1 = .ok (.iconst (-1), 1) := all_at dvX9_driftOf_0 1 rfl
theorem dX9_driftOf_2 : decode cX9_driftOf 2 = .ok (.if_icmp .eq 10, 3) := all_at dvX9_driftOf_0 2 rfl
theorem dX9_driftOf_5 : decode cX9_driftOf 5 = .ok (.aload_n 0, 1) := all_at dvX9_driftOf_0 3 rfl
theorem dX9_driftOf_6 : decode cX9_driftOf 6 = .ok (.getfield 18, 3) := all_at dvX9_driftOf_0 4 rfl
theorem dX9_driftOf_9 : decode cX9_driftOf 9 = .ok (.iload_n 1, 1) := all_at dvX9_driftOf_0 5 rfl
theorem dX9_driftOf_10 : decode cX9_driftOf 10 = .ok (.iaload, 1) := all_at dvX9_driftOf_0 6 rfl
theorem dX9_driftOf_11 : decode cX9_driftOf 11 = .ok (.ireturn, 1) := all_at dvX9_driftOf_0 7 rfl
theorem dX9_driftOf_12 : decode cX9_driftOf 12 = .ok (.iload_n 2, 1) := all_at dvX9_driftOf_0 8 rfl
theorem dX9_driftOf_13 : decode cX9_driftOf 13 = .ok (.iconst (-1), 1) := all_at dvX9_driftOf_0 9 rfl
theorem dX9_driftOf_14 : decode cX9_driftOf 14 = .ok (.if_icmp .ne 7, 3) := all_at dvX9_driftOf_0 10 rfl
theorem dX9_driftOf_17 : decode cX9_driftOf 17 = .ok (.iconst 0, 1) := all_at dvX9_driftOf_0 11 rfl
theorem dX9_driftOf_18 : decode cX9_driftOf 18 = .ok (.goto 9, 3) := all_at dvX9_driftOf_0 12 rfl
theorem dX9_driftOf_21 : decode cX9_driftOf 21 = .ok (.aload_n 0, 1) := all_at dvX9_driftOf_0 13 rfl
theorem dX9_driftOf_22 : decode cX9_driftOf 22 = .ok (.getfield 18, 3) := all_at dvX9_driftOf_0 14 rfl
theorem dX9_driftOf_25 : decode cX9_driftOf 25 = .ok (.iload_n 2, 1) := all_at dvX9_driftOf_0 15 rfl
theorem dX9_driftOf_26 : decode cX9_driftOf 26 = .ok (.iaload, 1) := all_at dvX9_driftOf_0 16 rfl
theorem dX9_driftOf_27 : decode cX9_driftOf 27 = .ok (.ireturn, 1) := all_at dvX9_driftOf_0 17 rfl
set_option maxRecDepth 100000 in
theorem dvX9_firstAfter_0 : ([(0, .iconst 0, 1), (1, .istore_n 3, 1), (2, .iload_n 3, 1), (3, .aload_n 0, 1), (4, .getfield 21, 3), (7, .if_icmp .ge 31, 3), (10, .aload_n 0, 1), (11, .getfield 11, 3), (14, .iload_n 3, 1), (15, .iaload, 1), (16, .iload_n 1, 1), (17, .if_icmp .ne 15, 3), (20, .aload_n 0, 1), (21, .getfield 15, 3), (24, .iload_n 3, 1), (25, .iaload, 1), (26, .iload_n 2, 1), (27, .if_icmp .le 5, 3), (30, .iload_n 3, 1), (31, .ireturn, 1), (32, .iinc 3 1, 3), (35, .goto (-33), 3), (38, .iconst (-1), 1), (39, .ireturn, 1)] : List (Nat × Instr × Nat)).all (fun q => decide (decode cX9_firstAfter q.1 = .ok (q.2.1, q.2.2))) = true := by decide +kernel
theorem dX9_firstAfter_0 : decode cX9_firstAfter 0 = .ok (.iconst 0, 1) := all_at dvX9_firstAfter_0 0 rfl
theorem dX9_firstAfter_1 : decode cX9_firstAfter 1 = .ok (.istore_n 3, 1) := all_at dvX9_firstAfter_0 1 rfl
theorem dX9_firstAfter_2 : decode cX9_firstAfter 2 = .ok (.iload_n 3, 1) := all_at dvX9_firstAfter_0 2 rfl
theorem dX9_firstAfter_3 : decode cX9_firstAfter 3 = .ok (.aload_n 0, 1) := all_at dvX9_firstAfter_0 3 rfl
theorem dX9_firstAfter_4 : decode cX9_firstAfter 4 = .ok (.getfield 21, 3) := all_at dvX9_firstAfter_0 4 rfl
theorem dX9_firstAfter_7 : decode cX9_firstAfter 7 = .ok (.if_icmp .ge 31, 3) := all_at dvX9_firstAfter_0 5 rfl
theorem dX9_firstAfter_10 : decode cX9_firstAfter 10 = .ok (.aload_n 0, 1) := all_at dvX9_firstAfter_0 6 rfl
theorem dX9_firstAfter_11 : decode cX9_firstAfter 11 = .ok (.getfield 11, 3) := all_at dvX9_firstAfter_0 7 rfl
theorem dX9_firstAfter_14 : decode cX9_firstAfter 14 = .ok (.iload_n 3, 1) := all_at dvX9_firstAfter_0 8 rfl
theorem dX9_firstAfter_15 : decode cX9_firstAfter 15 = .ok (.iaload, 1) := all_at dvX9_firstAfter_0 9 rfl
theorem dX9_firstAfter_16 : decode cX9_firstAfter 16 = .ok (.iload_n 1, 1) := all_at dvX9_firstAfter_0 10 rfl
theorem dX9_firstAfter_17 : decode cX9_firstAfter 17 = .ok (.if_icmp .ne 15, 3) := all_at dvX9_firstAfter_0 11 rfl
theorem dX9_firstAfter_20 : decode cX9_firstAfter 20 = .ok (.aload_n 0, 1) := all_at dvX9_firstAfter_0 12 rfl
theorem dX9_firstAfter_21 : decode cX9_firstAfter 21 = .ok (.getfield 15, 3) := all_at dvX9_firstAfter_0 13 rfl
theorem dX9_firstAfter_24 : decode cX9_firstAfter 24 = .ok (.iload_n 3, 1) := all_at dvX9_firstAfter_0 14 rfl
theorem dX9_firstAfter_25 : decode cX9_firstAfter 25 = .ok (.iaload, 1) := all_at dvX9_firstAfter_0 15 rfl
theorem dX9_firstAfter_26 : decode cX9_firstAfter 26 = .ok (.iload_n 2, 1) := all_at dvX9_firstAfter_0 16 rfl
theorem dX9_firstAfter_27 : decode cX9_firstAfter 27 = .ok (.if_icmp .le 5, 3) := all_at dvX9_firstAfter_0 17 rfl
theorem dX9_firstAfter_30 : decode cX9_firstAfter 30 = .ok (.iload_n 3, 1) := all_at dvX9_firstAfter_0 18 rfl
theorem dX9_firstAfter_31 : decode cX9_firstAfter 31 = .ok (.ireturn, 1) := all_at dvX9_firstAfter_0 19 rfl
theorem dX9_firstAfter_32 : decode cX9_firstAfter 32 = .ok (.iinc 3 1, 3) := all_at dvX9_firstAfter_0 20 rfl
theorem dX9_firstAfter_35 : decode cX9_firstAfter 35 = .ok (.goto (-33), 3) := all_at dvX9_firstAfter_0 21 rfl
theorem dX9_firstAfter_38 : decode cX9_firstAfter 38 = .ok (.iconst (-1), 1) := all_at dvX9_firstAfter_0 22 rfl
theorem dX9_firstAfter_39 : decode cX9_firstAfter 39 = .ok (.ireturn, 1) := all_at dvX9_firstAfter_0 23 rfl
set_option maxRecDepth 100000 in
theorem dvX9_greatest_0 : ([(0, .aload_n 0, 1), (1, .iload_n 1, 1), (2, .iload_n 2, 1), (3, .invokevirtual 25, 3), (6, .istore_n 3, 1), (7, .aload_n 0, 1), (8, .iload_n 1, 1), (9, .iload_n 2, 1), (10, .invokevirtual 29, 3), (13, .istore 4, 2), (15, .aload_n 0, 1), (16, .iload_n 3, 1), (17, .iload 4, 2), (19, .invokevirtual 32, 3), (22, .aload_n 0, 1), (23, .iload 4, 2), (25, .iload_n 3, 1), (26, .invokevirtual 32, 3), (29, .invokestatic 40, 3), (32, .ireturn, 1)] : List (Nat × Instr × Nat)).all (fun q => decide (decode cX9_greatest q.1 = .ok (q.2.1, q.2.2))) = true := by decide +kernel
theorem dX9_greatest_0 : decode cX9_greatest 0 = .ok (.aload_n 0, 1) := all_at dvX9_greatest_0 0 rfl
theorem dX9_greatest_1 : decode cX9_greatest 1 = .ok (.iload_n 1, 1) := all_at dvX9_greatest_0 1 rfl
theorem dX9_greatest_2 : decode cX9_greatest 2 = .ok (.iload_n 2, 1) := all_at dvX9_greatest_0 2 rfl
theorem dX9_greatest_3 : decode cX9_greatest 3 = .ok (.invokevirtual 25, 3) := all_at dvX9_greatest_0 3 rfl
theorem dX9_greatest_6 : decode cX9_greatest 6 = .ok (.istore_n 3, 1) := all_at dvX9_greatest_0 4 rfl
theorem dX9_greatest_7 : decode cX9_greatest 7 = .ok (.aload_n 0, 1) := all_at dvX9_greatest_0 5 rfl
theorem dX9_greatest_8 : decode cX9_greatest 8 = .ok (.iload_n 1, 1) := all_at dvX9_greatest_0 6 rfl
theorem dX9_greatest_9 : decode cX9_greatest 9 = .ok (.iload_n 2, 1) := all_at dvX9_greatest_0 7 rfl
theorem dX9_greatest_10 : decode cX9_greatest 10 = .ok (.invokevirtual 29, 3) := all_at dvX9_greatest_0 8 rfl
theorem dX9_greatest_13 : decode cX9_greatest 13 = .ok (.istore 4, 2) := all_at dvX9_greatest_0 9 rfl
theorem dX9_greatest_15 : decode cX9_greatest 15 = .ok (.aload_n 0, 1) := all_at dvX9_greatest_0 10 rfl
theorem dX9_greatest_16 : decode cX9_greatest 16 = .ok (.iload_n 3, 1) := all_at dvX9_greatest_0 11 rfl
theorem dX9_greatest_17 : decode cX9_greatest 17 = .ok (.iload 4, 2) := all_at dvX9_greatest_0 12 rfl
theorem dX9_greatest_19 : decode cX9_greatest 19 = .ok (.invokevirtual 32, 3) := all_at dvX9_greatest_0 13 rfl
theorem dX9_greatest_22 : decode cX9_greatest 22 = .ok (.aload_n 0, 1) := all_at dvX9_greatest_0 14 rfl
theorem dX9_greatest_23 : decode cX9_greatest 23 = .ok (.iload 4, 2) := all_at dvX9_greatest_0 15 rfl
theorem dX9_greatest_25 : decode cX9_greatest 25 = .ok (.iload_n 3, 1) := all_at dvX9_greatest_0 16 rfl
theorem dX9_greatest_26 : decode cX9_greatest 26 = .ok (.invokevirtual 32, 3) := all_at dvX9_greatest_0 17 rfl
theorem dX9_greatest_29 : decode cX9_greatest 29 = .ok (.invokestatic 40, 3) := all_at dvX9_greatest_0 18 rfl
theorem dX9_greatest_32 : decode cX9_greatest 32 = .ok (.ireturn, 1) := all_at dvX9_greatest_0 19 rfl
set_option maxRecDepth 100000 in
theorem dvX9_lastBy_0 : ([(0, .iconst (-1), 1), (1, .istore_n 3, 1), (2, .iconst 0, 1), (3, .istore 4, 2), (5, .iload 4, 2), (7, .aload_n 0, 1), (8, .getfield 21, 3), (11, .if_icmp .ge 34, 3), (14, .aload_n 0, 1), (15, .getfield 11, 3), (18, .iload 4, 2), (20, .iaload, 1), (21, .iload_n 1, 1), (22, .if_icmp .ne 17, 3), (25, .aload_n 0, 1), (26, .getfield 15, 3), (29, .iload 4, 2), (31, .iaload, 1), (32, .iload_n 2, 1), (33, .if_icmp .gt 6, 3), (36, .iload 4, 2), (38, .istore_n 3, 1), (39, .iinc 4 1, 3), (42, .goto (-37), 3)] : List (Nat × Instr × Nat)).all (fun q => decide (decode cX9_lastBy q.1 = .ok (q.2.1, q.2.2))) = true := by decide +kernel
theorem dX9_lastBy_0 : decode cX9_lastBy 0 = .ok (.iconst (-1), 1) := all_at dvX9_lastBy_0 0 rfl
theorem dX9_lastBy_1 : decode cX9_lastBy 1 = .ok (.istore_n 3, 1) := all_at dvX9_lastBy_0 1 rfl
theorem dX9_lastBy_2 : decode cX9_lastBy 2 = .ok (.iconst 0, 1) := all_at dvX9_lastBy_0 2 rfl
theorem dX9_lastBy_3 : decode cX9_lastBy 3 = .ok (.istore 4, 2) := all_at dvX9_lastBy_0 3 rfl
theorem dX9_lastBy_5 : decode cX9_lastBy 5 = .ok (.iload 4, 2) := all_at dvX9_lastBy_0 4 rfl
theorem dX9_lastBy_7 : decode cX9_lastBy 7 = .ok (.aload_n 0, 1) := all_at dvX9_lastBy_0 5 rfl
theorem dX9_lastBy_8 : decode cX9_lastBy 8 = .ok (.getfield 21, 3) := all_at dvX9_lastBy_0 6 rfl
theorem dX9_lastBy_11 : decode cX9_lastBy 11 = .ok (.if_icmp .ge 34, 3) := all_at dvX9_lastBy_0 7 rfl
theorem dX9_lastBy_14 : decode cX9_lastBy 14 = .ok (.aload_n 0, 1) := all_at dvX9_lastBy_0 8 rfl
theorem dX9_lastBy_15 : decode cX9_lastBy 15 = .ok (.getfield 11, 3) := all_at dvX9_lastBy_0 9 rfl
theorem dX9_lastBy_18 : decode cX9_lastBy 18 = .ok (.iload 4, 2) := all_at dvX9_lastBy_0 10 rfl
theorem dX9_lastBy_20 : decode cX9_lastBy 20 = .ok (.iaload, 1) := all_at dvX9_lastBy_0 11 rfl
theorem dX9_lastBy_21 : decode cX9_lastBy 21 = .ok (.iload_n 1, 1) := all_at dvX9_lastBy_0 12 rfl
theorem dX9_lastBy_22 : decode cX9_lastBy 22 = .ok (.if_icmp .ne 17, 3) := all_at dvX9_lastBy_0 13 rfl
theorem dX9_lastBy_25 : decode cX9_lastBy 25 = .ok (.aload_n 0, 1) := all_at dvX9_lastBy_0 14 rfl
theorem dX9_lastBy_26 : decode cX9_lastBy 26 = .ok (.getfield 15, 3) := all_at dvX9_lastBy_0 15 rfl
theorem dX9_lastBy_29 : decode cX9_lastBy 29 = .ok (.iload 4, 2) := all_at dvX9_lastBy_0 16 rfl
theorem dX9_lastBy_31 : decode cX9_lastBy 31 = .ok (.iaload, 1) := all_at dvX9_lastBy_0 17 rfl
theorem dX9_lastBy_32 : decode cX9_lastBy 32 = .ok (.iload_n 2, 1) := all_at dvX9_lastBy_0 18 rfl
theorem dX9_lastBy_33 : decode cX9_lastBy 33 = .ok (.if_icmp .gt 6, 3) := all_at dvX9_lastBy_0 19 rfl
theorem dX9_lastBy_36 : decode cX9_lastBy 36 = .ok (.iload 4, 2) := all_at dvX9_lastBy_0 20 rfl
theorem dX9_lastBy_38 : decode cX9_lastBy 38 = .ok (.istore_n 3, 1) := all_at dvX9_lastBy_0 21 rfl
theorem dX9_lastBy_39 : decode cX9_lastBy 39 = .ok (.iinc 4 1, 3) := all_at dvX9_lastBy_0 22 rfl
theorem dX9_lastBy_42 : decode cX9_lastBy 42 = .ok (.goto (-37), 3) := all_at dvX9_lastBy_0 23 rfl
theorem dX9_lastBy_45 : decode cX9_lastBy 45 = .ok (.iload_n 3, 1) := by decide +kernel
theorem dX9_lastBy_46 : decode cX9_lastBy 46 = .ok (.ireturn, 1) := by decide +kernel
set_option maxRecDepth 100000 in
theorem dvX9_least_0 : ([(0, .aload_n 0, 1), (1, .iload_n 1, 1), (2, .iload_n 2, 1), (3, .invokevirtual 25, 3), (6, .istore_n 3, 1), (7, .aload_n 0, 1), (8, .iload_n 1, 1), (9, .iload_n 2, 1), (10, .invokevirtual 29, 3), (13, .istore 4, 2), (15, .aload_n 0, 1), (16, .iload_n 3, 1), (17, .iload 4, 2), (19, .invokevirtual 32, 3), (22, .aload_n 0, 1), (23, .iload 4, 2), (25, .iload_n 3, 1), (26, .invokevirtual 32, 3), (29, .invokestatic 35, 3), (32, .ireturn, 1)] : List (Nat × Instr × Nat)).all (fun q => decide (decode cX9_least q.1 = .ok (q.2.1, q.2.2))) = true := by decide +kernel
theorem dX9_least_0 : decode cX9_least 0 = .ok (.aload_n 0, 1) := all_at dvX9_least_0 0 rfl
theorem dX9_least_1 : decode cX9_least 1 = .ok (.iload_n 1, 1) := all_at dvX9_least_0 1 rfl
theorem dX9_least_2 : decode cX9_least 2 = .ok (.iload_n 2, 1) := all_at dvX9_least_0 2 rfl
theorem dX9_least_3 : decode cX9_least 3 = .ok (.invokevirtual 25, 3) := all_at dvX9_least_0 3 rfl
theorem dX9_least_6 : decode cX9_least 6 = .ok (.istore_n 3, 1) := all_at dvX9_least_0 4 rfl
theorem dX9_least_7 : decode cX9_least 7 = .ok (.aload_n 0, 1) := all_at dvX9_least_0 5 rfl
theorem dX9_least_8 : decode cX9_least 8 = .ok (.iload_n 1, 1) := all_at dvX9_least_0 6 rfl
theorem dX9_least_9 : decode cX9_least 9 = .ok (.iload_n 2, 1) := all_at dvX9_least_0 7 rfl
theorem dX9_least_10 : decode cX9_least 10 = .ok (.invokevirtual 29, 3) := all_at dvX9_least_0 8 rfl
theorem dX9_least_13 : decode cX9_least 13 = .ok (.istore 4, 2) := all_at dvX9_least_0 9 rfl
theorem dX9_least_15 : decode cX9_least 15 = .ok (.aload_n 0, 1) := all_at dvX9_least_0 10 rfl
theorem dX9_least_16 : decode cX9_least 16 = .ok (.iload_n 3, 1) := all_at dvX9_least_0 11 rfl
theorem dX9_least_17 : decode cX9_least 17 = .ok (.iload 4, 2) := all_at dvX9_least_0 12 rfl
theorem dX9_least_19 : decode cX9_least 19 = .ok (.invokevirtual 32, 3) := all_at dvX9_least_0 13 rfl
theorem dX9_least_22 : decode cX9_least 22 = .ok (.aload_n 0, 1) := all_at dvX9_least_0 14 rfl
theorem dX9_least_23 : decode cX9_least 23 = .ok (.iload 4, 2) := all_at dvX9_least_0 15 rfl
theorem dX9_least_25 : decode cX9_least 25 = .ok (.iload_n 3, 1) := all_at dvX9_least_0 16 rfl
theorem dX9_least_26 : decode cX9_least 26 = .ok (.invokevirtual 32, 3) := all_at dvX9_least_0 17 rfl
theorem dX9_least_29 : decode cX9_least 29 = .ok (.invokestatic 35, 3) := all_at dvX9_least_0 18 rfl
theorem dX9_least_32 : decode cX9_least 32 = .ok (.ireturn, 1) := all_at dvX9_least_0 19 rfl
set_option maxRecDepth 100000 in
theorem dvX9_note_0 : ([(0, .aload_n 0, 1), (1, .getfield 11, 3), (4, .aload_n 0, 1), (5, .getfield 21, 3), (8, .iload_n 1, 1), (9, .iastore, 1), (10, .aload_n 0, 1), (11, .getfield 15, 3), (14, .aload_n 0, 1), (15, .getfield 21, 3), (18, .iload_n 2, 1), (19, .iastore, 1), (20, .aload_n 0, 1), (21, .getfield 18, 3), (24, .aload_n 0, 1), (25, .getfield 21, 3), (28, .iload_n 3, 1), (29, .iastore, 1), (30, .aload_n 0, 1), (31, .dup, 1), (32, .getfield 21, 3), (35, .iconst 1, 1), (36, .iadd, 1), (37, .putfield 21, 3)] : List (Nat × Instr × Nat)).all (fun q => decide (decode cX9_note q.1 = .ok (q.2.1, q.2.2))) = true := by decide +kernel
theorem dX9_note_0 : decode cX9_note 0 = .ok (.aload_n 0, 1) := all_at dvX9_note_0 0 rfl
theorem dX9_note_1 : decode cX9_note 1 = .ok (.getfield 11, 3) := all_at dvX9_note_0 1 rfl
theorem dX9_note_4 : decode cX9_note 4 = .ok (.aload_n 0, 1) := all_at dvX9_note_0 2 rfl
theorem dX9_note_5 : decode cX9_note 5 = .ok (.getfield 21, 3) := all_at dvX9_note_0 3 rfl
theorem dX9_note_8 : decode cX9_note 8 = .ok (.iload_n 1, 1) := all_at dvX9_note_0 4 rfl
theorem dX9_note_9 : decode cX9_note 9 = .ok (.iastore, 1) := all_at dvX9_note_0 5 rfl
theorem dX9_note_10 : decode cX9_note 10 = .ok (.aload_n 0, 1) := all_at dvX9_note_0 6 rfl
theorem dX9_note_11 : decode cX9_note 11 = .ok (.getfield 15, 3) := all_at dvX9_note_0 7 rfl
theorem dX9_note_14 : decode cX9_note 14 = .ok (.aload_n 0, 1) := all_at dvX9_note_0 8 rfl
theorem dX9_note_15 : decode cX9_note 15 = .ok (.getfield 21, 3) := all_at dvX9_note_0 9 rfl
theorem dX9_note_18 : decode cX9_note 18 = .ok (.iload_n 2, 1) := all_at dvX9_note_0 10 rfl
theorem dX9_note_19 : decode cX9_note 19 = .ok (.iastore, 1) := all_at dvX9_note_0 11 rfl
theorem dX9_note_20 : decode cX9_note 20 = .ok (.aload_n 0, 1) := all_at dvX9_note_0 12 rfl
theorem dX9_note_21 : decode cX9_note 21 = .ok (.getfield 18, 3) := all_at dvX9_note_0 13 rfl
theorem dX9_note_24 : decode cX9_note 24 = .ok (.aload_n 0, 1) := all_at dvX9_note_0 14 rfl
theorem dX9_note_25 : decode cX9_note 25 = .ok (.getfield 21, 3) := all_at dvX9_note_0 15 rfl
theorem dX9_note_28 : decode cX9_note 28 = .ok (.iload_n 3, 1) := all_at dvX9_note_0 16 rfl
theorem dX9_note_29 : decode cX9_note 29 = .ok (.iastore, 1) := all_at dvX9_note_0 17 rfl
theorem dX9_note_30 : decode cX9_note 30 = .ok (.aload_n 0, 1) := all_at dvX9_note_0 18 rfl
theorem dX9_note_31 : decode cX9_note 31 = .ok (.dup, 1) := all_at dvX9_note_0 19 rfl
theorem dX9_note_32 : decode cX9_note 32 = .ok (.getfield 21, 3) := all_at dvX9_note_0 20 rfl
theorem dX9_note_35 : decode cX9_note 35 = .ok (.iconst 1, 1) := all_at dvX9_note_0 21 rfl
theorem dX9_note_36 : decode cX9_note 36 = .ok (.iadd, 1) := all_at dvX9_note_0 22 rfl
theorem dX9_note_37 : decode cX9_note 37 = .ok (.putfield 21, 3) := all_at dvX9_note_0 23 rfl
theorem dX9_note_40 : decode cX9_note 40 = .ok (.aload_n 0, 1) := by decide +kernel
theorem dX9_note_41 : decode cX9_note 41 = .ok (.getfield 21, 3) := by decide +kernel
theorem dX9_note_44 : decode cX9_note 44 = .ok (.ireturn, 1) := by decide +kernel
set_option maxHeartbeats 4000000 in
set_option maxRecDepth 100000 in
/-- X9_note -/
theorem c_X9_note (l : Launch) (dC : Nat → ClassId) (dI : Nat → Nat → Nat) (sz : Nat) (h : Nat) (g : Nat → Nat → Nat) (ca : Nat → Nat → ClassId) (iv : Nat → Nat → Int32) (lv : Nat → Nat → Int64) (fa : Nat → Nat → Nat → Int32) (la : Nat → Nat → Nat → Int64) (hI : IX iv fa) (a : Int32) (b : Int32) (d : Int32) (q_9_3 : 0 ≤ (iv 9 3).toInt ∧ (iv 9 3).toInt ≤ 29) : Met l yX9_note (wc yX9_note cX9_note 4 (some .int)) ({ frames := 0, cells := 0, slots := 0, locals := 0 } : Room) (pW (dC, dI) classes (WX h g ca iv lv fa la) (TX ca) sz [.ref (g 11 1), .int a, .int b, .int d]) (va_Qi (fun r (u : SS) => ∃ (na_9_0 : Nat → Int32) (na_9_1 : Nat → Int32) (na_9_2 : Nat → Int32) (ni_9_3 : Int32), inb (bI 9 3) ni_9_3 ∧ ni_9_3.toInt = (iv 9 3).toInt + 1 ∧ (1 ≤ r.toInt ∧ r.toInt ≤ 30) ∧ u = ((u2 iv 9 3 ni_9_3), lv, (u2 (u2 (u2 fa 9 0 na_9_0) 9 1 na_9_1) 9 2 na_9_2), la)) (bX (dC, dI) h g ca (va_A (WX h g ca iv lv fa la) sz)) (va_A (WX h g ca iv lv fa la) sz)) 0 0 (va_A (WX h g ca iv lv fa la) sz) := by
  refine Met.ofW (cc := cX9_note) (maxL := 4) (ret := (some .int)) (by decide) rfl ?_
  intro p e s m args below meth c s₁ B hml hv
  obtain ⟨rfl, hsz, hP, hK, hD0⟩ := hv
  have hx := B.exec
  have hb := B.bytes
  have hr := B.returns
  have ht := tb_tl (atoms_spec (ws := wc yX9_note cX9_note 4 (some .int)) B.pre)
  have hown : s.vm.findClass RX9 = some m.cls := findClass_of_methodNamed B.named
  have hlocks := B.notSynchronized
  subst hsz
  have hD := hD0.self (sz := s.heap.size)
  generalize hAe : va_A (WX h g ca iv lv fa la) s.heap.size = A at hD ⊢
  have hA : ∀ q : Nat, s.heap.size ≤ q → A q := fun q h => by rw [← hAe]; exact Or.inr h
  have hS : va_S A s.heap s.heap [] := va_S.rf
  have hl := lv_entry [.ref (g 11 1), .int a, .int b, .int d] (n := 4) (Nat.le_of_ble_eq_true rfl)
  rw [lg_entry_eq]
  generalize (lg_sl [.ref (g 11 1), .int a, .int b, .int d] ++ List.replicate (4 - (lg_sl [.ref (g 11 1), .int a, .int b, .int d]).length) Slot.unset).toArray = ls at hl ⊢
  have hl : lv_has ls 4 [(0, .ref (g 11 1)), (1, .int a), (2, .int b), (3, .int d)] := hl
  refine lv_aload_n hx hb dX9_note_0 rfl (lv_at hl 0 rfl) ?_
  refine gX_9_0 hx hb ht hown hK hP m_132 dX9_note_1 ?_
  refine lv_aload_n hx hb dX9_note_4 rfl (lv_at hl 0 rfl) ?_
  have i_9_3 : 0 ≤ (iv 9 3).toInt ∧ (iv 9 3).toInt ≤ 30 := hI.1 9 3
  refine gX_9_3 hx hb ht hown hK hP m_135 (v := (iv 9 3)) rfl dX9_note_5 ?_
  refine lv_iload_n hx hb dX9_note_8 rfl (lv_at hl 1 rfl) ?_
  refine tX_9_0 hx hb hK hP hD hS (f0 := (fa 9 0)) rfl (i := (iv 9 3)) (x := a) (vp_in_iff.mpr ⟨by omega, by omega⟩) dX9_note_9 (fun f1 ef1 H locs hP hD hS => ?_)
  have hf1 : ∀ j, inb (bA 9 0 j) (f1 j) := fun j => full_i _
  refine lv_aload_n hx hb dX9_note_10 rfl (lv_at hl 0 rfl) ?_
  refine gX_9_1 hx hb ht hown hK hP m_133 dX9_note_11 ?_
  refine lv_aload_n hx hb dX9_note_14 rfl (lv_at hl 0 rfl) ?_
  refine gX_9_3 hx hb ht hown hK hP m_135 (v := (iv 9 3)) rfl dX9_note_15 ?_
  refine lv_iload_n hx hb dX9_note_18 rfl (lv_at hl 2 rfl) ?_
  refine tX_9_1 hx hb hK hP hD hS (f0 := (fa 9 1)) rfl (i := (iv 9 3)) (x := b) (vp_in_iff.mpr ⟨by omega, by omega⟩) dX9_note_19 (fun f2 ef2 H locs hP hD hS => ?_)
  have hf2 : ∀ j, inb (bA 9 1 j) (f2 j) := fun j => full_i _
  refine lv_aload_n hx hb dX9_note_20 rfl (lv_at hl 0 rfl) ?_
  refine gX_9_2 hx hb ht hown hK hP m_134 dX9_note_21 ?_
  refine lv_aload_n hx hb dX9_note_24 rfl (lv_at hl 0 rfl) ?_
  refine gX_9_3 hx hb ht hown hK hP m_135 (v := (iv 9 3)) rfl dX9_note_25 ?_
  refine lv_iload_n hx hb dX9_note_28 rfl (lv_at hl 3 rfl) ?_
  refine tX_9_2 hx hb hK hP hD hS (f0 := (fa 9 2)) rfl (i := (iv 9 3)) (x := d) (vp_in_iff.mpr ⟨by omega, by omega⟩) dX9_note_29 (fun f3 ef3 H locs hP hD hS => ?_)
  have hf3 : ∀ j, inb (bA 9 2 j) (f3 j) := fun j => full_i _
  refine lv_aload_n hx hb dX9_note_30 rfl (lv_at hl 0 rfl) ?_
  refine lv_dup hx hb dX9_note_31 rfl ?_
  refine gX_9_3 hx hb ht hown hK hP m_135 (v := (iv 9 3)) rfl dX9_note_32 ?_
  refine lv_iconst (v := 1) hx hb dX9_note_35 (by decide) ?_
  refine lv_iadd hx hb dX9_note_36 ?_
  refine lv_topi (fun v4 ev4 => ?_)
  have tv4 := z_add ev4 (rfl : ((iv 9 3)).toInt = _) (by decide : (1 : Int32).toInt = 1) (by omega) (by omega)
  refine pX_9_3 (v := v4) hx hb ht hown hK hP hD hS m_135 dX9_note_37 (fun H locs hP hD hS => ?_)
  refine lv_aload_n hx hb dX9_note_40 rfl (lv_at hl 0 rfl) ?_
  refine gX_9_3 hx hb ht hown hK hP m_135 (v := v4) rfl dX9_note_41 ?_
  have hP9 : va_P (dC, dI) classes (WX h g ca (u2 iv 9 3 v4) lv (u2 (u2 (u2 fa 9 0 f1) 9 1 f2) 9 2 f3) la) H := hP
  have hD9 : va_D A (WX h g ca (u2 iv 9 3 v4) lv (u2 (u2 (u2 fa 9 0 f1) 9 1 f2) 9 2 f3) la) := hD
  exact W.iret (v := v4) hx hb hr (fun t ht9 hW => ⟨⟨v4, ((u2 iv 9 3 v4), lv, (u2 (u2 (u2 fa 9 0 f1) 9 1 f2) 9 2 f3), la), rfl, ⟨f1, f2, f3, v4, (show inb (0, 30) v4 from ⟨by omega, by omega⟩), (by omega), ⟨by omega, by omega⟩, rfl⟩, by rw [ht9]; exact hP9, hD9⟩, hS.F ht9⟩) hS.2.2 dX9_note_44
set_option maxHeartbeats 4000000 in
set_option maxRecDepth 100000 in
/-- X9_lastBy -/
theorem c_X9_lastBy (l : Launch) (dC : Nat → ClassId) (dI : Nat → Nat → Nat) (h : Nat) (g : Nat → Nat → Nat) (ca : Nat → Nat → ClassId) (iv : Nat → Nat → Int32) (lv : Nat → Nat → Int64) (fa : Nat → Nat → Nat → Int32) (la : Nat → Nat → Nat → Int64) (hI : IX iv fa) (a : Int32) (b : Int32) : Met l yX9_lastBy (wc yX9_lastBy cX9_lastBy 5 (some .int)) ({ frames := 0, cells := 0, slots := 0, locals := 0 } : Room) (pR (dC, dI) classes (WX h g ca iv lv fa la) (TX ca) [.ref (g 11 1), .int a, .int b]) (vp_Si (fun r => (-1) ≤ r.toInt ∧ r.toInt ≤ 29)) 0 0 (fun _ => False) := by
  refine Met.ofW (cc := cX9_lastBy) (maxL := 5) (ret := (some .int)) (by decide) rfl ?_
  intro p e s m args below meth c s₁ B hml hv
  obtain ⟨rfl, hP, hK⟩ := hv
  have hx := B.exec
  have hb := B.bytes
  have hr := B.returns
  have ht := tb_tl (atoms_spec (ws := wc yX9_lastBy cX9_lastBy 5 (some .int)) B.pre)
  have hown : s.vm.findClass RX9 = some m.cls := findClass_of_methodNamed B.named
  have hlocks := B.notSynchronized
  have hl := lv_entry [.ref (g 11 1), .int a, .int b] (n := 5) (Nat.le_of_ble_eq_true rfl)
  rw [lg_entry_eq]
  generalize (lg_sl [.ref (g 11 1), .int a, .int b] ++ List.replicate (5 - (lg_sl [.ref (g 11 1), .int a, .int b]).length) Slot.unset).toArray = ls at hl ⊢
  have hl : lv_has ls 5 [(0, .ref (g 11 1)), (1, .int a), (2, .int b)] := hl
  refine lv_iconst (v := (-1)) hx hb dX9_lastBy_0 (by decide) ?_
  refine lv_istore_n (lv' := [(3, .int (-1)), (0, .ref (g 11 1)), (1, .int a), (2, .int b)]) hx hb dX9_lastBy_1 rfl hl (by decide) rfl (fun ls hl => ?_)
  refine lv_iconst (v := 0) hx hb dX9_lastBy_2 (by decide) ?_
  refine lv_istore (lv' := [(4, .int 0), (3, .int (-1)), (0, .ref (g 11 1)), (1, .int a), (2, .int b)]) hx hb dX9_lastBy_3 hl (by decide) rfl (fun ls hl => ?_)
  have lp155 : ∀ (nn155 : Nat) (x154_4 : Int32) (x154_3 : Int32), 0 ≤ x154_4.toInt ∧ x154_4.toInt ≤ 30 → (-1) ≤ x154_3.toInt ∧ x154_3.toInt ≤ 29 → 30 - x154_4.toInt < (nn155 : Int) → ∀ (ls : Array Slot), lv_has ls 5 [(4, .int x154_4), (3, .int x154_3), (0, .ref (g 11 1)), (1, .int a), (2, .int b)] → W p l e ({ frames := 0, cells := 0, slots := 0, locals := 0 } : Room) s m ([.ref (g 11 1), .int a, .int b] : List Value).toArray below meth c s.heap [] 0 0 (MQ below (vp_Si (fun r => (-1) ≤ r.toInt ∧ r.toInt ≤ 29)) ([.ref (g 11 1), .int a, .int b] : List Value).toArray s 0 0 (fun _ => False)) (F0 m 5 ls []) := by
    intro nn155
    induction nn155 with
    | zero => intro x154_4 x154_3 hx154_4 hx154_3 hm155; exfalso; omega
    | succ nn155 ih155 =>
      intro x154_4 x154_3 hx154_4 hx154_3 hm155 ls hl
      refine lv_iload hx hb dX9_lastBy_5 (lv_at hl 0 rfl) ?_
      refine lv_aload_n hx hb dX9_lastBy_7 rfl (lv_at hl 2 rfl) ?_
      have i_9_3 : 0 ≤ (iv 9 3).toInt ∧ (iv 9 3).toInt ≤ 30 := hI.1 9 3
      refine gX_9_3 hx hb ht hown hK hP m_135 (v := (iv 9 3)) rfl dX9_lastBy_8 ?_
      refine lv_icmp_ge (tgt := 45) hx hb dX9_lastBy_11 (by decide) (fun c156 => ?_) (fun c156 => ?_)
      · have fc156 := z_le (rfl : ((iv 9 3)).toInt = _) (rfl : (x154_4).toInt = _) c156
        refine lv_iload_n hx hb dX9_lastBy_45 rfl (lv_at hl 1 rfl) ?_
        exact W.iret (v := x154_3) hx hb hr (fun t ht9 hW => ⟨x154_3, rfl, ⟨by omega, by omega⟩, ht9⟩) (fun q hq => by cases hq) dX9_lastBy_46
      · have fc156 := z_nle (rfl : ((iv 9 3)).toInt = _) (rfl : (x154_4).toInt = _) c156
        refine lv_aload_n hx hb dX9_lastBy_14 rfl (lv_at hl 2 rfl) ?_
        refine gX_9_0 hx hb ht hown hK hP m_132 dX9_lastBy_15 ?_
        refine lv_iload hx hb dX9_lastBy_18 (lv_at hl 0 rfl) ?_
        refine lX_9_0 hx hb hK hP (f := (fa 9 0)) rfl (vp_in_iff.mpr ⟨by omega, by omega⟩) dX9_lastBy_20 ?_
        refine lv_topi (fun v157 ev157 => ?_)
        refine lv_iload_n hx hb dX9_lastBy_21 rfl (lv_at hl 3 rfl) ?_
        refine lv_icmp_ne (tgt := 39) hx hb dX9_lastBy_22 (by decide) (fun c158 => ?_) (fun c158 => ?_)
        · have fc158 := z_ne (rfl : (v157).toInt = _) (rfl : (a).toInt = _) c158
          obtain ⟨v159, ev159⟩ : ∃ y : Int32, y = x154_4 + 1 := ⟨_, rfl⟩
          have tv159 := z_add ev159 rfl (by decide : (1 : Int32).toInt = 1) (by omega) (by omega)
          refine lv_iinc (v := v159) (lv' := [(4, .int v159), (3, .int x154_3), (0, .ref (g 11 1)), (1, .int a), (2, .int b)]) hx hb dX9_lastBy_39 hl (k := 0) rfl (by rw [ev159]; rfl) (by decide) rfl (fun ls hl => ?_)
          refine lv_goto (tgt := 5) hx hb dX9_lastBy_42 (by decide) ?_
          exact ih155 v159 x154_3 ⟨by omega, by omega⟩ ⟨by omega, by omega⟩ (by omega) ls (lv_sub hl [0, 1, 2, 3, 4] rfl)
        · have fc158 := z_eq (rfl : (v157).toInt = _) (rfl : (a).toInt = _) c158
          refine lv_aload_n hx hb dX9_lastBy_25 rfl (lv_at hl 2 rfl) ?_
          refine gX_9_1 hx hb ht hown hK hP m_133 dX9_lastBy_26 ?_
          refine lv_iload hx hb dX9_lastBy_29 (lv_at hl 0 rfl) ?_
          refine lX_9_1 hx hb hK hP (f := (fa 9 1)) rfl (vp_in_iff.mpr ⟨by omega, by omega⟩) dX9_lastBy_31 ?_
          refine lv_topi (fun v160 ev160 => ?_)
          refine lv_iload_n hx hb dX9_lastBy_32 rfl (lv_at hl 4 rfl) ?_
          refine lv_icmp_gt (tgt := 39) hx hb dX9_lastBy_33 (by decide) (fun c161 => ?_) (fun c161 => ?_)
          · have fc161 := z_lt (rfl : (b).toInt = _) (rfl : (v160).toInt = _) c161
            obtain ⟨v162, ev162⟩ : ∃ y : Int32, y = x154_4 + 1 := ⟨_, rfl⟩
            have tv162 := z_add ev162 rfl (by decide : (1 : Int32).toInt = 1) (by omega) (by omega)
            refine lv_iinc (v := v162) (lv' := [(4, .int v162), (3, .int x154_3), (0, .ref (g 11 1)), (1, .int a), (2, .int b)]) hx hb dX9_lastBy_39 hl (k := 0) rfl (by rw [ev162]; rfl) (by decide) rfl (fun ls hl => ?_)
            refine lv_goto (tgt := 5) hx hb dX9_lastBy_42 (by decide) ?_
            exact ih155 v162 x154_3 ⟨by omega, by omega⟩ ⟨by omega, by omega⟩ (by omega) ls (lv_sub hl [0, 1, 2, 3, 4] rfl)
          · have fc161 := z_nlt (rfl : (b).toInt = _) (rfl : (v160).toInt = _) c161
            refine lv_iload hx hb dX9_lastBy_36 (lv_at hl 0 rfl) ?_
            refine lv_istore_n (lv' := [(3, .int x154_4), (4, .int x154_4), (0, .ref (g 11 1)), (1, .int a), (2, .int b)]) hx hb dX9_lastBy_38 rfl hl (by decide) rfl (fun ls hl => ?_)
            obtain ⟨v163, ev163⟩ : ∃ y : Int32, y = x154_4 + 1 := ⟨_, rfl⟩
            have tv163 := z_add ev163 rfl (by decide : (1 : Int32).toInt = 1) (by omega) (by omega)
            refine lv_iinc (v := v163) (lv' := [(4, .int v163), (3, .int x154_4), (0, .ref (g 11 1)), (1, .int a), (2, .int b)]) hx hb dX9_lastBy_39 hl (k := 1) rfl (by rw [ev163]; rfl) (by decide) rfl (fun ls hl => ?_)
            refine lv_goto (tgt := 5) hx hb dX9_lastBy_42 (by decide) ?_
            exact ih155 v163 x154_4 ⟨by omega, by omega⟩ ⟨by omega, by omega⟩ (by omega) ls (lv_sub hl [0, 1, 2, 3, 4] rfl)
  exact lp155 31 0 (-1) ⟨by decide, by decide⟩ ⟨by decide, by decide⟩ (by first | decide | omega) ls (lv_sub hl [0, 1, 2, 3, 4] rfl)
set_option maxHeartbeats 4000000 in
set_option maxRecDepth 100000 in
/-- X9_firstAfter -/
theorem c_X9_firstAfter (l : Launch) (dC : Nat → ClassId) (dI : Nat → Nat → Nat) (h : Nat) (g : Nat → Nat → Nat) (ca : Nat → Nat → ClassId) (iv : Nat → Nat → Int32) (lv : Nat → Nat → Int64) (fa : Nat → Nat → Nat → Int32) (la : Nat → Nat → Nat → Int64) (hI : IX iv fa) (a : Int32) (b : Int32) : Met l yX9_firstAfter (wc yX9_firstAfter cX9_firstAfter 4 (some .int)) ({ frames := 0, cells := 0, slots := 0, locals := 0 } : Room) (pR (dC, dI) classes (WX h g ca iv lv fa la) (TX ca) [.ref (g 11 1), .int a, .int b]) (vp_Si (fun r => (-1) ≤ r.toInt ∧ r.toInt ≤ 29)) 0 0 (fun _ => False) := by
  refine Met.ofW (cc := cX9_firstAfter) (maxL := 4) (ret := (some .int)) (by decide) rfl ?_
  intro p e s m args below meth c s₁ B hml hv
  obtain ⟨rfl, hP, hK⟩ := hv
  have hx := B.exec
  have hb := B.bytes
  have hr := B.returns
  have ht := tb_tl (atoms_spec (ws := wc yX9_firstAfter cX9_firstAfter 4 (some .int)) B.pre)
  have hown : s.vm.findClass RX9 = some m.cls := findClass_of_methodNamed B.named
  have hlocks := B.notSynchronized
  have hl := lv_entry [.ref (g 11 1), .int a, .int b] (n := 4) (Nat.le_of_ble_eq_true rfl)
  rw [lg_entry_eq]
  generalize (lg_sl [.ref (g 11 1), .int a, .int b] ++ List.replicate (4 - (lg_sl [.ref (g 11 1), .int a, .int b]).length) Slot.unset).toArray = ls at hl ⊢
  have hl : lv_has ls 4 [(0, .ref (g 11 1)), (1, .int a), (2, .int b)] := hl
  refine lv_iconst (v := 0) hx hb dX9_firstAfter_0 (by decide) ?_
  refine lv_istore_n (lv' := [(3, .int 0), (0, .ref (g 11 1)), (1, .int a), (2, .int b)]) hx hb dX9_firstAfter_1 rfl hl (by decide) rfl (fun ls hl => ?_)
  have lp138 : ∀ (nn138 : Nat) (x137_3 : Int32), 0 ≤ x137_3.toInt ∧ x137_3.toInt ≤ 30 → 30 - x137_3.toInt < (nn138 : Int) → ∀ (ls : Array Slot), lv_has ls 4 [(3, .int x137_3), (0, .ref (g 11 1)), (1, .int a), (2, .int b)] → W p l e ({ frames := 0, cells := 0, slots := 0, locals := 0 } : Room) s m ([.ref (g 11 1), .int a, .int b] : List Value).toArray below meth c s.heap [] 0 0 (MQ below (vp_Si (fun r => (-1) ≤ r.toInt ∧ r.toInt ≤ 29)) ([.ref (g 11 1), .int a, .int b] : List Value).toArray s 0 0 (fun _ => False)) (F0 m 2 ls []) := by
    intro nn138
    induction nn138 with
    | zero => intro x137_3 hx137_3 hm138; exfalso; omega
    | succ nn138 ih138 =>
      intro x137_3 hx137_3 hm138 ls hl
      refine lv_iload_n hx hb dX9_firstAfter_2 rfl (lv_at hl 0 rfl) ?_
      refine lv_aload_n hx hb dX9_firstAfter_3 rfl (lv_at hl 1 rfl) ?_
      have i_9_3 : 0 ≤ (iv 9 3).toInt ∧ (iv 9 3).toInt ≤ 30 := hI.1 9 3
      refine gX_9_3 hx hb ht hown hK hP m_135 (v := (iv 9 3)) rfl dX9_firstAfter_4 ?_
      refine lv_icmp_ge (tgt := 38) hx hb dX9_firstAfter_7 (by decide) (fun c139 => ?_) (fun c139 => ?_)
      · have fc139 := z_le (rfl : ((iv 9 3)).toInt = _) (rfl : (x137_3).toInt = _) c139
        refine lv_iconst (v := (-1)) hx hb dX9_firstAfter_38 (by decide) ?_
        exact W.iret (v := (-1)) hx hb hr (fun t ht9 hW => ⟨(-1), rfl, ⟨by decide, by decide⟩, ht9⟩) (fun q hq => by cases hq) dX9_firstAfter_39
      · have fc139 := z_nle (rfl : ((iv 9 3)).toInt = _) (rfl : (x137_3).toInt = _) c139
        refine lv_aload_n hx hb dX9_firstAfter_10 rfl (lv_at hl 1 rfl) ?_
        refine gX_9_0 hx hb ht hown hK hP m_132 dX9_firstAfter_11 ?_
        refine lv_iload_n hx hb dX9_firstAfter_14 rfl (lv_at hl 0 rfl) ?_
        refine lX_9_0 hx hb hK hP (f := (fa 9 0)) rfl (vp_in_iff.mpr ⟨by omega, by omega⟩) dX9_firstAfter_15 ?_
        refine lv_topi (fun v140 ev140 => ?_)
        refine lv_iload_n hx hb dX9_firstAfter_16 rfl (lv_at hl 2 rfl) ?_
        refine lv_icmp_ne (tgt := 32) hx hb dX9_firstAfter_17 (by decide) (fun c141 => ?_) (fun c141 => ?_)
        · have fc141 := z_ne (rfl : (v140).toInt = _) (rfl : (a).toInt = _) c141
          obtain ⟨v142, ev142⟩ : ∃ y : Int32, y = x137_3 + 1 := ⟨_, rfl⟩
          have tv142 := z_add ev142 rfl (by decide : (1 : Int32).toInt = 1) (by omega) (by omega)
          refine lv_iinc (v := v142) (lv' := [(3, .int v142), (0, .ref (g 11 1)), (1, .int a), (2, .int b)]) hx hb dX9_firstAfter_32 hl (k := 0) rfl (by rw [ev142]; rfl) (by decide) rfl (fun ls hl => ?_)
          refine lv_goto (tgt := 2) hx hb dX9_firstAfter_35 (by decide) ?_
          exact ih138 v142 ⟨by omega, by omega⟩ (by omega) ls (lv_sub hl [0, 1, 2, 3] rfl)
        · have fc141 := z_eq (rfl : (v140).toInt = _) (rfl : (a).toInt = _) c141
          refine lv_aload_n hx hb dX9_firstAfter_20 rfl (lv_at hl 1 rfl) ?_
          refine gX_9_1 hx hb ht hown hK hP m_133 dX9_firstAfter_21 ?_
          refine lv_iload_n hx hb dX9_firstAfter_24 rfl (lv_at hl 0 rfl) ?_
          refine lX_9_1 hx hb hK hP (f := (fa 9 1)) rfl (vp_in_iff.mpr ⟨by omega, by omega⟩) dX9_firstAfter_25 ?_
          refine lv_topi (fun v143 ev143 => ?_)
          refine lv_iload_n hx hb dX9_firstAfter_26 rfl (lv_at hl 3 rfl) ?_
          refine lv_icmp_le (tgt := 32) hx hb dX9_firstAfter_27 (by decide) (fun c144 => ?_) (fun c144 => ?_)
          · have fc144 := z_le (rfl : (v143).toInt = _) (rfl : (b).toInt = _) c144
            obtain ⟨v145, ev145⟩ : ∃ y : Int32, y = x137_3 + 1 := ⟨_, rfl⟩
            have tv145 := z_add ev145 rfl (by decide : (1 : Int32).toInt = 1) (by omega) (by omega)
            refine lv_iinc (v := v145) (lv' := [(3, .int v145), (0, .ref (g 11 1)), (1, .int a), (2, .int b)]) hx hb dX9_firstAfter_32 hl (k := 0) rfl (by rw [ev145]; rfl) (by decide) rfl (fun ls hl => ?_)
            refine lv_goto (tgt := 2) hx hb dX9_firstAfter_35 (by decide) ?_
            exact ih138 v145 ⟨by omega, by omega⟩ (by omega) ls (lv_sub hl [0, 1, 2, 3] rfl)
          · have fc144 := z_nle (rfl : (v143).toInt = _) (rfl : (b).toInt = _) c144
            refine lv_iload_n hx hb dX9_firstAfter_30 rfl (lv_at hl 0 rfl) ?_
            exact W.iret (v := x137_3) hx hb hr (fun t ht9 hW => ⟨x137_3, rfl, ⟨by omega, by omega⟩, ht9⟩) (fun q hq => by cases hq) dX9_firstAfter_31
  exact lp138 31 0 ⟨by decide, by decide⟩ (by first | decide | omega) ls (lv_sub hl [0, 1, 2, 3] rfl)
set_option maxHeartbeats 4000000 in
set_option maxRecDepth 100000 in
/-- X9_driftOf -/
theorem c_X9_driftOf (l : Launch) (dC : Nat → ClassId) (dI : Nat → Nat → Nat) (h : Nat) (g : Nat → Nat → Nat) (ca : Nat → Nat → ClassId) (iv : Nat → Nat → Int32) (lv : Nat → Nat → Int64) (fa : Nat → Nat → Nat → Int32) (la : Nat → Nat → Nat → Int64) (hI : IX iv fa) (a : Int32) (b : Int32) (h_a : (-1) ≤ a.toInt ∧ a.toInt ≤ 29) (h_b : (-1) ≤ b.toInt ∧ b.toInt ≤ 29) : Met l yX9_driftOf (wc yX9_driftOf cX9_driftOf 3 (some .int)) ({ frames := 0, cells := 0, slots := 0, locals := 0 } : Room) (pR (dC, dI) classes (WX h g ca iv lv fa la) (TX ca) [.ref (g 11 1), .int a, .int b]) (vp_Si (fun r => True)) 0 0 (fun _ => False) := by
  refine Met.ofW (cc := cX9_driftOf) (maxL := 3) (ret := (some .int)) (by decide) rfl ?_
  intro p e s m args below meth c s₁ B hml hv
  obtain ⟨rfl, hP, hK⟩ := hv
  have hx := B.exec
  have hb := B.bytes
  have hr := B.returns
  have ht := tb_tl (atoms_spec (ws := wc yX9_driftOf cX9_driftOf 3 (some .int)) B.pre)
  have hown : s.vm.findClass RX9 = some m.cls := findClass_of_methodNamed B.named
  have hlocks := B.notSynchronized
  have hl := lv_entry [.ref (g 11 1), .int a, .int b] (n := 3) (Nat.le_of_ble_eq_true rfl)
  rw [lg_entry_eq]
  generalize (lg_sl [.ref (g 11 1), .int a, .int b] ++ List.replicate (3 - (lg_sl [.ref (g 11 1), .int a, .int b]).length) Slot.unset).toArray = ls at hl ⊢
  have hl : lv_has ls 3 [(0, .ref (g 11 1)), (1, .int a), (2, .int b)] := hl
  refine lv_iload_n hx hb dX9_driftOf_0 rfl (lv_at hl 1 rfl) ?_
  refine lv_iconst (v := (-1)) hx hb dX9_driftOf_1 (by decide) ?_
  refine lv_icmp_eq (tgt := 12) hx hb dX9_driftOf_2 (by decide) (fun c1 => ?_) (fun c1 => ?_)
  · have fc1 := z_eq (rfl : (a).toInt = _) (by decide : ((-1) : Int32).toInt = (-1)) c1
    refine lv_iload_n hx hb dX9_driftOf_12 rfl (lv_at hl 2 rfl) ?_
    refine lv_iconst (v := (-1)) hx hb dX9_driftOf_13 (by decide) ?_
    refine lv_icmp_ne (tgt := 21) hx hb dX9_driftOf_14 (by decide) (fun c2 => ?_) (fun c2 => ?_)
    · have fc2 := z_ne (rfl : (b).toInt = _) (by decide : ((-1) : Int32).toInt = (-1)) c2
      refine lv_aload_n hx hb dX9_driftOf_21 rfl (lv_at hl 0 rfl) ?_
      refine gX_9_2 hx hb ht hown hK hP m_134 dX9_driftOf_22 ?_
      refine lv_iload_n hx hb dX9_driftOf_25 rfl (lv_at hl 2 rfl) ?_
      refine lX_9_2 hx hb hK hP (f := (fa 9 2)) rfl (vp_in_iff.mpr ⟨by omega, by omega⟩) dX9_driftOf_26 ?_
      refine lv_topi (fun v3 ev3 => ?_)
      exact W.iret (v := v3) hx hb hr (fun t ht9 hW => ⟨v3, rfl, trivial, ht9⟩) (fun q hq => by cases hq) dX9_driftOf_27
    · have fc2 := z_eq (rfl : (b).toInt = _) (by decide : ((-1) : Int32).toInt = (-1)) c2
      refine lv_iconst (v := 0) hx hb dX9_driftOf_17 (by decide) ?_
      refine lv_goto (tgt := 27) hx hb dX9_driftOf_18 (by decide) ?_
      exact W.iret (v := 0) hx hb hr (fun t ht9 hW => ⟨0, rfl, trivial, ht9⟩) (fun q hq => by cases hq) dX9_driftOf_27
  · have fc1 := z_ne (rfl : (a).toInt = _) (by decide : ((-1) : Int32).toInt = (-1)) c1
    refine lv_aload_n hx hb dX9_driftOf_5 rfl (lv_at hl 0 rfl) ?_
    refine gX_9_2 hx hb ht hown hK hP m_134 dX9_driftOf_6 ?_
    refine lv_iload_n hx hb dX9_driftOf_9 rfl (lv_at hl 1 rfl) ?_
    refine lX_9_2 hx hb hK hP (f := (fa 9 2)) rfl (vp_in_iff.mpr ⟨by omega, by omega⟩) dX9_driftOf_10 ?_
    refine lv_topi (fun v4 ev4 => ?_)
    exact W.iret (v := v4) hx hb hr (fun t ht9 hW => ⟨v4, rfl, trivial, ht9⟩) (fun q hq => by cases hq) dX9_driftOf_11
set_option maxHeartbeats 4000000 in
set_option maxRecDepth 100000 in
/-- X9_least -/
theorem c_X9_least (l : Launch) (dC : Nat → ClassId) (dI : Nat → Nat → Nat) (h : Nat) (g : Nat → Nat → Nat) (ca : Nat → Nat → ClassId) (iv : Nat → Nat → Int32) (lv : Nat → Nat → Int64) (fa : Nat → Nat → Nat → Int32) (la : Nat → Nat → Nat → Int64) (hI : IX iv fa) (a : Int32) (b : Int32) : Met l yX9_least (wc yX9_least cX9_least 5 (some .int)) ({ frames := 1, cells := 0, slots := 0, locals := 40 } : Room) (pR (dC, dI) classes (WX h g ca iv lv fa la) (TX ca) [.ref (g 11 1), .int a, .int b]) (vp_Si (fun r => True)) 0 0 (fun _ => False) := by
  refine Met.ofW (cc := cX9_least) (maxL := 5) (ret := (some .int)) (by decide) rfl ?_
  intro p e s m args below meth c s₁ B hml hv
  obtain ⟨rfl, hP, hK⟩ := hv
  have hx := B.exec
  have hb := B.bytes
  have hr := B.returns
  have ht := tb_tl (atoms_spec (ws := wc yX9_least cX9_least 5 (some .int)) B.pre)
  have hown : s.vm.findClass RX9 = some m.cls := findClass_of_methodNamed B.named
  have hlocks := B.notSynchronized
  have hl := lv_entry [.ref (g 11 1), .int a, .int b] (n := 5) (Nat.le_of_ble_eq_true rfl)
  rw [lg_entry_eq]
  generalize (lg_sl [.ref (g 11 1), .int a, .int b] ++ List.replicate (5 - (lg_sl [.ref (g 11 1), .int a, .int b]).length) Slot.unset).toArray = ls at hl ⊢
  have hl : lv_has ls 5 [(0, .ref (g 11 1)), (1, .int a), (2, .int b)] := hl
  refine lv_aload_n hx hb dX9_least_0 rfl (lv_at hl 0 rfl) ?_
  refine lv_iload_n hx hb dX9_least_1 rfl (lv_at hl 1 rfl) ?_
  refine lv_iload_n hx hb dX9_least_2 rfl (lv_at hl 2 rfl) ?_
  refine vp_callSi (W.runV (As := [.int a, .int b]) (rest := []) ⟨hx, hb, hml, hown, ht⟩ (c_X9_lastBy l dC dI h g ca iv lv fa la hI a b) (kV 2 ht m_538 m_540 m_1 m_79 m_541 rfl rfl hd_X9_lastBy_v ⟨Nat.le_of_ble_eq_true rfl, Nat.le_of_ble_eq_true rfl⟩) (vR hP hK (rX_9 hK hP)) rfl rfl hl.1 rfl (lv_room (Nat.le_of_ble_eq_true rfl)) dX9_least_3 ⟨Nat.le_of_ble_eq_true rfl, Nat.le_of_ble_eq_true rfl⟩) (fun r1 hr1 => ?_)
  refine lv_istore_n (lv' := [(3, .int r1), (0, .ref (g 11 1)), (1, .int a), (2, .int b)]) hx hb dX9_least_6 rfl hl (by decide) rfl (fun ls hl => ?_)
  refine lv_aload_n hx hb dX9_least_7 rfl (lv_at hl 1 rfl) ?_
  refine lv_iload_n hx hb dX9_least_8 rfl (lv_at hl 2 rfl) ?_
  refine lv_iload_n hx hb dX9_least_9 rfl (lv_at hl 3 rfl) ?_
  refine vp_callSi (W.runV (As := [.int a, .int b]) (rest := []) ⟨hx, hb, hml, hown, ht⟩ (c_X9_firstAfter l dC dI h g ca iv lv fa la hI a b) (kV 2 ht m_542 m_544 m_2 m_79 m_545 rfl rfl hd_X9_firstAfter_v ⟨Nat.le_of_ble_eq_true rfl, Nat.le_of_ble_eq_true rfl⟩) (vR hP hK (rX_9 hK hP)) rfl rfl hl.1 rfl (lv_room (Nat.le_of_ble_eq_true rfl)) dX9_least_10 ⟨Nat.le_of_ble_eq_true rfl, Nat.le_of_ble_eq_true rfl⟩) (fun r2 hr2 => ?_)
  refine lv_istore (lv' := [(4, .int r2), (3, .int r1), (0, .ref (g 11 1)), (1, .int a), (2, .int b)]) hx hb dX9_least_13 hl (by decide) rfl (fun ls hl => ?_)
  refine lv_aload_n hx hb dX9_least_15 rfl (lv_at hl 2 rfl) ?_
  refine lv_iload_n hx hb dX9_least_16 rfl (lv_at hl 1 rfl) ?_
  refine lv_iload hx hb dX9_least_17 (lv_at hl 0 rfl) ?_
  refine vp_callSi (W.runV (As := [.int r1, .int r2]) (rest := []) ⟨hx, hb, hml, hown, ht⟩ (c_X9_driftOf l dC dI h g ca iv lv fa la hI r1 r2 ⟨by omega, by omega⟩ ⟨by omega, by omega⟩) (kV 2 ht m_546 m_548 m_3 m_79 m_549 rfl rfl hd_X9_driftOf_v ⟨Nat.le_of_ble_eq_true rfl, Nat.le_of_ble_eq_true rfl⟩) (vR hP hK (rX_9 hK hP)) rfl rfl hl.1 rfl (lv_room (Nat.le_of_ble_eq_true rfl)) dX9_least_19 ⟨Nat.le_of_ble_eq_true rfl, Nat.le_of_ble_eq_true rfl⟩) (fun r3 hr3 => ?_)
  refine lv_aload_n hx hb dX9_least_22 rfl (lv_at hl 2 rfl) ?_
  refine lv_iload hx hb dX9_least_23 (lv_at hl 0 rfl) ?_
  refine lv_iload_n hx hb dX9_least_25 rfl (lv_at hl 1 rfl) ?_
  refine vp_callSi (W.runV (As := [.int r2, .int r1]) (rest := [.int r3]) ⟨hx, hb, hml, hown, ht⟩ (c_X9_driftOf l dC dI h g ca iv lv fa la hI r2 r1 ⟨by omega, by omega⟩ ⟨by omega, by omega⟩) (kV 2 ht m_546 m_548 m_3 m_79 m_549 rfl rfl hd_X9_driftOf_v ⟨Nat.le_of_ble_eq_true rfl, Nat.le_of_ble_eq_true rfl⟩) (vR hP hK (rX_9 hK hP)) rfl rfl hl.1 rfl (lv_room (Nat.le_of_ble_eq_true rfl)) dX9_least_26 ⟨Nat.le_of_ble_eq_true rfl, Nat.le_of_ble_eq_true rfl⟩) (fun r4 hr4 => ?_)
  refine va_mmin hx hb (hml.trans hl.1.symm) hown (ht _ m_550) (ht _ m_551) (ht _ m_90) (ht _ m_552) (Nat.le_of_ble_eq_true rfl) (Nat.le_of_ble_eq_true rfl) (Nat.le_of_ble_eq_true rfl) (Nat.le_of_ble_eq_true rfl) dX9_least_29 ?_
  refine lv_topi (fun v5 ev5 => ?_)
  have tv5 := mm_or ev5
  have uv5 := mm_min ev5 (rfl : (r3).toInt = _) (rfl : (r4).toInt = _)
  exact W.iret (v := v5) hx hb hr (fun t ht9 hW => ⟨v5, rfl, trivial, ht9⟩) (fun q hq => by cases hq) dX9_least_32
set_option maxHeartbeats 4000000 in
set_option maxRecDepth 100000 in
/-- X9_greatest -/
theorem c_X9_greatest (l : Launch) (dC : Nat → ClassId) (dI : Nat → Nat → Nat) (h : Nat) (g : Nat → Nat → Nat) (ca : Nat → Nat → ClassId) (iv : Nat → Nat → Int32) (lv : Nat → Nat → Int64) (fa : Nat → Nat → Nat → Int32) (la : Nat → Nat → Nat → Int64) (hI : IX iv fa) (a : Int32) (b : Int32) : Met l yX9_greatest (wc yX9_greatest cX9_greatest 5 (some .int)) ({ frames := 1, cells := 0, slots := 0, locals := 40 } : Room) (pR (dC, dI) classes (WX h g ca iv lv fa la) (TX ca) [.ref (g 11 1), .int a, .int b]) (vp_Si (fun r => True)) 0 0 (fun _ => False) := by
  refine Met.ofW (cc := cX9_greatest) (maxL := 5) (ret := (some .int)) (by decide) rfl ?_
  intro p e s m args below meth c s₁ B hml hv
  obtain ⟨rfl, hP, hK⟩ := hv
  have hx := B.exec
  have hb := B.bytes
  have hr := B.returns
  have ht := tb_tl (atoms_spec (ws := wc yX9_greatest cX9_greatest 5 (some .int)) B.pre)
  have hown : s.vm.findClass RX9 = some m.cls := findClass_of_methodNamed B.named
  have hlocks := B.notSynchronized
  have hl := lv_entry [.ref (g 11 1), .int a, .int b] (n := 5) (Nat.le_of_ble_eq_true rfl)
  rw [lg_entry_eq]
  generalize (lg_sl [.ref (g 11 1), .int a, .int b] ++ List.replicate (5 - (lg_sl [.ref (g 11 1), .int a, .int b]).length) Slot.unset).toArray = ls at hl ⊢
  have hl : lv_has ls 5 [(0, .ref (g 11 1)), (1, .int a), (2, .int b)] := hl
  refine lv_aload_n hx hb dX9_greatest_0 rfl (lv_at hl 0 rfl) ?_
  refine lv_iload_n hx hb dX9_greatest_1 rfl (lv_at hl 1 rfl) ?_
  refine lv_iload_n hx hb dX9_greatest_2 rfl (lv_at hl 2 rfl) ?_
  refine vp_callSi (W.runV (As := [.int a, .int b]) (rest := []) ⟨hx, hb, hml, hown, ht⟩ (c_X9_lastBy l dC dI h g ca iv lv fa la hI a b) (kV 2 ht m_538 m_540 m_1 m_79 m_541 rfl rfl hd_X9_lastBy_v ⟨Nat.le_of_ble_eq_true rfl, Nat.le_of_ble_eq_true rfl⟩) (vR hP hK (rX_9 hK hP)) rfl rfl hl.1 rfl (lv_room (Nat.le_of_ble_eq_true rfl)) dX9_greatest_3 ⟨Nat.le_of_ble_eq_true rfl, Nat.le_of_ble_eq_true rfl⟩) (fun r1 hr1 => ?_)
  refine lv_istore_n (lv' := [(3, .int r1), (0, .ref (g 11 1)), (1, .int a), (2, .int b)]) hx hb dX9_greatest_6 rfl hl (by decide) rfl (fun ls hl => ?_)
  refine lv_aload_n hx hb dX9_greatest_7 rfl (lv_at hl 1 rfl) ?_
  refine lv_iload_n hx hb dX9_greatest_8 rfl (lv_at hl 2 rfl) ?_
  refine lv_iload_n hx hb dX9_greatest_9 rfl (lv_at hl 3 rfl) ?_
  refine vp_callSi (W.runV (As := [.int a, .int b]) (rest := []) ⟨hx, hb, hml, hown, ht⟩ (c_X9_firstAfter l dC dI h g ca iv lv fa la hI a b) (kV 2 ht m_542 m_544 m_2 m_79 m_545 rfl rfl hd_X9_firstAfter_v ⟨Nat.le_of_ble_eq_true rfl, Nat.le_of_ble_eq_true rfl⟩) (vR hP hK (rX_9 hK hP)) rfl rfl hl.1 rfl (lv_room (Nat.le_of_ble_eq_true rfl)) dX9_greatest_10 ⟨Nat.le_of_ble_eq_true rfl, Nat.le_of_ble_eq_true rfl⟩) (fun r2 hr2 => ?_)
  refine lv_istore (lv' := [(4, .int r2), (3, .int r1), (0, .ref (g 11 1)), (1, .int a), (2, .int b)]) hx hb dX9_greatest_13 hl (by decide) rfl (fun ls hl => ?_)
  refine lv_aload_n hx hb dX9_greatest_15 rfl (lv_at hl 2 rfl) ?_
  refine lv_iload_n hx hb dX9_greatest_16 rfl (lv_at hl 1 rfl) ?_
  refine lv_iload hx hb dX9_greatest_17 (lv_at hl 0 rfl) ?_
  refine vp_callSi (W.runV (As := [.int r1, .int r2]) (rest := []) ⟨hx, hb, hml, hown, ht⟩ (c_X9_driftOf l dC dI h g ca iv lv fa la hI r1 r2 ⟨by omega, by omega⟩ ⟨by omega, by omega⟩) (kV 2 ht m_546 m_548 m_3 m_79 m_549 rfl rfl hd_X9_driftOf_v ⟨Nat.le_of_ble_eq_true rfl, Nat.le_of_ble_eq_true rfl⟩) (vR hP hK (rX_9 hK hP)) rfl rfl hl.1 rfl (lv_room (Nat.le_of_ble_eq_true rfl)) dX9_greatest_19 ⟨Nat.le_of_ble_eq_true rfl, Nat.le_of_ble_eq_true rfl⟩) (fun r3 hr3 => ?_)
  refine lv_aload_n hx hb dX9_greatest_22 rfl (lv_at hl 2 rfl) ?_
  refine lv_iload hx hb dX9_greatest_23 (lv_at hl 0 rfl) ?_
  refine lv_iload_n hx hb dX9_greatest_25 rfl (lv_at hl 1 rfl) ?_
  refine vp_callSi (W.runV (As := [.int r2, .int r1]) (rest := [.int r3]) ⟨hx, hb, hml, hown, ht⟩ (c_X9_driftOf l dC dI h g ca iv lv fa la hI r2 r1 ⟨by omega, by omega⟩ ⟨by omega, by omega⟩) (kV 2 ht m_546 m_548 m_3 m_79 m_549 rfl rfl hd_X9_driftOf_v ⟨Nat.le_of_ble_eq_true rfl, Nat.le_of_ble_eq_true rfl⟩) (vR hP hK (rX_9 hK hP)) rfl rfl hl.1 rfl (lv_room (Nat.le_of_ble_eq_true rfl)) dX9_greatest_26 ⟨Nat.le_of_ble_eq_true rfl, Nat.le_of_ble_eq_true rfl⟩) (fun r4 hr4 => ?_)
  refine va_mmax hx hb (hml.trans hl.1.symm) hown (ht _ m_557) (ht _ m_558) (ht _ m_90) (ht _ m_559) (Nat.le_of_ble_eq_true rfl) (Nat.le_of_ble_eq_true rfl) (Nat.le_of_ble_eq_true rfl) (Nat.le_of_ble_eq_true rfl) dX9_greatest_29 ?_
  refine lv_topi (fun v5 ev5 => ?_)
  have tv5 := mm_or ev5
  have uv5 := mm_max ev5 (rfl : (r3).toInt = _) (rfl : (r4).toInt = _)
  exact W.iret (v := v5) hx hb hr (fun t ht9 hW => ⟨v5, rfl, trivial, ht9⟩) (fun q hq => by cases hq) dX9_greatest_32
