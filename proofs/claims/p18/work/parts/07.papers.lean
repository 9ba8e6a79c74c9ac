/-! ===== papers ===== -/
theorem m_88 : Cond.initialized RX6 ∈ tb := mb_1_0 _ (List.mem_of_getElem? (i := 11) rfl)
theorem m_383 : Cond.fieldLink RX6 11 "SilkHouse$Papers" "kind" "[I" ∈ tb := mb_2_1 _ (List.mem_of_getElem? (i := 5) rfl)
theorem m_385 : Cond.fieldLink RX6 15 "SilkHouse$Papers" "bale" "[I" ∈ tb := mb_2_1 _ (List.mem_of_getElem? (i := 7) rfl)
theorem m_387 : Cond.fieldLink RX6 18 "SilkHouse$Papers" "amount" "[I" ∈ tb := mb_2_1 _ (List.mem_of_getElem? (i := 9) rfl)
theorem m_389 : Cond.fieldLink RX6 21 "SilkHouse$Papers" "on" "[I" ∈ tb := mb_2_1 _ (List.mem_of_getElem? (i := 11) rfl)
theorem m_391 : Cond.fieldLink RX6 24 "SilkHouse$Papers" "day" "[I" ∈ tb := mb_2_1 _ (List.mem_of_getElem? (i := 13) rfl)
theorem m_393 : Cond.fieldLink RX6 27 "SilkHouse$Papers" "undone" "[I" ∈ tb := mb_2_1 _ (List.mem_of_getElem? (i := 15) rfl)
theorem m_395 : Cond.fieldLink RX6 30 "SilkHouse$Papers" "falls" "[Z" ∈ tb := mb_2_1 _ (List.mem_of_getElem? (i := 17) rfl)
theorem m_396 : Cond.fieldLink RX6 34 "SilkHouse$Papers" "number" "I" ∈ tb := mb_2_1 _ (List.mem_of_getElem? (i := 18) rfl)
theorem m_664 : Cond.instanceMethod yX6_isCertificate ∈ tb := mb_3_3 _ (List.mem_of_getElem? (i := 23) rfl)
theorem m_665 : Cond.selects RX6 yX6_isCertificate yX6_isCertificate ∈ tb := mb_3_4 _ (List.mem_of_getElem? (i := 0) rfl)
theorem m_666 : Cond.code yX6_isCertificate cX6_isCertificate 2 (some .boolean) ∈ tb := mb_3_4 _ (List.mem_of_getElem? (i := 1) rfl)
theorem m_1078 : Cond.methodLink RX6 38 yX6_isCertificate ∈ tb := mb_5_1 _ (List.mem_of_getElem? (i := 15) rfl)
theorem m_1079 : Cond.methodLink RX6 42 yX6_isUndone ∈ tb := mb_5_1 _ (List.mem_of_getElem? (i := 16) rfl)
theorem m_1080 : Cond.instanceMethod yX6_isUndone ∈ tb := mb_5_1 _ (List.mem_of_getElem? (i := 17) rfl)
theorem m_1081 : Cond.selects RX6 yX6_isUndone yX6_isUndone ∈ tb := mb_5_1 _ (List.mem_of_getElem? (i := 18) rfl)
theorem m_1082 : Cond.code yX6_isUndone cX6_isUndone 2 (some .boolean) ∈ tb := mb_5_1 _ (List.mem_of_getElem? (i := 19) rfl)
theorem m_1096 : Cond.instanceMethod yX6_has ∈ tb := mb_5_2 _ (List.mem_of_getElem? (i := 9) rfl)
theorem m_1097 : Cond.selects RX6 yX6_has yX6_has ∈ tb := mb_5_2 _ (List.mem_of_getElem? (i := 10) rfl)
theorem m_1098 : Cond.code yX6_has cX6_has 2 (some .boolean) ∈ tb := mb_5_2 _ (List.mem_of_getElem? (i := 11) rfl)
theorem m_1116 : Cond.methodLink RX6 45 yX6_has ∈ tb := mb_5_3 _ (List.mem_of_getElem? (i := 5) rfl)
theorem hd_X6_has_v : yX6_has.cls = RX6 ∧ yX6_has.cls ≠ "java/lang/invoke/MethodHandle" ∧ yX6_has.cls ≠ "java/lang/invoke/VarHandle" ∧ (parseMethodDescriptor yX6_has.desc).map (fun d => d.parameters.length) = some 1 := by decide +kernel
theorem hd_X6_isCertificate_v : yX6_isCertificate.cls = RX6 ∧ yX6_isCertificate.cls ≠ "java/lang/invoke/MethodHandle" ∧ yX6_isCertificate.cls ≠ "java/lang/invoke/VarHandle" ∧ (parseMethodDescriptor yX6_isCertificate.desc).map (fun d => d.parameters.length) = some 1 := by decide +kernel
theorem hd_X6_isUndone_v : yX6_isUndone.cls = RX6 ∧ yX6_isUndone.cls ≠ "java/lang/invoke/MethodHandle" ∧ yX6_isUndone.cls ≠ "java/lang/invoke/VarHandle" ∧ (parseMethodDescriptor yX6_isUndone.desc).map (fun d => d.parameters.length) = some 1 := by decide +kernel
set_option maxRecDepth 100000 in
theorem dvX6_certified_0 : ([(0, .iconst 0, 1), (1, .istore_n 2, 1), (2, .iload_n 2, 1), (3, .aload_n 0, 1), (4, .getfield 34, 3), (7, .if_icmp .ge 37, 3), (10, .aload_n 0, 1), (11, .iload_n 2, 1), (12, .invokevirtual 38, 3), (15, .ifCond .eq 23, 3), (18, .aload_n 0, 1), (19, .getfield 15, 3), (22, .iload_n 2, 1), (23, .iaload, 1), (24, .iload_n 1, 1), (25, .if_icmp .ne 13, 3), (28, .aload_n 0, 1), (29, .iload_n 2, 1), (30, .invokevirtual 42, 3), (33, .ifCond .ne 5, 3), (36, .iconst 1, 1), (37, .ireturn, 1), (38, .iinc 2 1, 3), (41, .goto (-39), 3)] : List (Nat × Instr × Nat)).all (fun q => decide (decode cX6_certified q.1 = .ok (q.2.1, q.2.2))) = true := by decide +kernel
theorem dX6_certified_0 : decode cX6_certified 0 = .ok (.iconst 0, 1) := all_at dvX6_certified_0 0 rfl
theorem dX6_certified_1 : decode cX6_certified 1 = .ok (.istore_n 2, 1) := all_at dvX6_certified_0 1 rfl
theorem dX6_certified_2 : decode cX6_certified 2 = .ok (.iload_n 2, 1) := all_at dvX6_certified_0 2 rfl
theorem dX6_certified_3 : decode cX6_certified 3 = .ok (.aload_n 0, 1) := all_at dvX6_certified_0 3 rfl
theorem dX6_certified_4 : decode cX6_certified 4 = .ok (.getfield 34, 3) := all_at dvX6_certified_0 4 rfl
theorem dX6_certified_7 : decode cX6_certified 7 = .ok (.if_icmp .ge 37, 3) := all_at dvX6_certified_0 5 rfl
theorem dX6_certified_10 : decode cX6_certified 10 = .ok (.aload_n 0, 1) := all_at dvX6_certified_0 6 rfl
theorem dX6_certified_11 : decode cX6_certified 11 = .ok (.iload_n 2, 1) := all_at dvX6_certified_0 7 rfl
theorem dX6_certified_12 : decode cX6_certified 12 = .ok (.invokevirtual 38, 3) := all_at dvX6_certified_0 8 rfl
theorem dX6_certified_15 : decode cX6_certified 15 = .ok (.ifCond .eq 23, 3) := all_at dvX6_certified_0 9 rfl
theorem dX6_certified_18 : decode cX6_certified 18 = .ok (.aload_n 0, 1) := all_at dvX6_certified_0 10 rfl
theorem dX6_certified_19 : decode cX6_certified 19 = .ok (.getfield 15, 3) := all_at dvX6_certified_0 11 rfl
theorem dX6_certified_22 : decode cX6_certified 22 = .ok (.iload_n 2, 1) := all_at dvX6_certified_0 12 rfl
theorem dX6_certified_23 : decode cX6_certified 23 = .ok (.iaload, 1) := all_at dvX6_certified_0 13 rfl
theorem dX6_certified_24 : decode cX6_certified 24 = .ok (.iload_n 1, 1) := all_at dvX6_certified_0 14 rfl
theorem dX6_certified_25 : decode cX6_certified 25 = .ok (.if_icmp .ne 13, 3) := all_at dvX6_certified_0 15 rfl
theorem dX6_certified_28 : decode cX6_certified 28 = .ok (.aload_n 0, 1) := all_at dvX6_certified_0 16 rfl
theorem dX6_certified_29 : decode cX6_certified 29 = .ok (.iload_n 2, 1) := all_at dvX6_certified_0 17 rfl
theorem dX6_certified_30 : decode cX6_certified 30 = .ok (.invokevirtual 42, 3) := all_at dvX6_certified_0 18 rfl
theorem dX6_certified_33 : decode cX6_certified 33 = .ok (.ifCond .ne 5, 3) := all_at dvX6_certified_0 19 rfl
theorem dX6_certified_36 : decode cX6_certified 36 = .ok (.iconst 1, 1) := all_at dvX6_certified_0 20 rfl
theorem dX6_certified_37 : decode cX6_certified 37 = .ok (.ireturn, 1) := all_at dvX6_certified_0 21 rfl
theorem dX6_certified_38 : decode cX6_certified 38 = .ok (.iinc 2 1, 3) := all_at dvX6_certified_0 22 rfl
theorem dX6_certified_41 : decode cX6_certified 41 = .ok (.goto (-39), 3) := all_at dvX6_certified_0 23 rfl
theorem dX6_certified_44 : decode cX6_certified 44 = .ok (.iconst 0, 1) := by decide +kernel
theorem dX6_certified_45 : decode cX6_certified 45 = .ok (.ireturn, 1) := by decide +kernel
set_option maxRecDepth 100000 in
theorem dvX6_hanging_0 : ([(0, .iconst 0, 1), (1, .istore_n 2, 1), (2, .iconst 0, 1), (3, .istore_n 3, 1), (4, .iload_n 3, 1), (5, .aload_n 0, 1), (6, .getfield 34, 3), (9, .if_icmp .ge 22, 3), (12, .aload_n 0, 1), (13, .getfield 21, 3), (16, .iload_n 3, 1), (17, .iaload, 1), (18, .iload_n 1, 1), (19, .if_icmp .ne 6, 3), (22, .iinc 2 1, 3), (25, .iinc 3 1, 3), (28, .goto (-24), 3), (31, .iload_n 2, 1), (32, .ireturn, 1)] : List (Nat × Instr × Nat)).all (fun q => decide (decode cX6_hanging q.1 = .ok (q.2.1, q.2.2))) = true := by decide +kernel
theorem dX6_hanging_0 : decode cX6_hanging 0 = .ok (.iconst 0, 1) := all_at dvX6_hanging_0 0 rfl
theorem dX6_hanging_1 : decode cX6_hanging 1 = .ok (.istore_n 2, 1) := all_at dvX6_hanging_0 1 rfl
theorem dX6_hanging_2 : decode cX6_hanging 2 = .ok (.iconst 0, 1) := all_at dvX6_hanging_0 2 rfl
theorem dX6_hanging_3 : decode cX6_hanging 3 = .ok (.istore_n 3, 1) := all_at dvX6_hanging_0 3 rfl
theorem dX6_hanging_4 : decode cX6_hanging 4 = .ok (.iload_n 3, 1) := all_at dvX6_hanging_0 4 rfl
theorem dX6_hanging_5 : decode cX6_hanging 5 = .ok (.aload_n 0, 1) := all_at dvX6_hanging_0 5 rfl
theorem dX6_hanging_6 : decode cX6_hanging 6 = .ok (.getfield 34, 3) := all_at dvX6_hanging_0 6 rfl
theorem dX6_hanging_9 : decode cX6_hanging 9 = .ok (.if_icmp .ge 22, 3) := all_at dvX6_hanging_0 7 rfl
theorem dX6_hanging_12 : decode cX6_hanging 12 = .ok (.aload_n 0, 1) := all_at dvX6_hanging_0 8 rfl
theorem dX6_hanging_13 : decode cX6_hanging 13 = .ok (.getfield 21, 3) := all_at dvX6_hanging_0 9 rfl
theorem dX6_hanging_16 : decode cX6_hanging 16 = .ok (.iload_n 3, 1) := all_at dvX6_hanging_0 10 rfl
theorem dX6_hanging_17 : decode cX6_hanging 17 = .ok (.iaload, 1) := all_at dvX6_hanging_0 11 rfl
theorem dX6_hanging_18 : decode cX6_hanging 18 = .ok (.iload_n 1, 1) := all_at dvX6_hanging_0 12 rfl
theorem dX6_hanging_19 : decode cX6_hanging 19 = .ok (.if_icmp .ne 6, 3) := all_at dvX6_hanging_0 13 rfl
theorem dX6_hanging_22 : decode cX6_hanging 22 = .ok (.iinc 2 1, 3) := all_at dvX6_hanging_0 14 rfl
theorem dX6_hanging_25 : decode cX6_hanging 25 = .ok (.iinc 3 1, 3) := all_at dvX6_hanging_0 15 rfl
theorem dX6_hanging_28 : decode cX6_hanging 28 = .ok (.goto (-24), 3) := all_at dvX6_hanging_0 16 rfl
theorem dX6_hanging_31 : decode cX6_hanging 31 = .ok (.iload_n 2, 1) := all_at dvX6_hanging_0 17 rfl
theorem dX6_hanging_32 : decode cX6_hanging 32 = .ok (.ireturn, 1) := all_at dvX6_hanging_0 18 rfl
set_option maxRecDepth 100000 in
theorem dvX6_has_0 : ([(0, .iload_n 1, 1), (1, .ifCond .lt 15, 3), (4, .iload_n 1, 1), (5, .aload_n 0, 1), (6, .getfield 34, 3), (9, .if_icmp .ge 7, 3), (12, .iconst 1, 1), (13, .goto 4, 3), (16, .iconst 0, 1), (17, .ireturn, 1)] : List (Nat × Instr × Nat)).all (fun q => decide (decode cX6_has q.1 = .ok (q.2.1, q.2.2))) = true := by decide +kernel
theorem dX6_has_0 : decode cX6_has 0 = .ok (.iload_n 1, 1) := all_at dvX6_has_0 0 rfl
theorem dX6_has_1 : decode cX6_has 1 = .ok (.ifCond .lt 15, 3) := all_at dvX6_has_0 1 rfl
theorem dX6_has_4 : decode cX6_has 4 = .ok (.iload_n 1, 1) := all_at dvX6_has_0 2 rfl
theorem dX6_has_5 : decode cX6_has 5 = .ok (.aload_n 0, 1) := all_at dvX6_has_0 3 rfl
theorem dX6_has_6 : decode cX6_has 6 = .ok (.getfield 34, 3) := all_at dvX6_has_0 4 rfl
theorem dX6_has_9 : decode cX6_has 9 = .ok (.if_icmp .ge 7, 3) := all_at dvX6_has_0 5 rfl
theorem dX6_has_12 : decode cX6_has 12 = .ok (.iconst 1, 1) := all_at dvX6_has_0 6 rfl
theorem dX6_has_13 : decode cX6_has 13 = .ok (.goto 4, 3) := all_at dvX6_has_0 7 rfl
theorem dX6_has_16 : decode cX6_has 16 = .ok (.iconst 0, 1) := all_at dvX6_has_0 8 rfl
theorem dX6_has_17 : decode cX6_has 17 = .ok (.ireturn, 1) := all_at dvX6_has_0 9 rfl
set_option maxRecDepth 100000 in
theorem dvX6_hasRoom_0 : ([(0, .aload_n 0, 1), (1, .getfield 34, 3), (4, .iload_n 1, 1), (5, .iadd, 1), (6, .bipush 40, 2), (8, .if_icmp .gt 7, 3), (11, .iconst 1, 1), (12, .goto 4, 3), (15, .iconst 0, 1), (16, .ireturn, 1)] : List (Nat × Instr × Nat)).all (fun q => decide (decode cX6_hasRoom q.1 = .ok (q.2.1, q.2.2))) = true := by decide +kernel
theorem dX6_hasRoom_0 : decode cX6_hasRoom 0 = .ok (.aload_n 0, 1) := all_at dvX6_hasRoom_0 0 rfl
theorem dX6_hasRoom_1 : decode cX6_hasRoom 1 = .ok (.getfield 34, 3) := all_at dvX6_hasRoom_0 1 rfl
theorem dX6_hasRoom_4 : decode cX6_hasRoom 4 = .ok (.iload_n 1, 1) := all_at dvX6_hasRoom_0 2 rfl
theorem dX6_hasRoom_5 : decode cX6_hasRoom 5 = .ok (.iadd, 1) := all_at dvX6_hasRoom_0 3 rfl
theorem dX6_hasRoom_6 : decode cX6_hasRoom 6 = .ok (.bipush 40, 2) := all_at dvX6_hasRoom_0 4 rfl
theorem dX6_hasRoom_8 : decode cX6_hasRoom 8 = .ok (.if_icmp .gt 7, 3) := all_at dvX6_hasRoom_0 5 rfl
theorem dX6_hasRoom_11 : decode cX6_hasRoom 11 = .ok (.iconst 1, 1) := all_at dvX6_hasRoom_0 6 rfl
theorem dX6_hasRoom_12 : decode cX6_hasRoom 12 = .ok (.goto 4, 3) := all_at dvX6_hasRoom_0 7 rfl
theorem dX6_hasRoom_15 : decode cX6_hasRoom 15 = .ok (.iconst 0, 1) := all_at dvX6_hasRoom_0 8 rfl
theorem dX6_hasRoom_16 : decode cX6_hasRoom 16 = .ok (.ireturn, 1) := all_at dvX6_hasRoom_0 9 rfl
set_option maxRecDepth 100000 in
theorem dvX6_isBilled_0 : ([(0, .iconst 0, 1), (1, .istore_n 2, 1), (2, .iload_n 2, 1), (3, .aload_n 0, 1), (4, .getfield 34, 3), (7, .if_icmp .ge 39, 3), (10, .aload_n 0, 1), (11, .getfield 11, 3), (14, .iload_n 2, 1), (15, .iaload, 1), (16, .iconst 1, 1), (17, .if_icmp .ne 23, 3), (20, .aload_n 0, 1), (21, .getfield 21, 3), (24, .iload_n 2, 1), (25, .iaload, 1), (26, .iload_n 1, 1), (27, .if_icmp .ne 13, 3), (30, .aload_n 0, 1), (31, .iload_n 2, 1), (32, .invokevirtual 42, 3), (35, .ifCond .ne 5, 3), (38, .iconst 1, 1), (39, .ireturn, 1)] : List (Nat × Instr × Nat)).all (fun q => decide (decode cX6_isBilled q.1 = .ok (q.2.1, q.2.2))) = true := by decide +kernel
theorem dX6_isBilled_0 : decode cX6_isBilled 0 = .ok (.iconst 0, 1) := all_at dvX6_isBilled_0 0 rfl
theorem dX6_isBilled_1 : decode cX6_isBilled 1 = .ok (.istore_n 2, 1) := all_at dvX6_isBilled_0 1 rfl
theorem dX6_isBilled_2 : decode cX6_isBilled 2 = .ok (.iload_n 2, 1) := all_at dvX6_isBilled_0 2 rfl
theorem dX6_isBilled_3 : decode cX6_isBilled 3 = .ok (.aload_n 0, 1) := all_at dvX6_isBilled_0 3 rfl
theorem dX6_isBilled_4 : decode cX6_isBilled 4 = .ok (.getfield 34, 3) := all_at dvX6_isBilled_0 4 rfl
theorem dX6_isBilled_7 : decode cX6_isBilled 7 = .ok (.if_icmp .ge 39, 3) := all_at dvX6_isBilled_0 5 rfl
theorem dX6_isBilled_10 : decode cX6_isBilled 10 = .ok (.aload_n 0, 1) := all_at dvX6_isBilled_0 6 rfl
theorem dX6_isBilled_11 : decode cX6_isBilled 11 = .ok (.getfield 11, 3) := all_at dvX6_isBilled_0 7 rfl
theorem dX6_isBilled_14 : decode cX6_isBilled 14 = .ok (.iload_n 2, 1) := all_at dvX6_isBilled_0 8 rfl
theorem dX6_isBilled_15 : decode cX6_isBilled 15 = .ok (.iaload, 1) := all_at dvX6_isBilled_0 9 rfl
theorem dX6_isBilled_16 : decode cX6_isBilled 16 = .ok (.iconst 1, 1) := all_at dvX6_isBilled_0 10 rfl
theorem dX6_isBilled_17 : decode cX6_isBilled 17 = .ok (.if_icmp .ne 23, 3) := all_at dvX6_isBilled_0 11 rfl
theorem dX6_isBilled_20 : decode cX6_isBilled 20 = .ok (.aload_n 0, 1) := all_at dvX6_isBilled_0 12 rfl
theorem dX6_isBilled_21 : decode cX6_isBilled 21 = .ok (.getfield 21, 3) := all_at dvX6_isBilled_0 13 rfl
theorem dX6_isBilled_24 : decode cX6_isBilled 24 = .ok (.iload_n 2, 1) := all_at dvX6_isBilled_0 14 rfl
theorem dX6_isBilled_25 : decode cX6_isBilled 25 = .ok (.iaload, 1) := all_at dvX6_isBilled_0 15 rfl
theorem dX6_isBilled_26 : decode cX6_isBilled 26 = .ok (.iload_n 1, 1) := all_at dvX6_isBilled_0 16 rfl
theorem dX6_isBilled_27 : decode cX6_isBilled 27 = .ok (.if_icmp .ne 13, 3) := all_at dvX6_isBilled_0 17 rfl
theorem dX6_isBilled_30 : decode cX6_isBilled 30 = .ok (.aload_n 0, 1) := all_at dvX6_isBilled_0 18 rfl
theorem dX6_isBilled_31 : decode cX6_isBilled 31 = .ok (.iload_n 2, 1) := all_at dvX6_isBilled_0 19 rfl
theorem dX6_isBilled_32 : decode cX6_isBilled 32 = .ok (.invokevirtual 42, 3) := all_at dvX6_isBilled_0 20 rfl
theorem dX6_isBilled_35 : decode cX6_isBilled 35 = .ok (.ifCond .ne 5, 3) := all_at dvX6_isBilled_0 21 rfl
theorem dX6_isBilled_38 : decode cX6_isBilled 38 = .ok (.iconst 1, 1) := all_at dvX6_isBilled_0 22 rfl
theorem dX6_isBilled_39 : decode cX6_isBilled 39 = .ok (.ireturn, 1) := all_at dvX6_isBilled_0 23 rfl
set_option maxRecDepth 100000 in
theorem dvX6_isBilled_40 : ([(40, .iinc 2 1, 3), (43, .goto (-41), 3), (46, .iconst 0, 1), (47, .ireturn, 1)] : List (Nat × Instr × Nat)).all (fun q => decide (decode cX6_isBilled q.1 = .ok (q.2.1, q.2.2))) = true := by decide +kernel
theorem dX6_isBilled_40 : decode cX6_isBilled 40 = .ok (.iinc 2 1, 3) := all_at dvX6_isBilled_40 0 rfl
theorem dX6_isBilled_43 : decode cX6_isBilled 43 = .ok (.goto (-41), 3) := all_at dvX6_isBilled_40 1 rfl
theorem dX6_isBilled_46 : decode cX6_isBilled 46 = .ok (.iconst 0, 1) := all_at dvX6_isBilled_40 2 rfl
theorem dX6_isBilled_47 : decode cX6_isBilled 47 = .ok (.ireturn, 1) := all_at dvX6_isBilled_40 3 rfl
set_option maxRecDepth 100000 in
theorem dvX6_isCertificate_0 : ([(0, .aload_n 0, 1), (1, .getfield 11, 3), (4, .iload_n 1, 1), (5, .iaload, 1), (6, .ifCond .ne 7, 3), (9, .iconst 1, 1), (10, .goto 4, 3), (13, .iconst 0, 1), (14, .ireturn, 1)] : List (Nat × Instr × Nat)).all (fun q => decide (decode cX6_isCertificate q.1 = .ok (q.2.1, q.2.2))) = true := by decide +kernel
theorem dX6_isCertificate_0 : decode cX6_isCertificate 0 = .ok (.aload_n 0, 1) := all_at dvX6_isCertificate_0 0 rfl
theorem dX6_isCertificate_1 : decode cX6_isCertificate 1 = .ok (.getfield 11, 3) := all_at dvX6_isCertificate_0 1 rfl
theorem dX6_isCertificate_4 : decode cX6_isCertificate 4 = .ok (.iload_n 1, 1) := all_at dvX6_isCertificate_0 2 rfl
theorem dX6_isCertificate_5 : decode cX6_isCertificate 5 = .ok (.iaload, 1) := all_at dvX6_isCertificate_0 3 rfl
theorem dX6_isCertificate_6 : decode cX6_isCertificate 6 = .ok (.ifCond .ne 7, 3) := all_at dvX6_isCertificate_0 4 rfl
theorem dX6_isCertificate_9 : decode cX6_isCertificate 9 = .ok (.iconst 1, 1) := all_at dvX6_isCertificate_0 5 rfl
theorem dX6_isCertificate_10 : decode cX6_isCertificate 10 = .ok (.goto 4, 3) := all_at dvX6_isCertificate_0 6 rfl
theorem dX6_isCertificate_13 : decode cX6_isCertificate 13 = .ok (.iconst 0, 1) := all_at dvX6_isCertificate_0 7 rfl
theorem dX6_isCertificate_14 : decode cX6_isCertificate 14 = .ok (.ireturn, 1) := all_at dvX6_isCertificate_0 8 rfl
set_option maxRecDepth 100000 in
theorem dvX6_isUndone_0 : ([(0, .aload_n 0, 1), (1, .getfield 27, 3), (4, .iload_n 1, 1), (5, .iaload, 1), (6, .iconst (-1), 1), (7, .if_icmp .eq 7, 3), (10, .iconst 1, 1), (11, .goto 4, 3), (14, .iconst 0, 1), (15, .ireturn, 1)] : List (Nat × Instr × Nat)).all (fun q => decide (decode cX6_isUndone q.1 = .ok (q.2.1, q.2.2))) = true := by decide +kernel
theorem dX6_isUndone_0 : decode cX6_isUndone 0 = .ok (.aload_n 0, 1) := all_at dvX6_isUndone_0 0 rfl
theorem dX6_isUndone_1 : decode cX6_isUndone 1 = .ok (.getfield 27, 3) := all_at dvX6_isUndone_0 1 rfl
theorem dX6_isUndone_4 : decode cX6_isUndone 4 = .ok (.iload_n 1, 1) := all_at dvX6_isUndone_0 2 rfl
theorem dX6_isUndone_5 : decode cX6_isUndone 5 = .ok (.iaload, 1) := all_at dvX6_isUndone_0 3 rfl
theorem dX6_isUndone_6 : decode cX6_isUndone 6 = .ok (.iconst (-1), 1) := all_at dvX6_isUndone_0 4 rfl
theorem dX6_isUndone_7 : decode cX6_isUndone 7 = .ok (.if_icmp .eq 7, 3) := all_at dvX6_isUndone_0 5 rfl
theorem dX6_isUndone_10 : decode cX6_isUndone 10 = .ok (.iconst 1, 1) := all_at dvX6_isUndone_0 6 rfl
theorem dX6_isUndone_11 : decode cX6_isUndone 11 = .ok (.goto 4, 3) := all_at dvX6_isUndone_0 7 rfl
theorem dX6_isUndone_14 : decode cX6_isUndone 14 = .ok (.iconst 0, 1) := all_at dvX6_isUndone_0 8 rfl
theorem dX6_isUndone_15 : decode cX6_isUndone 15 = .ok (.ireturn, 1) := all_at dvX6_isUndone_0 9 rfl
set_option maxRecDepth 100000 in
theorem dvX6_standing_0 : ([(0, .lconst 0, 1), (1, .lstore_n 3, 1), (2, .iconst 0, 1), (3, .istore 5, 2), (5, .iload 5, 2), (7, .aload_n 0, 1), (8, .getfield 34, 3), (11, .if_icmp .ge 76, 3), (14, .aload_n 0, 1), (15, .getfield 24, 3), (18, .iload 5, 2), (20, .iaload, 1), (21, .iload_n 1, 1), (22, .if_icmp .gt 29, 3), (25, .aload_n 0, 1), (26, .getfield 27, 3), (29, .iload 5, 2), (31, .iaload, 1), (32, .iconst (-1), 1), (33, .if_icmp .eq 14, 3), (36, .aload_n 0, 1), (37, .getfield 27, 3), (40, .iload 5, 2), (42, .iaload, 1)] : List (Nat × Instr × Nat)).all (fun q => decide (decode cX6_standing q.1 = .ok (q.2.1, q.2.2))) = true := by decide +kernel
theorem dX6_standing_0 : decode cX6_standing 0 = .ok (.lconst 0, 1) := all_at dvX6_standing_0 0 rfl
theorem dX6_standing_1 : decode cX6_standing 1 = .ok (.lstore_n 3, 1) := all_at dvX6_standing_0 1 rfl
theorem dX6_standing_2 : decode cX6_standing 2 = .ok (.iconst 0, 1) := all_at dvX6_standing_0 2 rfl
theorem dX6_standing_3 : decode cX6_standing 3 = .ok (.istore 5, 2) := all_at dvX6_standing_0 3 rfl
theorem dX6_standing_5 : decode cX6_standing 5 = .ok (.iload 5, 2) := all_at dvX6_standing_0 4 rfl
theorem dX6_standing_7 : decode cX6_standing 7 = .ok (.aload_n 0, 1) := all_at dvX6_standing_0 5 rfl
theorem dX6_standing_8 : decode cX6_standing 8 = .ok (.getfield 34, 3) := all_at dvX6_standing_0 6 rfl
theorem dX6_standing_11 : decode cX6_standing 11 = .ok (.if_icmp .ge 76, 3) := all_at dvX6_standing_0 7 rfl
theorem dX6_standing_14 : decode cX6_standing 14 = .ok (.aload_n 0, 1) := all_at dvX6_standing_0 8 rfl
theorem dX6_standing_15 : decode cX6_standing 15 = .ok (.getfield 24, 3) := all_at dvX6_standing_0 9 rfl
theorem dX6_standing_18 : decode cX6_standing 18 = .ok (.iload 5, 2) := all_at dvX6_standing_0 10 rfl
theorem dX6_standing_20 : decode cX6_standing 20 = .ok (.iaload, 1) := all_at dvX6_standing_0 11 rfl
theorem dX6_standing_21 : decode cX6_standing 21 = .ok (.iload_n 1, 1) := all_at dvX6_standing_0 12 rfl
theorem dX6_standing_22 : decode cX6_standing 22 = .ok (.if_icmp .gt 29, 3) := all_at dvX6_standing_0 13 rfl
theorem dX6_standing_25 : decode cX6_standing 25 = .ok (.aload_n 0, 1) := all_at dvX6_standing_0 14 rfl
theorem dX6_standing_26 : decode cX6_standing 26 = .ok (.getfield 27, 3) := all_at dvX6_standing_0 15 rfl
theorem dX6_standing_29 : decode cX6_standing 29 = .ok (.iload 5, 2) := all_at dvX6_standing_0 16 rfl
theorem dX6_standing_31 : decode cX6_standing 31 = .ok (.iaload, 1) := all_at dvX6_standing_0 17 rfl
theorem dX6_standing_32 : decode cX6_standing 32 = .ok (.iconst (-1), 1) := all_at dvX6_standing_0 18 rfl
theorem dX6_standing_33 : decode cX6_standing 33 = .ok (.if_icmp .eq 14, 3) := all_at dvX6_standing_0 19 rfl
theorem dX6_standing_36 : decode cX6_standing 36 = .ok (.aload_n 0, 1) := all_at dvX6_standing_0 20 rfl
theorem dX6_standing_37 : decode cX6_standing 37 = .ok (.getfield 27, 3) := all_at dvX6_standing_0 21 rfl
theorem dX6_standing_40 : decode cX6_standing 40 = .ok (.iload 5, 2) := all_at dvX6_standing_0 22 rfl
theorem dX6_standing_42 : decode cX6_standing 42 = .ok (.iaload, 1) := all_at dvX6_standing_0 23 rfl
set_option maxRecDepth 100000 in
theorem dvX6_standing_43 : ([(43, .iload_n 1, 1), (44, .if_icmp .le 7, 3), (47, .iconst 1, 1), (48, .goto 4, 3), (51, .iconst 0, 1), (52, .istore 6, 2), (54, .aload_n 0, 1), (55, .getfield 11, 3), (58, .iload 5, 2), (60, .iaload, 1), (61, .iload_n 2, 1), (62, .if_icmp .ne 19, 3), (65, .iload 6, 2), (67, .ifCond .eq 14, 3), (70, .lload_n 3, 1), (71, .aload_n 0, 1), (72, .getfield 18, 3), (75, .iload 5, 2), (77, .iaload, 1), (78, .i2l, 1), (79, .ladd, 1), (80, .lstore_n 3, 1), (81, .iinc 5 1, 3), (84, .goto (-79), 3)] : List (Nat × Instr × Nat)).all (fun q => decide (decode cX6_standing q.1 = .ok (q.2.1, q.2.2))) = true := by decide +kernel
theorem dX6_standing_43 : decode cX6_standing 43 = .ok (.iload_n 1, 1) := all_at dvX6_standing_43 0 rfl
theorem dX6_standing_44 : decode cX6_standing 44 = .ok (.if_icmp .le 7, 3) := all_at dvX6_standing_43 1 rfl
theorem dX6_standing_47 : decode cX6_standing 47 = .ok (.iconst 1, 1) := all_at dvX6_standing_43 2 rfl
theorem dX6_standing_48 : decode cX6_standing 48 = .ok (.goto 4, 3) := all_at dvX6_standing_43 3 rfl
theorem dX6_standing_51 : decode cX6_standing 51 = .ok (.iconst 0, 1) := all_at dvX6_standing_43 4 rfl
theorem dX6_standing_52 : decode cX6_standing 52 = .ok (.istore 6, 2) := all_at dvX6_standing_43 5 rfl
theorem dX6_standing_54 : decode cX6_standing 54 = .ok (.aload_n 0, 1) := all_at dvX6_standing_43 6 rfl
theorem dX6_standing_55 : decode cX6_standing 55 = .ok (.getfield 11, 3) := all_at dvX6_standing_43 7 rfl
theorem dX6_standing_58 : decode cX6_standing 58 = .ok (.iload 5, 2) := all_at dvX6_standing_43 8 rfl
theorem dX6_standing_60 : decode cX6_standing 60 = .ok (.iaload, 1) := all_at dvX6_standing_43 9 rfl
theorem dX6_standing_61 : decode cX6_standing 61 = .ok (.iload_n 2, 1) := all_at dvX6_standing_43 10 rfl
theorem dX6_standing_62 : decode cX6_standing 62 = .ok (.if_icmp .ne 19, 3) := all_at dvX6_standing_43 11 rfl
theorem dX6_standing_65 : decode cX6_standing 65 = .ok (.iload 6, 2) := all_at dvX6_standing_43 12 rfl
theorem dX6_standing_67 : decode cX6_standing 67 = .ok (.ifCond .eq 14, 3) := all_at dvX6_standing_43 13 rfl
theorem dX6_standing_70 : decode cX6_standing 70 = .ok (.lload_n 3, 1) := all_at dvX6_standing_43 14 rfl
theorem dX6_standing_71 : decode cX6_standing 71 = .ok (.aload_n 0, 1) := all_at dvX6_standing_43 15 rfl
theorem dX6_standing_72 : decode cX6_standing 72 = .ok (.getfield 18, 3) := all_at dvX6_standing_43 16 rfl
theorem dX6_standing_75 : decode cX6_standing 75 = .ok (.iload 5, 2) := all_at dvX6_standing_43 17 rfl
theorem dX6_standing_77 : decode cX6_standing 77 = .ok (.iaload, 1) := all_at dvX6_standing_43 18 rfl
theorem dX6_standing_78 : decode cX6_standing 78 = .ok (.i2l, 1) := all_at dvX6_standing_43 19 rfl
theorem dX6_standing_79 : decode cX6_standing 79 = .ok (.ladd, 1) := all_at dvX6_standing_43 20 rfl
theorem dX6_standing_80 : decode cX6_standing 80 = .ok (.lstore_n 3, 1) := all_at dvX6_standing_43 21 rfl
theorem dX6_standing_81 : decode cX6_standing 81 = .ok (.iinc 5 1, 3) := all_at dvX6_standing_43 22 rfl
theorem dX6_standing_84 : decode cX6_standing 84 = .ok (.goto (-79), 3) := all_at dvX6_standing_43 23 rfl
theorem dX6_standing_87 : decode cX6_standing 87 = .ok (.lload_n 3, 1) := by decide +kernel
theorem dX6_standing_88 : decode cX6_standing 88 = .ok (.lreturn, 1) := by decide +kernel
set_option maxRecDepth 100000 in
theorem dvX6_tear_0 : ([(0, .iconst 0, 1), (1, .istore_n 3, 1), (2, .iconst 0, 1), (3, .istore 4, 2), (5, .iload 4, 2), (7, .aload_n 0, 1), (8, .getfield 34, 3), (11, .if_icmp .ge 86, 3), (14, .aload_n 0, 1), (15, .getfield 30, 3), (18, .iload 4, 2), (20, .iload 4, 2), (22, .iload_n 1, 1), (23, .if_icmp .eq 32, 3), (26, .aload_n 0, 1), (27, .aload_n 0, 1), (28, .getfield 21, 3), (31, .iload 4, 2), (33, .iaload, 1), (34, .invokevirtual 45, 3), (37, .ifCond .eq 22, 3), (40, .aload_n 0, 1), (41, .getfield 30, 3), (44, .aload_n 0, 1)] : List (Nat × Instr × Nat)).all (fun q => decide (decode cX6_tear q.1 = .ok (q.2.1, q.2.2))) = true := by decide +kernel
theorem dX6_tear_0 : decode cX6_tear 0 = .ok (.iconst 0, 1) := all_at dvX6_tear_0 0 rfl
theorem dX6_tear_1 : decode cX6_tear 1 = .ok (.istore_n 3, 1) := all_at dvX6_tear_0 1 rfl
theorem dX6_tear_2 : decode cX6_tear 2 = .ok (.iconst 0, 1) := all_at dvX6_tear_0 2 rfl
theorem dX6_tear_3 : decode cX6_tear 3 = .ok (.istore 4, 2) := all_at dvX6_tear_0 3 rfl
theorem dX6_tear_5 : decode cX6_tear 5 = .ok (.iload 4, 2) := all_at dvX6_tear_0 4 rfl
theorem dX6_tear_7 : decode cX6_tear 7 = .ok (.aload_n 0, 1) := all_at dvX6_tear_0 5 rfl
theorem dX6_tear_8 : decode cX6_tear 8 = .ok (.getfield 34, 3) := all_at dvX6_tear_0 6 rfl
theorem dX6_tear_11 : decode cX6_tear 11 = .ok (.if_icmp .ge 86, 3) := all_at dvX6_tear_0 7 rfl
theorem dX6_tear_14 : decode cX6_tear 14 = .ok (.aload_n 0, 1) := all_at dvX6_tear_0 8 rfl
theorem dX6_tear_15 : decode cX6_tear 15 = .ok (.getfield 30, 3) := all_at dvX6_tear_0 9 rfl
theorem dX6_tear_18 : decode cX6_tear 18 = .ok (.iload 4, 2) := all_at dvX6_tear_0 10 rfl
theorem dX6_tear_20 : decode cX6_tear 20 = .ok (.iload 4, 2) := all_at dvX6_tear_0 11 rfl
theorem dX6_tear_22 : decode cX6_tear 22 = .ok (.iload_n 1, 1) := all_at dvX6_tear_0 12 rfl
theorem dX6_tear_23 : decode cX6_tear 23 = .ok (.if_icmp .eq 32, 3) := all_at dvX6_tear_0 13 rfl
theorem dX6_tear_26 : decode cX6_tear 26 = .ok (.aload_n 0, 1) := all_at dvX6_tear_0 14 rfl
theorem dX6_tear_27 : decode cX6_tear 27 = .ok (.aload_n 0, 1) := all_at dvX6_tear_0 15 rfl
theorem dX6_tear_28 : decode cX6_tear 28 = .ok (.getfield 21, 3) := all_at dvX6_tear_0 16 rfl
theorem dX6_tear_31 : decode cX6_tear 31 = .ok (.iload 4, 2) := all_at dvX6_tear_0 17 rfl
theorem dX6_tear_33 : decode cX6_tear 33 = .ok (.iaload, 1) := all_at dvX6_tear_0 18 rfl
theorem dX6_tear_34 : decode cX6_tear 34 = .ok (.invokevirtual 45, 3) := all_at dvX6_tear_0 19 rfl
theorem dX6_tear_37 : decode cX6_tear 37 = .ok (.ifCond .eq 22, 3) := all_at dvX6_tear_0 20 rfl
theorem dX6_tear_40 : decode cX6_tear 40 = .ok (.aload_n 0, 1) := all_at dvX6_tear_0 21 rfl
theorem dX6_tear_41 : decode cX6_tear 41 = .ok (.getfield 30, 3) := all_at dvX6_tear_0 22 rfl
theorem dX6_tear_44 : decode cX6_tear 44 = .ok (.aload_n 0, 1) := all_at dvX6_tear_0 23 rfl
set_option maxRecDepth 100000 in
theorem dvX6_tear_45 : ([(45, .getfield 21, 3), (48, .iload 4, 2), (50, .iaload, 1), (51, .baload, 1), (52, .ifCond .eq 7, 3), (55, .iconst 1, 1), (56, .goto 4, 3), (59, .iconst 0, 1), (60, .bastore, 1), (61, .aload_n 0, 1), (62, .getfield 30, 3), (65, .iload 4, 2), (67, .baload, 1), (68, .ifCond .eq 23, 3), (71, .aload_n 0, 1), (72, .iload 4, 2), (74, .invokevirtual 42, 3), (77, .ifCond .ne 14, 3), (80, .aload_n 0, 1), (81, .getfield 27, 3), (84, .iload 4, 2), (86, .iload_n 2, 1), (87, .iastore, 1), (88, .iinc 3 1, 3)] : List (Nat × Instr × Nat)).all (fun q => decide (decode cX6_tear q.1 = .ok (q.2.1, q.2.2))) = true := by decide +kernel
theorem dX6_tear_45 : decode cX6_tear 45 = .ok (.getfield 21, 3) := all_at dvX6_tear_45 0 rfl
theorem dX6_tear_48 : decode cX6_tear 48 = .ok (.iload 4, 2) := all_at dvX6_tear_45 1 rfl
theorem dX6_tear_50 : decode cX6_tear 50 = .ok (.iaload, 1) := all_at dvX6_tear_45 2 rfl
theorem dX6_tear_51 : decode cX6_tear 51 = .ok (.baload, 1) := all_at dvX6_tear_45 3 rfl
theorem dX6_tear_52 : decode cX6_tear 52 = .ok (.ifCond .eq 7, 3) := all_at dvX6_tear_45 4 rfl
theorem dX6_tear_55 : decode cX6_tear 55 = .ok (.iconst 1, 1) := all_at dvX6_tear_45 5 rfl
theorem dX6_tear_56 : decode cX6_tear 56 = .ok (.goto 4, 3) := all_at dvX6_tear_45 6 rfl
theorem dX6_tear_59 : decode cX6_tear 59 = .ok (.iconst 0, 1) := all_at dvX6_tear_45 7 rfl
theorem dX6_tear_60 : decode cX6_tear 60 = .ok (.bastore, 1) := all_at dvX6_tear_45 8 rfl
theorem dX6_tear_61 : decode cX6_tear 61 = .ok (.aload_n 0, 1) := all_at dvX6_tear_45 9 rfl
theorem dX6_tear_62 : decode cX6_tear 62 = .ok (.getfield 30, 3) := all_at dvX6_tear_45 10 rfl
theorem dX6_tear_65 : decode cX6_tear 65 = .ok (.iload 4, 2) := all_at dvX6_tear_45 11 rfl
theorem dX6_tear_67 : decode cX6_tear 67 = .ok (.baload, 1) := all_at dvX6_tear_45 12 rfl
theorem dX6_tear_68 : decode cX6_tear 68 = .ok (.ifCond .eq 23, 3) := all_at dvX6_tear_45 13 rfl
theorem dX6_tear_71 : decode cX6_tear 71 = .ok (.aload_n 0, 1) := all_at dvX6_tear_45 14 rfl
theorem dX6_tear_72 : decode cX6_tear 72 = .ok (.iload 4, 2) := all_at dvX6_tear_45 15 rfl
theorem dX6_tear_74 : decode cX6_tear 74 = .ok (.invokevirtual 42, 3) := all_at dvX6_tear_45 16 rfl
theorem dX6_tear_77 : decode cX6_tear 77 = .ok (.ifCond .ne 14, 3) := all_at dvX6_tear_45 17 rfl
theorem dX6_tear_80 : decode cX6_tear 80 = .ok (.aload_n 0, 1) := all_at dvX6_tear_45 18 rfl
theorem dX6_tear_81 : decode cX6_tear 81 = .ok (.getfield 27, 3) := all_at dvX6_tear_45 19 rfl
theorem dX6_tear_84 : decode cX6_tear 84 = .ok (.iload 4, 2) := all_at dvX6_tear_45 20 rfl
theorem dX6_tear_86 : decode cX6_tear 86 = .ok (.iload_n 2, 1) := all_at dvX6_tear_45 21 rfl
theorem dX6_tear_87 : decode cX6_tear 87 = .ok (.iastore, 1) := all_at dvX6_tear_45 22 rfl
theorem dX6_tear_88 : decode cX6_tear 88 = .ok (.iinc 3 1, 3) := all_at dvX6_tear_45 23 rfl
set_option maxRecDepth 100000 in
theorem dvX6_tear_91 : ([(91, .iinc 4 1, 3), (94, .goto (-89), 3), (97, .iload_n 3, 1), (98, .ireturn, 1)] : List (Nat × Instr × Nat)).all (fun q => decide (decode cX6_tear q.1 = .ok (q.2.1, q.2.2))) = true := by decide +kernel
theorem dX6_tear_91 : decode cX6_tear 91 = .ok (.iinc 4 1, 3) := all_at dvX6_tear_91 0 rfl
theorem dX6_tear_94 : decode cX6_tear 94 = .ok (.goto (-89), 3) := all_at dvX6_tear_91 1 rfl
theorem dX6_tear_97 : decode cX6_tear 97 = .ok (.iload_n 3, 1) := all_at dvX6_tear_91 2 rfl
theorem dX6_tear_98 : decode cX6_tear 98 = .ok (.ireturn, 1) := all_at dvX6_tear_91 3 rfl
set_option maxRecDepth 100000 in
theorem dvX6_write_0 : ([(0, .aload_n 0, 1), (1, .getfield 34, 3), (4, .istore 6, 2), (6, .aload_n 0, 1), (7, .getfield 11, 3), (10, .iload 6, 2), (12, .iload_n 1, 1), (13, .iastore, 1), (14, .aload_n 0, 1), (15, .getfield 15, 3), (18, .iload 6, 2), (20, .iload_n 2, 1), (21, .iastore, 1), (22, .aload_n 0, 1), (23, .getfield 18, 3), (26, .iload 6, 2), (28, .iload_n 3, 1), (29, .iastore, 1), (30, .aload_n 0, 1), (31, .getfield 21, 3), (34, .iload 6, 2), (36, .iload 4, 2), (38, .iastore, 1), (39, .aload_n 0, 1)] : List (Nat × Instr × Nat)).all (fun q => decide (decode cX6_write q.1 = .ok (q.2.1, q.2.2))) = true := by decide +kernel
theorem dX6_write_0 : decode cX6_write 0 = .ok (.aload_n 0, 1) := all_at dvX6_write_0 0 rfl
theorem dX6_write_1 : decode cX6_write 1 = .ok (.getfield 34, 3) := all_at dvX6_write_0 1 rfl
theorem dX6_write_4 : decode cX6_write 4 = .ok (.istore 6, 2) := all_at dvX6_write_0 2 rfl
theorem dX6_write_6 : decode cX6_write 6 = .ok (.aload_n 0, 1) := all_at dvX6_write_0 3 rfl
theorem dX6_write_7 : decode cX6_write 7 = .ok (.getfield 11, 3) := all_at dvX6_write_0 4 rfl
theorem dX6_write_10 : decode cX6_write 10 = .ok (.iload 6, 2) := all_at dvX6_write_0 5 rfl
theorem dX6_write_12 : decode cX6_write 12 = .ok (.iload_n 1, 1) := all_at dvX6_write_0 6 rfl
theorem dX6_write_13 : decode cX6_write 13 = .ok (.iastore, 1) := all_at dvX6_write_0 7 rfl
theorem dX6_write_14 : decode cX6_write 14 = .ok (.aload_n 0, 1) := all_at dvX6_write_0 8 rfl
theorem dX6_write_15 : decode cX6_write 15 = .ok (.getfield 15, 3) := all_at dvX6_write_0 9 rfl
theorem dX6_write_18 : decode cX6_write 18 = .ok (.iload 6, 2) := all_at dvX6_write_0 10 rfl
theorem dX6_write_20 : decode cX6_write 20 = .ok (.iload_n 2, 1) := all_at dvX6_write_0 11 rfl
theorem dX6_write_21 : decode cX6_write 21 = .ok (.iastore, 1) := all_at dvX6_write_0 12 rfl
theorem dX6_write_22 : decode cX6_write 22 = .ok (.aload_n 0, 1) := all_at dvX6_write_0 13 rfl
theorem dX6_write_23 : decode cX6_write 23 = .ok (.getfield 18, 3) := all_at dvX6_write_0 14 rfl
theorem dX6_write_26 : decode cX6_write 26 = .ok (.iload 6, 2) := all_at dvX6_write_0 15 rfl
theorem dX6_write_28 : decode cX6_write 28 = .ok (.iload_n 3, 1) := all_at dvX6_write_0 16 rfl
theorem dX6_write_29 : decode cX6_write 29 = .ok (.iastore, 1) := all_at dvX6_write_0 17 rfl
theorem dX6_write_30 : decode cX6_write 30 = .ok (.aload_n 0, 1) := all_at dvX6_write_0 18 rfl
theorem dX6_write_31 : decode cX6_write 31 = .ok (.getfield 21, 3) := all_at dvX6_write_0 19 rfl
theorem dX6_write_34 : decode cX6_write 34 = .ok (.iload 6, 2) := all_at dvX6_write_0 20 rfl
theorem dX6_write_36 : decode cX6_write 36 = .ok (.iload 4, 2) := all_at dvX6_write_0 21 rfl
theorem dX6_write_38 : decode cX6_write 38 = .ok (.iastore, 1) := all_at dvX6_write_0 22 rfl
theorem dX6_write_39 : decode cX6_write 39 = .ok (.aload_n 0, 1) := all_at dvX6_write_0 23 rfl
set_option maxRecDepth 100000 in
theorem dvX6_write_40 : ([(40, .getfield 24, 3), (43, .iload 6, 2), (45, .iload 5, 2), (47, .iastore, 1), (48, .aload_n 0, 1), (49, .getfield 27, 3), (52, .iload 6, 2), (54, .iconst (-1), 1), (55, .iastore, 1), (56, .aload_n 0, 1), (57, .dup, 1), (58, .getfield 34, 3), (61, .iconst 1, 1), (62, .iadd, 1), (63, .putfield 34, 3), (66, .iload 6, 2), (68, .ireturn, 1)] : List (Nat × Instr × Nat)).all (fun q => decide (decode cX6_write q.1 = .ok (q.2.1, q.2.2))) = true := by decide +kernel
theorem dX6_write_40 : decode cX6_write 40 = .ok (.getfield 24, 3) := all_at dvX6_write_40 0 rfl
theorem dX6_write_43 : decode cX6_write 43 = .ok (.iload 6, 2) := all_at dvX6_write_40 1 rfl
theorem dX6_write_45 : decode cX6_write 45 = .ok (.iload 5, 2) := all_at dvX6_write_40 2 rfl
theorem dX6_write_47 : decode cX6_write 47 = .ok (.iastore, 1) := all_at dvX6_write_40 3 rfl
theorem dX6_write_48 : decode cX6_write 48 = .ok (.aload_n 0, 1) := all_at dvX6_write_40 4 rfl
theorem dX6_write_49 : decode cX6_write 49 = .ok (.getfield 27, 3) := all_at dvX6_write_40 5 rfl
theorem dX6_write_52 : decode cX6_write 52 = .ok (.iload 6, 2) := all_at dvX6_write_40 6 rfl
theorem dX6_write_54 : decode cX6_write 54 = .ok (.iconst (-1), 1) := all_at dvX6_write_40 7 rfl
theorem dX6_write_55 : decode cX6_write 55 = .ok (.iastore, 1) := all_at dvX6_write_40 8 rfl
theorem dX6_write_56 : decode cX6_write 56 = .ok (.aload_n 0, 1) := all_at dvX6_write_40 9 rfl
theorem dX6_write_57 : decode cX6_write 57 = .ok (.dup, 1) := all_at dvX6_write_40 10 rfl
theorem dX6_write_58 : decode cX6_write 58 = .ok (.getfield 34, 3) := all_at dvX6_write_40 11 rfl
theorem dX6_write_61 : decode cX6_write 61 = .ok (.iconst 1, 1) := all_at dvX6_write_40 12 rfl
theorem dX6_write_62 : decode cX6_write 62 = .ok (.iadd, 1) := all_at dvX6_write_40 13 rfl
theorem dX6_write_63 : decode cX6_write 63 = .ok (.putfield 34, 3) := all_at dvX6_write_40 14 rfl
theorem dX6_write_66 : decode cX6_write 66 = .ok (.iload 6, 2) := all_at dvX6_write_40 15 rfl
theorem dX6_write_68 : decode cX6_write 68 = .ok (.ireturn, 1) := all_at dvX6_write_40 16 rfl
set_option maxHeartbeats 4000000 in
set_option maxRecDepth 100000 in
/-- X6_has -/
theorem c_X6_has (l : Launch) (dC : Nat → ClassId) (dI : Nat → Nat → Nat) (h : Nat) (g : Nat → Nat → Nat) (ca : Nat → Nat → ClassId) (iv : Nat → Nat → Int32) (lv : Nat → Nat → Int64) (fa : Nat → Nat → Nat → Int32) (la : Nat → Nat → Nat → Int64) (hI : IX iv fa) (b : Int32) : Met l yX6_has (wc yX6_has cX6_has 2 (some .boolean)) ({ frames := 0, cells := 0, slots := 0, locals := 0 } : Room) (pR (dC, dI) classes (WX h g ca iv lv fa la) (TX ca) [.ref (g 11 9), .int b]) (vp_Si (fun r => (r = 1 ∧ (0 ≤ b.toInt ∧ b.toInt < (iv 6 7).toInt)) ∨ (r = 0 ∧ ¬ (0 ≤ b.toInt ∧ b.toInt < (iv 6 7).toInt)))) 0 0 (fun _ => False) := by
  refine Met.ofW (cc := cX6_has) (maxL := 2) (ret := (some .boolean)) (by decide) rfl ?_
  intro p e s m args below meth c s₁ B hml hv
  obtain ⟨rfl, hP, hK⟩ := hv
  have hx := B.exec
  have hb := B.bytes
  have hr := B.returns
  have ht := tb_tl (atoms_spec (ws := wc yX6_has cX6_has 2 (some .boolean)) B.pre)
  have hown : s.vm.findClass RX6 = some m.cls := findClass_of_methodNamed B.named
  have hlocks := B.notSynchronized
  have hl := lv_entry [.ref (g 11 9), .int b] (n := 2) (Nat.le_of_ble_eq_true rfl)
  rw [lg_entry_eq]
  generalize (lg_sl [.ref (g 11 9), .int b] ++ List.replicate (2 - (lg_sl [.ref (g 11 9), .int b]).length) Slot.unset).toArray = ls at hl ⊢
  have hl : lv_has ls 2 [(0, .ref (g 11 9)), (1, .int b)] := hl
  refine lv_iload_n hx hb dX6_has_0 rfl (lv_at hl 1 rfl) ?_
  refine lv_if_lt (tgt := 16) hx hb dX6_has_1 (by decide) (fun c1 => ?_) (fun c1 => ?_)
  · have fc1 := z_lt (rfl : (b).toInt = _) (by decide : (0 : Int32).toInt = 0) c1
    refine lv_iconst (v := 0) hx hb dX6_has_16 (by decide) ?_
    exact W.zret (v := 0) hx hb hr rfl (fun t ht9 hW => ⟨0, rfl, Or.inr ⟨rfl, by omega⟩, ht9⟩) (fun q hq => by cases hq) dX6_has_17
  · have fc1 := z_nlt (rfl : (b).toInt = _) (by decide : (0 : Int32).toInt = 0) c1
    refine lv_iload_n hx hb dX6_has_4 rfl (lv_at hl 1 rfl) ?_
    refine lv_aload_n hx hb dX6_has_5 rfl (lv_at hl 0 rfl) ?_
    have i_6_7 : 0 ≤ (iv 6 7).toInt ∧ (iv 6 7).toInt ≤ 40 := hI.1 6 7
    refine gX_6_7 hx hb ht hown hK hP m_396 (v := (iv 6 7)) rfl dX6_has_6 ?_
    refine lv_icmp_ge (tgt := 16) hx hb dX6_has_9 (by decide) (fun c2 => ?_) (fun c2 => ?_)
    · have fc2 := z_le (rfl : ((iv 6 7)).toInt = _) (rfl : (b).toInt = _) c2
      refine lv_iconst (v := 0) hx hb dX6_has_16 (by decide) ?_
      exact W.zret (v := 0) hx hb hr rfl (fun t ht9 hW => ⟨0, rfl, Or.inr ⟨rfl, by omega⟩, ht9⟩) (fun q hq => by cases hq) dX6_has_17
    · have fc2 := z_nle (rfl : ((iv 6 7)).toInt = _) (rfl : (b).toInt = _) c2
      refine lv_iconst (v := 1) hx hb dX6_has_12 (by decide) ?_
      refine lv_goto (tgt := 17) hx hb dX6_has_13 (by decide) ?_
      exact W.zret (v := 1) hx hb hr rfl (fun t ht9 hW => ⟨1, rfl, Or.inl ⟨rfl, by omega⟩, ht9⟩) (fun q hq => by cases hq) dX6_has_17
set_option maxHeartbeats 4000000 in
set_option maxRecDepth 100000 in
/-- X6_isCertificate -/
theorem c_X6_isCertificate (l : Launch) (dC : Nat → ClassId) (dI : Nat → Nat → Nat) (h : Nat) (g : Nat → Nat → Nat) (ca : Nat → Nat → ClassId) (iv : Nat → Nat → Int32) (lv : Nat → Nat → Int64) (fa : Nat → Nat → Nat → Int32) (la : Nat → Nat → Nat → Int64) (hI : IX iv fa) (a : Int32) (h_a : 0 ≤ a.toInt ∧ a.toInt ≤ 39) : Met l yX6_isCertificate (wc yX6_isCertificate cX6_isCertificate 2 (some .boolean)) ({ frames := 0, cells := 0, slots := 0, locals := 0 } : Room) (pR (dC, dI) classes (WX h g ca iv lv fa la) (TX ca) [.ref (g 11 9), .int a]) (vp_Si (fun r => 0 ≤ r.toInt ∧ r.toInt ≤ 1)) 0 0 (fun _ => False) := by
  refine Met.ofW (cc := cX6_isCertificate) (maxL := 2) (ret := (some .boolean)) (by decide) rfl ?_
  intro p e s m args below meth c s₁ B hml hv
  obtain ⟨rfl, hP, hK⟩ := hv
  have hx := B.exec
  have hb := B.bytes
  have hr := B.returns
  have ht := tb_tl (atoms_spec (ws := wc yX6_isCertificate cX6_isCertificate 2 (some .boolean)) B.pre)
  have hown : s.vm.findClass RX6 = some m.cls := findClass_of_methodNamed B.named
  have hlocks := B.notSynchronized
  have hl := lv_entry [.ref (g 11 9), .int a] (n := 2) (Nat.le_of_ble_eq_true rfl)
  rw [lg_entry_eq]
  generalize (lg_sl [.ref (g 11 9), .int a] ++ List.replicate (2 - (lg_sl [.ref (g 11 9), .int a]).length) Slot.unset).toArray = ls at hl ⊢
  have hl : lv_has ls 2 [(0, .ref (g 11 9)), (1, .int a)] := hl
  refine lv_aload_n hx hb dX6_isCertificate_0 rfl (lv_at hl 0 rfl) ?_
  refine gX_6_0 hx hb ht hown hK hP m_383 dX6_isCertificate_1 ?_
  refine lv_iload_n hx hb dX6_isCertificate_4 rfl (lv_at hl 1 rfl) ?_
  refine lX_6_0 hx hb hK hP (f := (fa 6 0)) rfl (vp_in_iff.mpr ⟨by omega, by omega⟩) dX6_isCertificate_5 ?_
  refine lv_topi (fun v1 ev1 => ?_)
  refine lv_if_ne (tgt := 13) hx hb dX6_isCertificate_6 (by decide) (fun c2 => ?_) (fun c2 => ?_)
  · have fc2 := z_ne (rfl : (v1).toInt = _) (by decide : (0 : Int32).toInt = 0) c2
    refine lv_iconst (v := 0) hx hb dX6_isCertificate_13 (by decide) ?_
    exact W.zret (v := 0) hx hb hr rfl (fun t ht9 hW => ⟨0, rfl, ⟨by decide, by decide⟩, ht9⟩) (fun q hq => by cases hq) dX6_isCertificate_14
  · have fc2 := z_eq (rfl : (v1).toInt = _) (by decide : (0 : Int32).toInt = 0) c2
    refine lv_iconst (v := 1) hx hb dX6_isCertificate_9 (by decide) ?_
    refine lv_goto (tgt := 14) hx hb dX6_isCertificate_10 (by decide) ?_
    exact W.zret (v := 1) hx hb hr rfl (fun t ht9 hW => ⟨1, rfl, ⟨by decide, by decide⟩, ht9⟩) (fun q hq => by cases hq) dX6_isCertificate_14
set_option maxHeartbeats 4000000 in
set_option maxRecDepth 100000 in
/-- X6_isUndone -/
theorem c_X6_isUndone (l : Launch) (dC : Nat → ClassId) (dI : Nat → Nat → Nat) (h : Nat) (g : Nat → Nat → Nat) (ca : Nat → Nat → ClassId) (iv : Nat → Nat → Int32) (lv : Nat → Nat → Int64) (fa : Nat → Nat → Nat → Int32) (la : Nat → Nat → Nat → Int64) (hI : IX iv fa) (a : Int32) (h_a : 0 ≤ a.toInt ∧ a.toInt ≤ 39) : Met l yX6_isUndone (wc yX6_isUndone cX6_isUndone 2 (some .boolean)) ({ frames := 0, cells := 0, slots := 0, locals := 0 } : Room) (pR (dC, dI) classes (WX h g ca iv lv fa la) (TX ca) [.ref (g 11 9), .int a]) (vp_Si (fun r => 0 ≤ r.toInt ∧ r.toInt ≤ 1)) 0 0 (fun _ => False) := by
  refine Met.ofW (cc := cX6_isUndone) (maxL := 2) (ret := (some .boolean)) (by decide) rfl ?_
  intro p e s m args below meth c s₁ B hml hv
  obtain ⟨rfl, hP, hK⟩ := hv
  have hx := B.exec
  have hb := B.bytes
  have hr := B.returns
  have ht := tb_tl (atoms_spec (ws := wc yX6_isUndone cX6_isUndone 2 (some .boolean)) B.pre)
  have hown : s.vm.findClass RX6 = some m.cls := findClass_of_methodNamed B.named
  have hlocks := B.notSynchronized
  have hl := lv_entry [.ref (g 11 9), .int a] (n := 2) (Nat.le_of_ble_eq_true rfl)
  rw [lg_entry_eq]
  generalize (lg_sl [.ref (g 11 9), .int a] ++ List.replicate (2 - (lg_sl [.ref (g 11 9), .int a]).length) Slot.unset).toArray = ls at hl ⊢
  have hl : lv_has ls 2 [(0, .ref (g 11 9)), (1, .int a)] := hl
  refine lv_aload_n hx hb dX6_isUndone_0 rfl (lv_at hl 0 rfl) ?_
  refine gX_6_5 hx hb ht hown hK hP m_393 dX6_isUndone_1 ?_
  refine lv_iload_n hx hb dX6_isUndone_4 rfl (lv_at hl 1 rfl) ?_
  refine lX_6_5 hx hb hK hP (f := (fa 6 5)) rfl (vp_in_iff.mpr ⟨by omega, by omega⟩) dX6_isUndone_5 ?_
  refine lv_topi (fun v1 ev1 => ?_)
  refine lv_iconst (v := (-1)) hx hb dX6_isUndone_6 (by decide) ?_
  refine lv_icmp_eq (tgt := 14) hx hb dX6_isUndone_7 (by decide) (fun c2 => ?_) (fun c2 => ?_)
  · have fc2 := z_eq (rfl : (v1).toInt = _) (by decide : ((-1) : Int32).toInt = (-1)) c2
    refine lv_iconst (v := 0) hx hb dX6_isUndone_14 (by decide) ?_
    exact W.zret (v := 0) hx hb hr rfl (fun t ht9 hW => ⟨0, rfl, ⟨by decide, by decide⟩, ht9⟩) (fun q hq => by cases hq) dX6_isUndone_15
  · have fc2 := z_ne (rfl : (v1).toInt = _) (by decide : ((-1) : Int32).toInt = (-1)) c2
    refine lv_iconst (v := 1) hx hb dX6_isUndone_10 (by decide) ?_
    refine lv_goto (tgt := 15) hx hb dX6_isUndone_11 (by decide) ?_
    exact W.zret (v := 1) hx hb hr rfl (fun t ht9 hW => ⟨1, rfl, ⟨by decide, by decide⟩, ht9⟩) (fun q hq => by cases hq) dX6_isUndone_15
set_option maxHeartbeats 4000000 in
set_option maxRecDepth 100000 in
/-- X6_write -/
theorem c_X6_write (l : Launch) (dC : Nat → ClassId) (dI : Nat → Nat → Nat) (sz : Nat) (h : Nat) (g : Nat → Nat → Nat) (ca : Nat → Nat → ClassId) (iv : Nat → Nat → Int32) (lv : Nat → Nat → Int64) (fa : Nat → Nat → Nat → Int32) (la : Nat → Nat → Nat → Int64) (hI : IX iv fa) (a : Int32) (b : Int32) (d : Int32) (k : Int32) (n : Int32) (q_6_7 : 0 ≤ (iv 6 7).toInt ∧ (iv 6 7).toInt ≤ 39) (h_k : (-1) ≤ k.toInt ∧ k.toInt ≤ 39) : Met l yX6_write (wc yX6_write cX6_write 7 (some .int)) ({ frames := 0, cells := 0, slots := 0, locals := 0 } : Room) (pW (dC, dI) classes (WX h g ca iv lv fa la) (TX ca) sz [.ref (g 11 9), .int a, .int b, .int d, .int k, .int n]) (va_Qi (fun r (u : SS) => ∃ (na_6_0 : Nat → Int32) (na_6_1 : Nat → Int32) (na_6_2 : Nat → Int32) (na_6_3 : Nat → Int32) (na_6_4 : Nat → Int32) (na_6_5 : Nat → Int32) (ni_6_7 : Int32), (∀ j, inb (bA 6 3 j) (na_6_3 j)) ∧ inb (bI 6 7) ni_6_7 ∧ ni_6_7.toInt = (iv 6 7).toInt + 1 ∧ (0 ≤ r.toInt ∧ r.toInt ≤ 39) ∧ u = ((u2 iv 6 7 ni_6_7), lv, (u2 (u2 (u2 (u2 (u2 (u2 fa 6 0 na_6_0) 6 1 na_6_1) 6 2 na_6_2) 6 3 na_6_3) 6 4 na_6_4) 6 5 na_6_5), la)) (bX (dC, dI) h g ca (va_A (WX h g ca iv lv fa la) sz)) (va_A (WX h g ca iv lv fa la) sz)) 0 0 (va_A (WX h g ca iv lv fa la) sz) := by
  refine Met.ofW (cc := cX6_write) (maxL := 7) (ret := (some .int)) (by decide) rfl ?_
  intro p e s m args below meth c s₁ B hml hv
  obtain ⟨rfl, hsz, hP, hK, hD0⟩ := hv
  have hx := B.exec
  have hb := B.bytes
  have hr := B.returns
  have ht := tb_tl (atoms_spec (ws := wc yX6_write cX6_write 7 (some .int)) B.pre)
  have hown : s.vm.findClass RX6 = some m.cls := findClass_of_methodNamed B.named
  have hlocks := B.notSynchronized
  subst hsz
  have hD := hD0.self (sz := s.heap.size)
  generalize hAe : va_A (WX h g ca iv lv fa la) s.heap.size = A at hD ⊢
  have hA : ∀ q : Nat, s.heap.size ≤ q → A q := fun q h => by rw [← hAe]; exact Or.inr h
  have hS : va_S A s.heap s.heap [] := va_S.rf
  have hl := lv_entry [.ref (g 11 9), .int a, .int b, .int d, .int k, .int n] (n := 7) (Nat.le_of_ble_eq_true rfl)
  rw [lg_entry_eq]
  generalize (lg_sl [.ref (g 11 9), .int a, .int b, .int d, .int k, .int n] ++ List.replicate (7 - (lg_sl [.ref (g 11 9), .int a, .int b, .int d, .int k, .int n]).length) Slot.unset).toArray = ls at hl ⊢
  have hl : lv_has ls 7 [(0, .ref (g 11 9)), (1, .int a), (2, .int b), (3, .int d), (4, .int k), (5, .int n)] := hl
  refine lv_aload_n hx hb dX6_write_0 rfl (lv_at hl 0 rfl) ?_
  have i_6_7 : 0 ≤ (iv 6 7).toInt ∧ (iv 6 7).toInt ≤ 40 := hI.1 6 7
  refine gX_6_7 hx hb ht hown hK hP m_396 (v := (iv 6 7)) rfl dX6_write_1 ?_
  refine lv_istore (lv' := [(6, .int (iv 6 7)), (0, .ref (g 11 9)), (1, .int a), (2, .int b), (3, .int d), (4, .int k), (5, .int n)]) hx hb dX6_write_4 hl (by decide) rfl (fun ls hl => ?_)
  refine lv_aload_n hx hb dX6_write_6 rfl (lv_at hl 1 rfl) ?_
  refine gX_6_0 hx hb ht hown hK hP m_383 dX6_write_7 ?_
  refine lv_iload hx hb dX6_write_10 (lv_at hl 0 rfl) ?_
  refine lv_iload_n hx hb dX6_write_12 rfl (lv_at hl 2 rfl) ?_
  refine tX_6_0 hx hb hK hP hD hS (f0 := (fa 6 0)) rfl (i := (iv 6 7)) (x := a) (vp_in_iff.mpr ⟨by omega, by omega⟩) dX6_write_13 (fun f1 ef1 H locs hP hD hS => ?_)
  have hf1 : ∀ j, inb (bA 6 0 j) (f1 j) := fun j => full_i _
  refine lv_aload_n hx hb dX6_write_14 rfl (lv_at hl 1 rfl) ?_
  refine gX_6_1 hx hb ht hown hK hP m_385 dX6_write_15 ?_
  refine lv_iload hx hb dX6_write_18 (lv_at hl 0 rfl) ?_
  refine lv_iload_n hx hb dX6_write_20 rfl (lv_at hl 3 rfl) ?_
  refine tX_6_1 hx hb hK hP hD hS (f0 := (fa 6 1)) rfl (i := (iv 6 7)) (x := b) (vp_in_iff.mpr ⟨by omega, by omega⟩) dX6_write_21 (fun f2 ef2 H locs hP hD hS => ?_)
  have hf2 : ∀ j, inb (bA 6 1 j) (f2 j) := fun j => full_i _
  refine lv_aload_n hx hb dX6_write_22 rfl (lv_at hl 1 rfl) ?_
  refine gX_6_2 hx hb ht hown hK hP m_387 dX6_write_23 ?_
  refine lv_iload hx hb dX6_write_26 (lv_at hl 0 rfl) ?_
  refine lv_iload_n hx hb dX6_write_28 rfl (lv_at hl 4 rfl) ?_
  refine tX_6_2 hx hb hK hP hD hS (f0 := (fa 6 2)) rfl (i := (iv 6 7)) (x := d) (vp_in_iff.mpr ⟨by omega, by omega⟩) dX6_write_29 (fun f3 ef3 H locs hP hD hS => ?_)
  have hf3 : ∀ j, inb (bA 6 2 j) (f3 j) := fun j => full_i _
  refine lv_aload_n hx hb dX6_write_30 rfl (lv_at hl 1 rfl) ?_
  refine gX_6_3 hx hb ht hown hK hP m_389 dX6_write_31 ?_
  refine lv_iload hx hb dX6_write_34 (lv_at hl 0 rfl) ?_
  refine lv_iload hx hb dX6_write_36 (lv_at hl 5 rfl) ?_
  refine tX_6_3 hx hb hK hP hD hS (f0 := (fa 6 3)) rfl (i := (iv 6 7)) (x := k) (vp_in_iff.mpr ⟨by omega, by omega⟩) dX6_write_38 (fun f4 ef4 H locs hP hD hS => ?_)
  have hf4 : ∀ j, inb (bA 6 3 j) (f4 j) := by rw [ef4]; exact upd_b (b := bA 6 3) (hI.2 6 3) (show inb ((-1), 39) k from ⟨by omega, by omega⟩)
  refine lv_aload_n hx hb dX6_write_39 rfl (lv_at hl 1 rfl) ?_
  refine gX_6_4 hx hb ht hown hK hP m_391 dX6_write_40 ?_
  refine lv_iload hx hb dX6_write_43 (lv_at hl 0 rfl) ?_
  refine lv_iload hx hb dX6_write_45 (lv_at hl 6 rfl) ?_
  refine tX_6_4 hx hb hK hP hD hS (f0 := (fa 6 4)) rfl (i := (iv 6 7)) (x := n) (vp_in_iff.mpr ⟨by omega, by omega⟩) dX6_write_47 (fun f5 ef5 H locs hP hD hS => ?_)
  have hf5 : ∀ j, inb (bA 6 4 j) (f5 j) := fun j => full_i _
  refine lv_aload_n hx hb dX6_write_48 rfl (lv_at hl 1 rfl) ?_
  refine gX_6_5 hx hb ht hown hK hP m_393 dX6_write_49 ?_
  refine lv_iload hx hb dX6_write_52 (lv_at hl 0 rfl) ?_
  refine lv_iconst (v := (-1)) hx hb dX6_write_54 (by decide) ?_
  refine tX_6_5 hx hb hK hP hD hS (f0 := (fa 6 5)) rfl (i := (iv 6 7)) (x := (-1)) (vp_in_iff.mpr ⟨by omega, by omega⟩) dX6_write_55 (fun f6 ef6 H locs hP hD hS => ?_)
  have hf6 : ∀ j, inb (bA 6 5 j) (f6 j) := fun j => full_i _
  refine lv_aload_n hx hb dX6_write_56 rfl (lv_at hl 1 rfl) ?_
  refine lv_dup hx hb dX6_write_57 rfl ?_
  refine gX_6_7 hx hb ht hown hK hP m_396 (v := (iv 6 7)) rfl dX6_write_58 ?_
  refine lv_iconst (v := 1) hx hb dX6_write_61 (by decide) ?_
  refine lv_iadd hx hb dX6_write_62 ?_
  refine lv_topi (fun v7 ev7 => ?_)
  have tv7 := z_add ev7 (rfl : ((iv 6 7)).toInt = _) (by decide : (1 : Int32).toInt = 1) (by omega) (by omega)
  refine pX_6_7 (v := v7) hx hb ht hown hK hP hD hS m_396 dX6_write_63 (fun H locs hP hD hS => ?_)
  refine lv_iload hx hb dX6_write_66 (lv_at hl 0 rfl) ?_
  have hP9 : va_P (dC, dI) classes (WX h g ca (u2 iv 6 7 v7) lv (u2 (u2 (u2 (u2 (u2 (u2 fa 6 0 f1) 6 1 f2) 6 2 f3) 6 3 f4) 6 4 f5) 6 5 f6) la) H := hP
  have hD9 : va_D A (WX h g ca (u2 iv 6 7 v7) lv (u2 (u2 (u2 (u2 (u2 (u2 fa 6 0 f1) 6 1 f2) 6 2 f3) 6 3 f4) 6 4 f5) 6 5 f6) la) := hD
  exact W.iret (v := (iv 6 7)) hx hb hr (fun t ht9 hW => ⟨⟨(iv 6 7), ((u2 iv 6 7 v7), lv, (u2 (u2 (u2 (u2 (u2 (u2 fa 6 0 f1) 6 1 f2) 6 2 f3) 6 3 f4) 6 4 f5) 6 5 f6), la), rfl, ⟨f1, f2, f3, f4, f5, f6, v7, hf4, (show inb (0, 40) v7 from ⟨by omega, by omega⟩), (by omega), ⟨by omega, by omega⟩, rfl⟩, by rw [ht9]; exact hP9, hD9⟩, hS.F ht9⟩) hS.2.2 dX6_write_68
set_option maxHeartbeats 4000000 in
set_option maxRecDepth 100000 in
/-- X6_certified -/
theorem c_X6_certified (l : Launch) (dC : Nat → ClassId) (dI : Nat → Nat → Nat) (h : Nat) (g : Nat → Nat → Nat) (ca : Nat → Nat → ClassId) (iv : Nat → Nat → Int32) (lv : Nat → Nat → Int64) (fa : Nat → Nat → Nat → Int32) (la : Nat → Nat → Nat → Int64) (hI : IX iv fa) (b : Int32) : Met l yX6_certified (wc yX6_certified cX6_certified 3 (some .boolean)) ({ frames := 1, cells := 0, slots := 0, locals := 21 } : Room) (pR (dC, dI) classes (WX h g ca iv lv fa la) (TX ca) [.ref (g 11 9), .int b]) (vp_Si (fun r => 0 ≤ r.toInt ∧ r.toInt ≤ 1)) 0 0 (fun _ => False) := by
  refine Met.ofW (cc := cX6_certified) (maxL := 3) (ret := (some .boolean)) (by decide) rfl ?_
  intro p e s m args below meth c s₁ B hml hv
  obtain ⟨rfl, hP, hK⟩ := hv
  have hx := B.exec
  have hb := B.bytes
  have hr := B.returns
  have ht := tb_tl (atoms_spec (ws := wc yX6_certified cX6_certified 3 (some .boolean)) B.pre)
  have hown : s.vm.findClass RX6 = some m.cls := findClass_of_methodNamed B.named
  have hlocks := B.notSynchronized
  have hl := lv_entry [.ref (g 11 9), .int b] (n := 3) (Nat.le_of_ble_eq_true rfl)
  rw [lg_entry_eq]
  generalize (lg_sl [.ref (g 11 9), .int b] ++ List.replicate (3 - (lg_sl [.ref (g 11 9), .int b]).length) Slot.unset).toArray = ls at hl ⊢
  have hl : lv_has ls 3 [(0, .ref (g 11 9)), (1, .int b)] := hl
  refine lv_iconst (v := 0) hx hb dX6_certified_0 (by decide) ?_
  refine lv_istore_n (lv' := [(2, .int 0), (0, .ref (g 11 9)), (1, .int b)]) hx hb dX6_certified_1 rfl hl (by decide) rfl (fun ls hl => ?_)
  have lp211 : ∀ (nn211 : Nat) (x210_2 : Int32), 0 ≤ x210_2.toInt ∧ x210_2.toInt ≤ 40 → 40 - x210_2.toInt < (nn211 : Int) → ∀ (ls : Array Slot), lv_has ls 3 [(2, .int x210_2), (0, .ref (g 11 9)), (1, .int b)] → W p l e ({ frames := 1, cells := 0, slots := 0, locals := 21 } : Room) s m ([.ref (g 11 9), .int b] : List Value).toArray below meth c s.heap [] 0 0 (MQ below (vp_Si (fun r => 0 ≤ r.toInt ∧ r.toInt ≤ 1)) ([.ref (g 11 9), .int b] : List Value).toArray s 0 0 (fun _ => False)) (F0 m 2 ls []) := by
    intro nn211
    induction nn211 with
    | zero => intro x210_2 hx210_2 hm211; exfalso; omega
    | succ nn211 ih211 =>
      intro x210_2 hx210_2 hm211 ls hl
      refine lv_iload_n hx hb dX6_certified_2 rfl (lv_at hl 0 rfl) ?_
      refine lv_aload_n hx hb dX6_certified_3 rfl (lv_at hl 1 rfl) ?_
      have i_6_7 : 0 ≤ (iv 6 7).toInt ∧ (iv 6 7).toInt ≤ 40 := hI.1 6 7
      refine gX_6_7 hx hb ht hown hK hP m_396 (v := (iv 6 7)) rfl dX6_certified_4 ?_
      refine lv_icmp_ge (tgt := 44) hx hb dX6_certified_7 (by decide) (fun c212 => ?_) (fun c212 => ?_)
      · have fc212 := z_le (rfl : ((iv 6 7)).toInt = _) (rfl : (x210_2).toInt = _) c212
        refine lv_iconst (v := 0) hx hb dX6_certified_44 (by decide) ?_
        exact W.zret (v := 0) hx hb hr rfl (fun t ht9 hW => ⟨0, rfl, ⟨by decide, by decide⟩, ht9⟩) (fun q hq => by cases hq) dX6_certified_45
      · have fc212 := z_nle (rfl : ((iv 6 7)).toInt = _) (rfl : (x210_2).toInt = _) c212
        refine lv_aload_n hx hb dX6_certified_10 rfl (lv_at hl 1 rfl) ?_
        refine lv_iload_n hx hb dX6_certified_11 rfl (lv_at hl 0 rfl) ?_
        refine vp_callSi (W.runV (As := [.int x210_2]) (rest := []) ⟨hx, hb, hml, hown, ht⟩ (c_X6_isCertificate l dC dI h g ca iv lv fa la hI x210_2 ⟨by omega, by omega⟩) (kV 1 ht m_1078 m_664 m_665 m_88 m_666 rfl rfl hd_X6_isCertificate_v ⟨Nat.le_of_ble_eq_true rfl, Nat.le_of_ble_eq_true rfl⟩) (vR hP hK (rX_6 hK hP)) rfl rfl hl.1 rfl (lv_room (Nat.le_of_ble_eq_true rfl)) dX6_certified_12 ⟨Nat.le_of_ble_eq_true rfl, Nat.le_of_ble_eq_true rfl⟩) (fun r213 hr213 => ?_)
        refine lv_if_eq (tgt := 38) hx hb dX6_certified_15 (by decide) (fun c214 => ?_) (fun c214 => ?_)
        · have fc214 := z_eq (rfl : (r213).toInt = _) (by decide : (0 : Int32).toInt = 0) c214
          obtain ⟨v215, ev215⟩ : ∃ y : Int32, y = x210_2 + 1 := ⟨_, rfl⟩
          have tv215 := z_add ev215 rfl (by decide : (1 : Int32).toInt = 1) (by omega) (by omega)
          refine lv_iinc (v := v215) (lv' := [(2, .int v215), (0, .ref (g 11 9)), (1, .int b)]) hx hb dX6_certified_38 hl (k := 0) rfl (by rw [ev215]; rfl) (by decide) rfl (fun ls hl => ?_)
          refine lv_goto (tgt := 2) hx hb dX6_certified_41 (by decide) ?_
          exact ih211 v215 ⟨by omega, by omega⟩ (by omega) ls (lv_sub hl [0, 1, 2] rfl)
        · have fc214 := z_ne (rfl : (r213).toInt = _) (by decide : (0 : Int32).toInt = 0) c214
          refine lv_aload_n hx hb dX6_certified_18 rfl (lv_at hl 1 rfl) ?_
          refine gX_6_1 hx hb ht hown hK hP m_385 dX6_certified_19 ?_
          refine lv_iload_n hx hb dX6_certified_22 rfl (lv_at hl 0 rfl) ?_
          refine lX_6_1 hx hb hK hP (f := (fa 6 1)) rfl (vp_in_iff.mpr ⟨by omega, by omega⟩) dX6_certified_23 ?_
          refine lv_topi (fun v216 ev216 => ?_)
          refine lv_iload_n hx hb dX6_certified_24 rfl (lv_at hl 2 rfl) ?_
          refine lv_icmp_ne (tgt := 38) hx hb dX6_certified_25 (by decide) (fun c217 => ?_) (fun c217 => ?_)
          · have fc217 := z_ne (rfl : (v216).toInt = _) (rfl : (b).toInt = _) c217
            obtain ⟨v218, ev218⟩ : ∃ y : Int32, y = x210_2 + 1 := ⟨_, rfl⟩
            have tv218 := z_add ev218 rfl (by decide : (1 : Int32).toInt = 1) (by omega) (by omega)
            refine lv_iinc (v := v218) (lv' := [(2, .int v218), (0, .ref (g 11 9)), (1, .int b)]) hx hb dX6_certified_38 hl (k := 0) rfl (by rw [ev218]; rfl) (by decide) rfl (fun ls hl => ?_)
            refine lv_goto (tgt := 2) hx hb dX6_certified_41 (by decide) ?_
            exact ih211 v218 ⟨by omega, by omega⟩ (by omega) ls (lv_sub hl [0, 1, 2] rfl)
          · have fc217 := z_eq (rfl : (v216).toInt = _) (rfl : (b).toInt = _) c217
            refine lv_aload_n hx hb dX6_certified_28 rfl (lv_at hl 1 rfl) ?_
            refine lv_iload_n hx hb dX6_certified_29 rfl (lv_at hl 0 rfl) ?_
            refine vp_callSi (W.runV (As := [.int x210_2]) (rest := []) ⟨hx, hb, hml, hown, ht⟩ (c_X6_isUndone l dC dI h g ca iv lv fa la hI x210_2 ⟨by omega, by omega⟩) (kV 1 ht m_1079 m_1080 m_1081 m_88 m_1082 rfl rfl hd_X6_isUndone_v ⟨Nat.le_of_ble_eq_true rfl, Nat.le_of_ble_eq_true rfl⟩) (vR hP hK (rX_6 hK hP)) rfl rfl hl.1 rfl (lv_room (Nat.le_of_ble_eq_true rfl)) dX6_certified_30 ⟨Nat.le_of_ble_eq_true rfl, Nat.le_of_ble_eq_true rfl⟩) (fun r219 hr219 => ?_)
            refine lv_if_ne (tgt := 38) hx hb dX6_certified_33 (by decide) (fun c220 => ?_) (fun c220 => ?_)
            · have fc220 := z_ne (rfl : (r219).toInt = _) (by decide : (0 : Int32).toInt = 0) c220
              obtain ⟨v221, ev221⟩ : ∃ y : Int32, y = x210_2 + 1 := ⟨_, rfl⟩
              have tv221 := z_add ev221 rfl (by decide : (1 : Int32).toInt = 1) (by omega) (by omega)
              refine lv_iinc (v := v221) (lv' := [(2, .int v221), (0, .ref (g 11 9)), (1, .int b)]) hx hb dX6_certified_38 hl (k := 0) rfl (by rw [ev221]; rfl) (by decide) rfl (fun ls hl => ?_)
              refine lv_goto (tgt := 2) hx hb dX6_certified_41 (by decide) ?_
              exact ih211 v221 ⟨by omega, by omega⟩ (by omega) ls (lv_sub hl [0, 1, 2] rfl)
            · have fc220 := z_eq (rfl : (r219).toInt = _) (by decide : (0 : Int32).toInt = 0) c220
              refine lv_iconst (v := 1) hx hb dX6_certified_36 (by decide) ?_
              exact W.zret (v := 1) hx hb hr rfl (fun t ht9 hW => ⟨1, rfl, ⟨by decide, by decide⟩, ht9⟩) (fun q hq => by cases hq) dX6_certified_37
  exact lp211 41 0 ⟨by decide, by decide⟩ (by first | decide | omega) ls (lv_sub hl [0, 1, 2] rfl)
set_option maxHeartbeats 4000000 in
set_option maxRecDepth 100000 in
/-- X6_isBilled -/
theorem c_X6_isBilled (l : Launch) (dC : Nat → ClassId) (dI : Nat → Nat → Nat) (h : Nat) (g : Nat → Nat → Nat) (ca : Nat → Nat → ClassId) (iv : Nat → Nat → Int32) (lv : Nat → Nat → Int64) (fa : Nat → Nat → Nat → Int32) (la : Nat → Nat → Nat → Int64) (hI : IX iv fa) (b : Int32) : Met l yX6_isBilled (wc yX6_isBilled cX6_isBilled 3 (some .boolean)) ({ frames := 1, cells := 0, slots := 0, locals := 21 } : Room) (pR (dC, dI) classes (WX h g ca iv lv fa la) (TX ca) [.ref (g 11 9), .int b]) (vp_Si (fun r => 0 ≤ r.toInt ∧ r.toInt ≤ 1)) 0 0 (fun _ => False) := by
  refine Met.ofW (cc := cX6_isBilled) (maxL := 3) (ret := (some .boolean)) (by decide) rfl ?_
  intro p e s m args below meth c s₁ B hml hv
  obtain ⟨rfl, hP, hK⟩ := hv
  have hx := B.exec
  have hb := B.bytes
  have hr := B.returns
  have ht := tb_tl (atoms_spec (ws := wc yX6_isBilled cX6_isBilled 3 (some .boolean)) B.pre)
  have hown : s.vm.findClass RX6 = some m.cls := findClass_of_methodNamed B.named
  have hlocks := B.notSynchronized
  have hl := lv_entry [.ref (g 11 9), .int b] (n := 3) (Nat.le_of_ble_eq_true rfl)
  rw [lg_entry_eq]
  generalize (lg_sl [.ref (g 11 9), .int b] ++ List.replicate (3 - (lg_sl [.ref (g 11 9), .int b]).length) Slot.unset).toArray = ls at hl ⊢
  have hl : lv_has ls 3 [(0, .ref (g 11 9)), (1, .int b)] := hl
  refine lv_iconst (v := 0) hx hb dX6_isBilled_0 (by decide) ?_
  refine lv_istore_n (lv' := [(2, .int 0), (0, .ref (g 11 9)), (1, .int b)]) hx hb dX6_isBilled_1 rfl hl (by decide) rfl (fun ls hl => ?_)
  have lp211 : ∀ (nn211 : Nat) (x210_2 : Int32), 0 ≤ x210_2.toInt ∧ x210_2.toInt ≤ 40 → 40 - x210_2.toInt < (nn211 : Int) → ∀ (ls : Array Slot), lv_has ls 3 [(2, .int x210_2), (0, .ref (g 11 9)), (1, .int b)] → W p l e ({ frames := 1, cells := 0, slots := 0, locals := 21 } : Room) s m ([.ref (g 11 9), .int b] : List Value).toArray below meth c s.heap [] 0 0 (MQ below (vp_Si (fun r => 0 ≤ r.toInt ∧ r.toInt ≤ 1)) ([.ref (g 11 9), .int b] : List Value).toArray s 0 0 (fun _ => False)) (F0 m 2 ls []) := by
    intro nn211
    induction nn211 with
    | zero => intro x210_2 hx210_2 hm211; exfalso; omega
    | succ nn211 ih211 =>
      intro x210_2 hx210_2 hm211 ls hl
      refine lv_iload_n hx hb dX6_isBilled_2 rfl (lv_at hl 0 rfl) ?_
      refine lv_aload_n hx hb dX6_isBilled_3 rfl (lv_at hl 1 rfl) ?_
      have i_6_7 : 0 ≤ (iv 6 7).toInt ∧ (iv 6 7).toInt ≤ 40 := hI.1 6 7
      refine gX_6_7 hx hb ht hown hK hP m_396 (v := (iv 6 7)) rfl dX6_isBilled_4 ?_
      refine lv_icmp_ge (tgt := 46) hx hb dX6_isBilled_7 (by decide) (fun c212 => ?_) (fun c212 => ?_)
      · have fc212 := z_le (rfl : ((iv 6 7)).toInt = _) (rfl : (x210_2).toInt = _) c212
        refine lv_iconst (v := 0) hx hb dX6_isBilled_46 (by decide) ?_
        exact W.zret (v := 0) hx hb hr rfl (fun t ht9 hW => ⟨0, rfl, ⟨by decide, by decide⟩, ht9⟩) (fun q hq => by cases hq) dX6_isBilled_47
      · have fc212 := z_nle (rfl : ((iv 6 7)).toInt = _) (rfl : (x210_2).toInt = _) c212
        refine lv_aload_n hx hb dX6_isBilled_10 rfl (lv_at hl 1 rfl) ?_
        refine gX_6_0 hx hb ht hown hK hP m_383 dX6_isBilled_11 ?_
        refine lv_iload_n hx hb dX6_isBilled_14 rfl (lv_at hl 0 rfl) ?_
        refine lX_6_0 hx hb hK hP (f := (fa 6 0)) rfl (vp_in_iff.mpr ⟨by omega, by omega⟩) dX6_isBilled_15 ?_
        refine lv_topi (fun v213 ev213 => ?_)
        refine lv_iconst (v := 1) hx hb dX6_isBilled_16 (by decide) ?_
        refine lv_icmp_ne (tgt := 40) hx hb dX6_isBilled_17 (by decide) (fun c214 => ?_) (fun c214 => ?_)
        · have fc214 := z_ne (rfl : (v213).toInt = _) (by decide : (1 : Int32).toInt = 1) c214
          obtain ⟨v215, ev215⟩ : ∃ y : Int32, y = x210_2 + 1 := ⟨_, rfl⟩
          have tv215 := z_add ev215 rfl (by decide : (1 : Int32).toInt = 1) (by omega) (by omega)
          refine lv_iinc (v := v215) (lv' := [(2, .int v215), (0, .ref (g 11 9)), (1, .int b)]) hx hb dX6_isBilled_40 hl (k := 0) rfl (by rw [ev215]; rfl) (by decide) rfl (fun ls hl => ?_)
          refine lv_goto (tgt := 2) hx hb dX6_isBilled_43 (by decide) ?_
          exact ih211 v215 ⟨by omega, by omega⟩ (by omega) ls (lv_sub hl [0, 1, 2] rfl)
        · have fc214 := z_eq (rfl : (v213).toInt = _) (by decide : (1 : Int32).toInt = 1) c214
          refine lv_aload_n hx hb dX6_isBilled_20 rfl (lv_at hl 1 rfl) ?_
          refine gX_6_3 hx hb ht hown hK hP m_389 dX6_isBilled_21 ?_
          refine lv_iload_n hx hb dX6_isBilled_24 rfl (lv_at hl 0 rfl) ?_
          refine lX_6_3 hx hb hK hP (f := (fa 6 3)) rfl (vp_in_iff.mpr ⟨by omega, by omega⟩) dX6_isBilled_25 ?_
          refine lv_topi (fun v216 ev216 => ?_)
          have tv216 : (-1) ≤ v216.toInt ∧ v216.toInt ≤ 39 := by rw [ev216]; exact hI.2 6 3 _
          refine lv_iload_n hx hb dX6_isBilled_26 rfl (lv_at hl 2 rfl) ?_
          refine lv_icmp_ne (tgt := 40) hx hb dX6_isBilled_27 (by decide) (fun c217 => ?_) (fun c217 => ?_)
          · have fc217 := z_ne (rfl : (v216).toInt = _) (rfl : (b).toInt = _) c217
            obtain ⟨v218, ev218⟩ : ∃ y : Int32, y = x210_2 + 1 := ⟨_, rfl⟩
            have tv218 := z_add ev218 rfl (by decide : (1 : Int32).toInt = 1) (by omega) (by omega)
            refine lv_iinc (v := v218) (lv' := [(2, .int v218), (0, .ref (g 11 9)), (1, .int b)]) hx hb dX6_isBilled_40 hl (k := 0) rfl (by rw [ev218]; rfl) (by decide) rfl (fun ls hl => ?_)
            refine lv_goto (tgt := 2) hx hb dX6_isBilled_43 (by decide) ?_
            exact ih211 v218 ⟨by omega, by omega⟩ (by omega) ls (lv_sub hl [0, 1, 2] rfl)
          · have fc217 := z_eq (rfl : (v216).toInt = _) (rfl : (b).toInt = _) c217
            refine lv_aload_n hx hb dX6_isBilled_30 rfl (lv_at hl 1 rfl) ?_
            refine lv_iload_n hx hb dX6_isBilled_31 rfl (lv_at hl 0 rfl) ?_
            refine vp_callSi (W.runV (As := [.int x210_2]) (rest := []) ⟨hx, hb, hml, hown, ht⟩ (c_X6_isUndone l dC dI h g ca iv lv fa la hI x210_2 ⟨by omega, by omega⟩) (kV 1 ht m_1079 m_1080 m_1081 m_88 m_1082 rfl rfl hd_X6_isUndone_v ⟨Nat.le_of_ble_eq_true rfl, Nat.le_of_ble_eq_true rfl⟩) (vR hP hK (rX_6 hK hP)) rfl rfl hl.1 rfl (lv_room (Nat.le_of_ble_eq_true rfl)) dX6_isBilled_32 ⟨Nat.le_of_ble_eq_true rfl, Nat.le_of_ble_eq_true rfl⟩) (fun r219 hr219 => ?_)
            refine lv_if_ne (tgt := 40) hx hb dX6_isBilled_35 (by decide) (fun c220 => ?_) (fun c220 => ?_)
            · have fc220 := z_ne (rfl : (r219).toInt = _) (by decide : (0 : Int32).toInt = 0) c220
              obtain ⟨v221, ev221⟩ : ∃ y : Int32, y = x210_2 + 1 := ⟨_, rfl⟩
              have tv221 := z_add ev221 rfl (by decide : (1 : Int32).toInt = 1) (by omega) (by omega)
              refine lv_iinc (v := v221) (lv' := [(2, .int v221), (0, .ref (g 11 9)), (1, .int b)]) hx hb dX6_isBilled_40 hl (k := 0) rfl (by rw [ev221]; rfl) (by decide) rfl (fun ls hl => ?_)
              refine lv_goto (tgt := 2) hx hb dX6_isBilled_43 (by decide) ?_
              exact ih211 v221 ⟨by omega, by omega⟩ (by omega) ls (lv_sub hl [0, 1, 2] rfl)
            · have fc220 := z_eq (rfl : (r219).toInt = _) (by decide : (0 : Int32).toInt = 0) c220
              refine lv_iconst (v := 1) hx hb dX6_isBilled_38 (by decide) ?_
              exact W.zret (v := 1) hx hb hr rfl (fun t ht9 hW => ⟨1, rfl, ⟨by decide, by decide⟩, ht9⟩) (fun q hq => by cases hq) dX6_isBilled_39
  exact lp211 41 0 ⟨by decide, by decide⟩ (by first | decide | omega) ls (lv_sub hl [0, 1, 2] rfl)
set_option maxHeartbeats 4000000 in
set_option maxRecDepth 100000 in
/-- X6_hanging -/
theorem c_X6_hanging (l : Launch) (dC : Nat → ClassId) (dI : Nat → Nat → Nat) (h : Nat) (g : Nat → Nat → Nat) (ca : Nat → Nat → ClassId) (iv : Nat → Nat → Int32) (lv : Nat → Nat → Int64) (fa : Nat → Nat → Nat → Int32) (la : Nat → Nat → Nat → Int64) (hI : IX iv fa) (b : Int32) : Met l yX6_hanging (wc yX6_hanging cX6_hanging 4 (some .int)) ({ frames := 0, cells := 0, slots := 0, locals := 0 } : Room) (pR (dC, dI) classes (WX h g ca iv lv fa la) (TX ca) [.ref (g 11 9), .int b]) (vp_Si (fun r => True)) 0 0 (fun _ => False) := by
  refine Met.ofW (cc := cX6_hanging) (maxL := 4) (ret := (some .int)) (by decide) rfl ?_
  intro p e s m args below meth c s₁ B hml hv
  obtain ⟨rfl, hP, hK⟩ := hv
  have hx := B.exec
  have hb := B.bytes
  have hr := B.returns
  have ht := tb_tl (atoms_spec (ws := wc yX6_hanging cX6_hanging 4 (some .int)) B.pre)
  have hown : s.vm.findClass RX6 = some m.cls := findClass_of_methodNamed B.named
  have hlocks := B.notSynchronized
  have hl := lv_entry [.ref (g 11 9), .int b] (n := 4) (Nat.le_of_ble_eq_true rfl)
  rw [lg_entry_eq]
  generalize (lg_sl [.ref (g 11 9), .int b] ++ List.replicate (4 - (lg_sl [.ref (g 11 9), .int b]).length) Slot.unset).toArray = ls at hl ⊢
  have hl : lv_has ls 4 [(0, .ref (g 11 9)), (1, .int b)] := hl
  refine lv_iconst (v := 0) hx hb dX6_hanging_0 (by decide) ?_
  refine lv_istore_n (lv' := [(2, .int 0), (0, .ref (g 11 9)), (1, .int b)]) hx hb dX6_hanging_1 rfl hl (by decide) rfl (fun ls hl => ?_)
  refine lv_iconst (v := 0) hx hb dX6_hanging_2 (by decide) ?_
  refine lv_istore_n (lv' := [(3, .int 0), (2, .int 0), (0, .ref (g 11 9)), (1, .int b)]) hx hb dX6_hanging_3 rfl hl (by decide) rfl (fun ls hl => ?_)
  have lp366 : ∀ (nn366 : Nat) (x365_3 : Int32) (x365_2 : Int32), 0 ≤ x365_3.toInt ∧ x365_3.toInt ≤ 40 → 40 - x365_3.toInt < (nn366 : Int) → ∀ (ls : Array Slot), lv_has ls 4 [(3, .int x365_3), (2, .int x365_2), (0, .ref (g 11 9)), (1, .int b)] → W p l e ({ frames := 0, cells := 0, slots := 0, locals := 0 } : Room) s m ([.ref (g 11 9), .int b] : List Value).toArray below meth c s.heap [] 0 0 (MQ below (vp_Si (fun r => True)) ([.ref (g 11 9), .int b] : List Value).toArray s 0 0 (fun _ => False)) (F0 m 4 ls []) := by
    intro nn366
    induction nn366 with
    | zero => intro x365_3 x365_2 hx365_3 hm366; exfalso; omega
    | succ nn366 ih366 =>
      intro x365_3 x365_2 hx365_3 hm366 ls hl
      refine lv_iload_n hx hb dX6_hanging_4 rfl (lv_at hl 0 rfl) ?_
      refine lv_aload_n hx hb dX6_hanging_5 rfl (lv_at hl 2 rfl) ?_
      have i_6_7 : 0 ≤ (iv 6 7).toInt ∧ (iv 6 7).toInt ≤ 40 := hI.1 6 7
      refine gX_6_7 hx hb ht hown hK hP m_396 (v := (iv 6 7)) rfl dX6_hanging_6 ?_
      refine lv_icmp_ge (tgt := 31) hx hb dX6_hanging_9 (by decide) (fun c367 => ?_) (fun c367 => ?_)
      · have fc367 := z_le (rfl : ((iv 6 7)).toInt = _) (rfl : (x365_3).toInt = _) c367
        refine lv_iload_n hx hb dX6_hanging_31 rfl (lv_at hl 1 rfl) ?_
        exact W.iret (v := x365_2) hx hb hr (fun t ht9 hW => ⟨x365_2, rfl, trivial, ht9⟩) (fun q hq => by cases hq) dX6_hanging_32
      · have fc367 := z_nle (rfl : ((iv 6 7)).toInt = _) (rfl : (x365_3).toInt = _) c367
        refine lv_aload_n hx hb dX6_hanging_12 rfl (lv_at hl 2 rfl) ?_
        refine gX_6_3 hx hb ht hown hK hP m_389 dX6_hanging_13 ?_
        refine lv_iload_n hx hb dX6_hanging_16 rfl (lv_at hl 0 rfl) ?_
        refine lX_6_3 hx hb hK hP (f := (fa 6 3)) rfl (vp_in_iff.mpr ⟨by omega, by omega⟩) dX6_hanging_17 ?_
        refine lv_topi (fun v368 ev368 => ?_)
        have tv368 : (-1) ≤ v368.toInt ∧ v368.toInt ≤ 39 := by rw [ev368]; exact hI.2 6 3 _
        refine lv_iload_n hx hb dX6_hanging_18 rfl (lv_at hl 3 rfl) ?_
        refine lv_icmp_ne (tgt := 25) hx hb dX6_hanging_19 (by decide) (fun c369 => ?_) (fun c369 => ?_)
        · have fc369 := z_ne (rfl : (v368).toInt = _) (rfl : (b).toInt = _) c369
          obtain ⟨v370, ev370⟩ : ∃ y : Int32, y = x365_3 + 1 := ⟨_, rfl⟩
          have tv370 := z_add ev370 rfl (by decide : (1 : Int32).toInt = 1) (by omega) (by omega)
          refine lv_iinc (v := v370) (lv' := [(3, .int v370), (2, .int x365_2), (0, .ref (g 11 9)), (1, .int b)]) hx hb dX6_hanging_25 hl (k := 0) rfl (by rw [ev370]; rfl) (by decide) rfl (fun ls hl => ?_)
          refine lv_goto (tgt := 4) hx hb dX6_hanging_28 (by decide) ?_
          exact ih366 v370 x365_2 ⟨by omega, by omega⟩ (by omega) ls (lv_sub hl [0, 1, 2, 3] rfl)
        · have fc369 := z_eq (rfl : (v368).toInt = _) (rfl : (b).toInt = _) c369
          obtain ⟨v371, ev371⟩ : ∃ y : Int32, y = x365_2 + 1 := ⟨_, rfl⟩
          refine lv_iinc (v := v371) (lv' := [(2, .int v371), (3, .int x365_3), (0, .ref (g 11 9)), (1, .int b)]) hx hb dX6_hanging_22 hl (k := 1) rfl (by rw [ev371]; rfl) (by decide) rfl (fun ls hl => ?_)
          obtain ⟨v372, ev372⟩ : ∃ y : Int32, y = x365_3 + 1 := ⟨_, rfl⟩
          have tv372 := z_add ev372 rfl (by decide : (1 : Int32).toInt = 1) (by omega) (by omega)
          refine lv_iinc (v := v372) (lv' := [(3, .int v372), (2, .int v371), (0, .ref (g 11 9)), (1, .int b)]) hx hb dX6_hanging_25 hl (k := 1) rfl (by rw [ev372]; rfl) (by decide) rfl (fun ls hl => ?_)
          refine lv_goto (tgt := 4) hx hb dX6_hanging_28 (by decide) ?_
          exact ih366 v372 v371 ⟨by omega, by omega⟩ (by omega) ls (lv_sub hl [0, 1, 2, 3] rfl)
  exact lp366 41 0 0 ⟨by decide, by decide⟩ (by first | decide | omega) ls (lv_sub hl [0, 1, 2, 3] rfl)
set_option maxHeartbeats 4000000 in
set_option maxRecDepth 100000 in
/-- X6_tear -/
theorem c_X6_tear (l : Launch) (dC : Nat → ClassId) (dI : Nat → Nat → Nat) (sz : Nat) (h : Nat) (g : Nat → Nat → Nat) (ca : Nat → Nat → ClassId) (iv : Nat → Nat → Int32) (lv : Nat → Nat → Int64) (fa : Nat → Nat → Nat → Int32) (la : Nat → Nat → Nat → Int64) (hI : IX iv fa) (b : Int32) (d : Int32) : Met l yX6_tear (wc yX6_tear cX6_tear 5 (some .int)) ({ frames := 1, cells := 0, slots := 0, locals := 21 } : Room) (pW (dC, dI) classes (WX h g ca iv lv fa la) (TX ca) sz [.ref (g 11 9), .int b, .int d]) (va_Qi (fun r (u : SS) => ∃ (na_6_5 : Nat → Int32) (na_6_6 : Nat → Int32), (∀ j, inb (bA 6 6 j) (na_6_6 j)) ∧ (True) ∧ u = (iv, lv, (u2 (u2 fa 6 5 na_6_5) 6 6 na_6_6), la)) (bX (dC, dI) h g ca (va_A (WX h g ca iv lv fa la) sz)) (va_A (WX h g ca iv lv fa la) sz)) 0 0 (va_A (WX h g ca iv lv fa la) sz) := by
  refine Met.ofW (cc := cX6_tear) (maxL := 5) (ret := (some .int)) (by decide) rfl ?_
  intro p e s m args below meth c s₁ B hml hv
  obtain ⟨rfl, hsz, hP, hK, hD0⟩ := hv
  have hx := B.exec
  have hb := B.bytes
  have hr := B.returns
  have ht := tb_tl (atoms_spec (ws := wc yX6_tear cX6_tear 5 (some .int)) B.pre)
  have hown : s.vm.findClass RX6 = some m.cls := findClass_of_methodNamed B.named
  have hlocks := B.notSynchronized
  subst hsz
  have hD := hD0.self (sz := s.heap.size)
  generalize hAe : va_A (WX h g ca iv lv fa la) s.heap.size = A at hD ⊢
  have hA : ∀ q : Nat, s.heap.size ≤ q → A q := fun q h => by rw [← hAe]; exact Or.inr h
  have hS : va_S A s.heap s.heap [] := va_S.rf
  have hl := lv_entry [.ref (g 11 9), .int b, .int d] (n := 5) (Nat.le_of_ble_eq_true rfl)
  rw [lg_entry_eq]
  generalize (lg_sl [.ref (g 11 9), .int b, .int d] ++ List.replicate (5 - (lg_sl [.ref (g 11 9), .int b, .int d]).length) Slot.unset).toArray = ls at hl ⊢
  have hl : lv_has ls 5 [(0, .ref (g 11 9)), (1, .int b), (2, .int d)] := hl
  refine lv_iconst (v := 0) hx hb dX6_tear_0 (by decide) ?_
  refine lv_istore_n (lv' := [(3, .int 0), (0, .ref (g 11 9)), (1, .int b), (2, .int d)]) hx hb dX6_tear_1 rfl hl (by decide) rfl (fun ls hl => ?_)
  refine lv_iconst (v := 0) hx hb dX6_tear_2 (by decide) ?_
  refine lv_istore (lv' := [(4, .int 0), (3, .int 0), (0, .ref (g 11 9)), (1, .int b), (2, .int d)]) hx hb dX6_tear_3 hl (by decide) rfl (fun ls hl => ?_)
  have lp2602 : ∀ (nn2602 : Nat) (x2601_4 : Int32) (x2601_3 : Int32) (w2601_a_6_6 : Nat → Int32) (w2601_a_6_5 : Nat → Int32), 0 ≤ x2601_4.toInt ∧ x2601_4.toInt ≤ 40 → (∀ j, inb (bA 6 6 j) (w2601_a_6_6 j)) → (∀ j, inb (bA 6 5 j) (w2601_a_6_5 j)) → 40 - x2601_4.toInt < (nn2602 : Int) → ∀ (H : Heap) (locs : List Loc), ∀ (ls : Array Slot), va_P (dC, dI) classes (WX h g ca iv lv (u2 (u2 fa 6 6 w2601_a_6_6) 6 5 w2601_a_6_5) la) H → va_D A (WX h g ca iv lv (u2 (u2 fa 6 6 w2601_a_6_6) 6 5 w2601_a_6_5) la) → va_S A s.heap H locs → lv_has ls 5 [(4, .int x2601_4), (3, .int x2601_3), (0, .ref (g 11 9)), (1, .int b), (2, .int d)] → W p l e ({ frames := 1, cells := 0, slots := 0, locals := 21 } : Room) s m ([.ref (g 11 9), .int b, .int d] : List Value).toArray below meth c H locs 0 0 (MQ below (va_Qi (fun r (u : SS) => ∃ (na_6_5 : Nat → Int32) (na_6_6 : Nat → Int32), (∀ j, inb (bA 6 6 j) (na_6_6 j)) ∧ (True) ∧ u = (iv, lv, (u2 (u2 fa 6 5 na_6_5) 6 6 na_6_6), la)) (bX (dC, dI) h g ca A) A) ([.ref (g 11 9), .int b, .int d] : List Value).toArray s 0 0 A) (F0 m 5 ls []) := by
    intro nn2602
    induction nn2602 with
    | zero => intro x2601_4 x2601_3 w2601_a_6_6 w2601_a_6_5 hx2601_4 hw2601_a_6_6 hw2601_a_6_5 hm2602; exfalso; omega
    | succ nn2602 ih2602 =>
      intro x2601_4 x2601_3 w2601_a_6_6 w2601_a_6_5 hx2601_4 hw2601_a_6_6 hw2601_a_6_5 hm2602 H locs ls hP hD hS hl
      refine lv_iload hx hb dX6_tear_5 (lv_at hl 0 rfl) ?_
      refine lv_aload_n hx hb dX6_tear_7 rfl (lv_at hl 2 rfl) ?_
      have i_6_7 : 0 ≤ (iv 6 7).toInt ∧ (iv 6 7).toInt ≤ 40 := hI.1 6 7
      refine gX_6_7 hx hb ht hown hK hP m_396 (v := (iv 6 7)) rfl dX6_tear_8 ?_
      refine lv_icmp_ge (tgt := 97) hx hb dX6_tear_11 (by decide) (fun c2603 => ?_) (fun c2603 => ?_)
      · have fc2603 := z_le (rfl : ((iv 6 7)).toInt = _) (rfl : (x2601_4).toInt = _) c2603
        refine lv_iload_n hx hb dX6_tear_97 rfl (lv_at hl 1 rfl) ?_
        have hP9 : va_P (dC, dI) classes (WX h g ca iv lv (u2 (u2 fa 6 5 w2601_a_6_5) 6 6 w2601_a_6_6) la) H := hP
        have hD9 : va_D A (WX h g ca iv lv (u2 (u2 fa 6 5 w2601_a_6_5) 6 6 w2601_a_6_6) la) := hD
        exact W.iret (v := x2601_3) hx hb hr (fun t ht9 hW => ⟨⟨x2601_3, (iv, lv, (u2 (u2 fa 6 5 w2601_a_6_5) 6 6 w2601_a_6_6), la), rfl, ⟨w2601_a_6_5, w2601_a_6_6, hw2601_a_6_6, trivial, rfl⟩, by rw [ht9]; exact hP9, hD9⟩, hS.F ht9⟩) hS.2.2 dX6_tear_98
      · have fc2603 := z_nle (rfl : ((iv 6 7)).toInt = _) (rfl : (x2601_4).toInt = _) c2603
        refine lv_aload_n hx hb dX6_tear_14 rfl (lv_at hl 2 rfl) ?_
        refine gX_6_6 hx hb ht hown hK hP m_395 dX6_tear_15 ?_
        refine lv_iload hx hb dX6_tear_18 (lv_at hl 0 rfl) ?_
        refine lv_iload hx hb dX6_tear_20 (lv_at hl 0 rfl) ?_
        refine lv_iload_n hx hb dX6_tear_22 rfl (lv_at hl 3 rfl) ?_
        refine lv_icmp_eq (tgt := 55) hx hb dX6_tear_23 (by decide) (fun c2604 => ?_) (fun c2604 => ?_)
        · have fc2604 := z_eq (rfl : (x2601_4).toInt = _) (rfl : (b).toInt = _) c2604
          refine lv_iconst (v := 1) hx hb dX6_tear_55 (by decide) ?_
          refine lv_goto (tgt := 60) hx hb dX6_tear_56 (by decide) ?_
          refine tX_6_6 hx hb hK hP hD hS (f0 := w2601_a_6_6) rfl (i := x2601_4) (x := 1) (vp_in_iff.mpr ⟨by omega, by omega⟩) dX6_tear_60 (fun f2605 ef2605 H locs hP hD hS => ?_)
          have hf2605 : ∀ j, inb (bA 6 6 j) (f2605 j) := by rw [ef2605]; exact upd_b (b := bA 6 6) hw2601_a_6_6 (show inb (0, 1) (vp_nar .boolean 1) from ⟨by decide, by decide⟩)
          have hP : va_P (dC, dI) classes (WX h g ca iv lv (u2 (u2 fa 6 6 f2605) 6 5 w2601_a_6_5) la) H := hP
          have hD : va_D A (WX h g ca iv lv (u2 (u2 fa 6 6 f2605) 6 5 w2601_a_6_5) la) := hD
          refine lv_aload_n hx hb dX6_tear_61 rfl (lv_at hl 2 rfl) ?_
          refine gX_6_6 hx hb ht hown hK hP m_395 dX6_tear_62 ?_
          refine lv_iload hx hb dX6_tear_65 (lv_at hl 0 rfl) ?_
          refine lX_6_6 hx hb hK hP (f := f2605) rfl (vp_in_iff.mpr ⟨by omega, by omega⟩) dX6_tear_67 ?_
          refine lv_topi (fun v2606 ev2606 => ?_)
          have tv2606 : 0 ≤ v2606.toInt ∧ v2606.toInt ≤ 1 := by rw [ev2606]; exact hf2605 _
          refine lv_if_eq (tgt := 91) hx hb dX6_tear_68 (by decide) (fun c2607 => ?_) (fun c2607 => ?_)
          · have fc2607 := z_eq (rfl : (v2606).toInt = _) (by decide : (0 : Int32).toInt = 0) c2607
            obtain ⟨v2608, ev2608⟩ : ∃ y : Int32, y = x2601_4 + 1 := ⟨_, rfl⟩
            have tv2608 := z_add ev2608 rfl (by decide : (1 : Int32).toInt = 1) (by omega) (by omega)
            refine lv_iinc (v := v2608) (lv' := [(4, .int v2608), (3, .int x2601_3), (0, .ref (g 11 9)), (1, .int b), (2, .int d)]) hx hb dX6_tear_91 hl (k := 0) rfl (by rw [ev2608]; rfl) (by decide) rfl (fun ls hl => ?_)
            refine lv_goto (tgt := 5) hx hb dX6_tear_94 (by decide) ?_
            exact ih2602 v2608 x2601_3 f2605 w2601_a_6_5 ⟨by omega, by omega⟩ hf2605 hw2601_a_6_5 (by omega) _ _ ls hP hD hS (lv_sub hl [0, 1, 2, 3, 4] rfl)
          · have fc2607 := z_ne (rfl : (v2606).toInt = _) (by decide : (0 : Int32).toInt = 0) c2607
            refine lv_aload_n hx hb dX6_tear_71 rfl (lv_at hl 2 rfl) ?_
            refine lv_iload hx hb dX6_tear_72 (lv_at hl 0 rfl) ?_
            refine vp_callSi (W.runV (As := [.int x2601_4]) (rest := []) ⟨hx, hb, hml, hown, ht⟩ (c_X6_isUndone l dC dI h g ca iv lv (u2 (u2 fa 6 6 f2605) 6 5 w2601_a_6_5) la (IX_a (c := 6) (k := 5) (IX_a (c := 6) (k := 6) hI hf2605) hw2601_a_6_5) x2601_4 ⟨by omega, by omega⟩) (kV 1 ht m_1079 m_1080 m_1081 m_88 m_1082 rfl rfl hd_X6_isUndone_v ⟨Nat.le_of_ble_eq_true rfl, Nat.le_of_ble_eq_true rfl⟩) (vR hP hK (rX_6 hK hP)) rfl rfl hl.1 rfl (lv_room (Nat.le_of_ble_eq_true rfl)) dX6_tear_74 ⟨Nat.le_of_ble_eq_true rfl, Nat.le_of_ble_eq_true rfl⟩) (fun r2609 hr2609 => ?_)
            refine lv_if_ne (tgt := 91) hx hb dX6_tear_77 (by decide) (fun c2610 => ?_) (fun c2610 => ?_)
            · have fc2610 := z_ne (rfl : (r2609).toInt = _) (by decide : (0 : Int32).toInt = 0) c2610
              obtain ⟨v2611, ev2611⟩ : ∃ y : Int32, y = x2601_4 + 1 := ⟨_, rfl⟩
              have tv2611 := z_add ev2611 rfl (by decide : (1 : Int32).toInt = 1) (by omega) (by omega)
              refine lv_iinc (v := v2611) (lv' := [(4, .int v2611), (3, .int x2601_3), (0, .ref (g 11 9)), (1, .int b), (2, .int d)]) hx hb dX6_tear_91 hl (k := 0) rfl (by rw [ev2611]; rfl) (by decide) rfl (fun ls hl => ?_)
              refine lv_goto (tgt := 5) hx hb dX6_tear_94 (by decide) ?_
              exact ih2602 v2611 x2601_3 f2605 w2601_a_6_5 ⟨by omega, by omega⟩ hf2605 hw2601_a_6_5 (by omega) _ _ ls hP hD hS (lv_sub hl [0, 1, 2, 3, 4] rfl)
            · have fc2610 := z_eq (rfl : (r2609).toInt = _) (by decide : (0 : Int32).toInt = 0) c2610
              refine lv_aload_n hx hb dX6_tear_80 rfl (lv_at hl 2 rfl) ?_
              refine gX_6_5 hx hb ht hown hK hP m_393 dX6_tear_81 ?_
              refine lv_iload hx hb dX6_tear_84 (lv_at hl 0 rfl) ?_
              refine lv_iload_n hx hb dX6_tear_86 rfl (lv_at hl 4 rfl) ?_
              refine tX_6_5 hx hb hK hP hD hS (f0 := w2601_a_6_5) rfl (i := x2601_4) (x := d) (vp_in_iff.mpr ⟨by omega, by omega⟩) dX6_tear_87 (fun f2612 ef2612 H locs hP hD hS => ?_)
              have hf2612 : ∀ j, inb (bA 6 5 j) (f2612 j) := fun j => full_i _
              have hP : va_P (dC, dI) classes (WX h g ca iv lv (u2 (u2 fa 6 6 f2605) 6 5 f2612) la) H := hP
              have hD : va_D A (WX h g ca iv lv (u2 (u2 fa 6 6 f2605) 6 5 f2612) la) := hD
              obtain ⟨v2613, ev2613⟩ : ∃ y : Int32, y = x2601_3 + 1 := ⟨_, rfl⟩
              refine lv_iinc (v := v2613) (lv' := [(3, .int v2613), (4, .int x2601_4), (0, .ref (g 11 9)), (1, .int b), (2, .int d)]) hx hb dX6_tear_88 hl (k := 1) rfl (by rw [ev2613]; rfl) (by decide) rfl (fun ls hl => ?_)
              obtain ⟨v2614, ev2614⟩ : ∃ y : Int32, y = x2601_4 + 1 := ⟨_, rfl⟩
              have tv2614 := z_add ev2614 rfl (by decide : (1 : Int32).toInt = 1) (by omega) (by omega)
              refine lv_iinc (v := v2614) (lv' := [(4, .int v2614), (3, .int v2613), (0, .ref (g 11 9)), (1, .int b), (2, .int d)]) hx hb dX6_tear_91 hl (k := 1) rfl (by rw [ev2614]; rfl) (by decide) rfl (fun ls hl => ?_)
              refine lv_goto (tgt := 5) hx hb dX6_tear_94 (by decide) ?_
              exact ih2602 v2614 v2613 f2605 f2612 ⟨by omega, by omega⟩ hf2605 hf2612 (by omega) _ _ ls hP hD hS (lv_sub hl [0, 1, 2, 3, 4] rfl)
        · have fc2604 := z_ne (rfl : (x2601_4).toInt = _) (rfl : (b).toInt = _) c2604
          refine lv_aload_n hx hb dX6_tear_26 rfl (lv_at hl 2 rfl) ?_
          refine lv_aload_n hx hb dX6_tear_27 rfl (lv_at hl 2 rfl) ?_
          refine gX_6_3 hx hb ht hown hK hP m_389 dX6_tear_28 ?_
          refine lv_iload hx hb dX6_tear_31 (lv_at hl 0 rfl) ?_
          refine lX_6_3 hx hb hK hP (f := (fa 6 3)) rfl (vp_in_iff.mpr ⟨by omega, by omega⟩) dX6_tear_33 ?_
          refine lv_topi (fun v2615 ev2615 => ?_)
          have tv2615 : (-1) ≤ v2615.toInt ∧ v2615.toInt ≤ 39 := by rw [ev2615]; exact hI.2 6 3 _
          refine vp_callSi (W.runV (As := [.int v2615]) (rest := [.int x2601_4, .ref (g 6 6)]) ⟨hx, hb, hml, hown, ht⟩ (c_X6_has l dC dI h g ca iv lv (u2 (u2 fa 6 6 w2601_a_6_6) 6 5 w2601_a_6_5) la (IX_a (c := 6) (k := 5) (IX_a (c := 6) (k := 6) hI hw2601_a_6_6) hw2601_a_6_5) v2615) (kV 1 ht m_1116 m_1096 m_1097 m_88 m_1098 rfl rfl hd_X6_has_v ⟨Nat.le_of_ble_eq_true rfl, Nat.le_of_ble_eq_true rfl⟩) (vR hP hK (rX_6 hK hP)) rfl rfl hl.1 rfl (lv_room (Nat.le_of_ble_eq_true rfl)) dX6_tear_34 ⟨Nat.le_of_ble_eq_true rfl, Nat.le_of_ble_eq_true rfl⟩) (fun r2616 hr2616 => ?_)
          rcases hr2616 with ⟨rfl, fr2616⟩ | ⟨rfl, fr2616⟩
          · skip
            have fr2616 : (0 ≤ (v2615 : Int32).toInt ∧ (v2615 : Int32).toInt < ((iv 6 7) : Int32).toInt) := fr2616
            refine lv_if_eq (tgt := 59) hx hb dX6_tear_37 (by decide) (fun c2617 => ?_) (fun c2617 => ?_)
            · exact absurd c2617 (by decide)
            · skip
              refine lv_aload_n hx hb dX6_tear_40 rfl (lv_at hl 2 rfl) ?_
              refine gX_6_6 hx hb ht hown hK hP m_395 dX6_tear_41 ?_
              refine lv_aload_n hx hb dX6_tear_44 rfl (lv_at hl 2 rfl) ?_
              refine gX_6_3 hx hb ht hown hK hP m_389 dX6_tear_45 ?_
              refine lv_iload hx hb dX6_tear_48 (lv_at hl 0 rfl) ?_
              refine lX_6_3 hx hb hK hP (f := (fa 6 3)) rfl (vp_in_iff.mpr ⟨by omega, by omega⟩) dX6_tear_50 ?_
              refine lv_topi (fun v2618 ev2618 => ?_)
              obtain rfl : v2615 = v2618 := ev2615.trans ev2618.symm
              refine lX_6_6 hx hb hK hP (f := w2601_a_6_6) rfl (vp_in_iff.mpr ⟨by omega, by omega⟩) dX6_tear_51 ?_
              refine lv_topi (fun v2619 ev2619 => ?_)
              have tv2619 : 0 ≤ v2619.toInt ∧ v2619.toInt ≤ 1 := by rw [ev2619]; exact hw2601_a_6_6 _
              refine lv_if_eq (tgt := 59) hx hb dX6_tear_52 (by decide) (fun c2620 => ?_) (fun c2620 => ?_)
              · have fc2620 := z_eq (rfl : (v2619).toInt = _) (by decide : (0 : Int32).toInt = 0) c2620
                refine lv_iconst (v := 0) hx hb dX6_tear_59 (by decide) ?_
                refine tX_6_6 hx hb hK hP hD hS (f0 := w2601_a_6_6) rfl (i := x2601_4) (x := 0) (vp_in_iff.mpr ⟨by omega, by omega⟩) dX6_tear_60 (fun f2621 ef2621 H locs hP hD hS => ?_)
                have hf2621 : ∀ j, inb (bA 6 6 j) (f2621 j) := by rw [ef2621]; exact upd_b (b := bA 6 6) hw2601_a_6_6 (show inb (0, 1) (vp_nar .boolean 0) from ⟨by decide, by decide⟩)
                have hP : va_P (dC, dI) classes (WX h g ca iv lv (u2 (u2 fa 6 6 f2621) 6 5 w2601_a_6_5) la) H := hP
                have hD : va_D A (WX h g ca iv lv (u2 (u2 fa 6 6 f2621) 6 5 w2601_a_6_5) la) := hD
                refine lv_aload_n hx hb dX6_tear_61 rfl (lv_at hl 2 rfl) ?_
                refine gX_6_6 hx hb ht hown hK hP m_395 dX6_tear_62 ?_
                refine lv_iload hx hb dX6_tear_65 (lv_at hl 0 rfl) ?_
                refine lX_6_6 hx hb hK hP (f := f2621) rfl (vp_in_iff.mpr ⟨by omega, by omega⟩) dX6_tear_67 ?_
                refine lv_topi (fun v2622 ev2622 => ?_)
                have tv2622 : 0 ≤ v2622.toInt ∧ v2622.toInt ≤ 1 := by rw [ev2622]; exact hf2621 _
                refine lv_if_eq (tgt := 91) hx hb dX6_tear_68 (by decide) (fun c2623 => ?_) (fun c2623 => ?_)
                · have fc2623 := z_eq (rfl : (v2622).toInt = _) (by decide : (0 : Int32).toInt = 0) c2623
                  obtain ⟨v2624, ev2624⟩ : ∃ y : Int32, y = x2601_4 + 1 := ⟨_, rfl⟩
                  have tv2624 := z_add ev2624 rfl (by decide : (1 : Int32).toInt = 1) (by omega) (by omega)
                  refine lv_iinc (v := v2624) (lv' := [(4, .int v2624), (3, .int x2601_3), (0, .ref (g 11 9)), (1, .int b), (2, .int d)]) hx hb dX6_tear_91 hl (k := 0) rfl (by rw [ev2624]; rfl) (by decide) rfl (fun ls hl => ?_)
                  refine lv_goto (tgt := 5) hx hb dX6_tear_94 (by decide) ?_
                  exact ih2602 v2624 x2601_3 f2621 w2601_a_6_5 ⟨by omega, by omega⟩ hf2621 hw2601_a_6_5 (by omega) _ _ ls hP hD hS (lv_sub hl [0, 1, 2, 3, 4] rfl)
                · have fc2623 := z_ne (rfl : (v2622).toInt = _) (by decide : (0 : Int32).toInt = 0) c2623
                  refine lv_aload_n hx hb dX6_tear_71 rfl (lv_at hl 2 rfl) ?_
                  refine lv_iload hx hb dX6_tear_72 (lv_at hl 0 rfl) ?_
                  refine vp_callSi (W.runV (As := [.int x2601_4]) (rest := []) ⟨hx, hb, hml, hown, ht⟩ (c_X6_isUndone l dC dI h g ca iv lv (u2 (u2 fa 6 6 f2621) 6 5 w2601_a_6_5) la (IX_a (c := 6) (k := 5) (IX_a (c := 6) (k := 6) hI hf2621) hw2601_a_6_5) x2601_4 ⟨by omega, by omega⟩) (kV 1 ht m_1079 m_1080 m_1081 m_88 m_1082 rfl rfl hd_X6_isUndone_v ⟨Nat.le_of_ble_eq_true rfl, Nat.le_of_ble_eq_true rfl⟩) (vR hP hK (rX_6 hK hP)) rfl rfl hl.1 rfl (lv_room (Nat.le_of_ble_eq_true rfl)) dX6_tear_74 ⟨Nat.le_of_ble_eq_true rfl, Nat.le_of_ble_eq_true rfl⟩) (fun r2625 hr2625 => ?_)
                  refine lv_if_ne (tgt := 91) hx hb dX6_tear_77 (by decide) (fun c2626 => ?_) (fun c2626 => ?_)
                  · have fc2626 := z_ne (rfl : (r2625).toInt = _) (by decide : (0 : Int32).toInt = 0) c2626
                    obtain ⟨v2627, ev2627⟩ : ∃ y : Int32, y = x2601_4 + 1 := ⟨_, rfl⟩
                    have tv2627 := z_add ev2627 rfl (by decide : (1 : Int32).toInt = 1) (by omega) (by omega)
                    refine lv_iinc (v := v2627) (lv' := [(4, .int v2627), (3, .int x2601_3), (0, .ref (g 11 9)), (1, .int b), (2, .int d)]) hx hb dX6_tear_91 hl (k := 0) rfl (by rw [ev2627]; rfl) (by decide) rfl (fun ls hl => ?_)
                    refine lv_goto (tgt := 5) hx hb dX6_tear_94 (by decide) ?_
                    exact ih2602 v2627 x2601_3 f2621 w2601_a_6_5 ⟨by omega, by omega⟩ hf2621 hw2601_a_6_5 (by omega) _ _ ls hP hD hS (lv_sub hl [0, 1, 2, 3, 4] rfl)
                  · have fc2626 := z_eq (rfl : (r2625).toInt = _) (by decide : (0 : Int32).toInt = 0) c2626
                    refine lv_aload_n hx hb dX6_tear_80 rfl (lv_at hl 2 rfl) ?_
                    refine gX_6_5 hx hb ht hown hK hP m_393 dX6_tear_81 ?_
                    refine lv_iload hx hb dX6_tear_84 (lv_at hl 0 rfl) ?_
                    refine lv_iload_n hx hb dX6_tear_86 rfl (lv_at hl 4 rfl) ?_
                    refine tX_6_5 hx hb hK hP hD hS (f0 := w2601_a_6_5) rfl (i := x2601_4) (x := d) (vp_in_iff.mpr ⟨by omega, by omega⟩) dX6_tear_87 (fun f2628 ef2628 H locs hP hD hS => ?_)
                    have hf2628 : ∀ j, inb (bA 6 5 j) (f2628 j) := fun j => full_i _
                    have hP : va_P (dC, dI) classes (WX h g ca iv lv (u2 (u2 fa 6 6 f2621) 6 5 f2628) la) H := hP
                    have hD : va_D A (WX h g ca iv lv (u2 (u2 fa 6 6 f2621) 6 5 f2628) la) := hD
                    obtain ⟨v2629, ev2629⟩ : ∃ y : Int32, y = x2601_3 + 1 := ⟨_, rfl⟩
                    refine lv_iinc (v := v2629) (lv' := [(3, .int v2629), (4, .int x2601_4), (0, .ref (g 11 9)), (1, .int b), (2, .int d)]) hx hb dX6_tear_88 hl (k := 1) rfl (by rw [ev2629]; rfl) (by decide) rfl (fun ls hl => ?_)
                    obtain ⟨v2630, ev2630⟩ : ∃ y : Int32, y = x2601_4 + 1 := ⟨_, rfl⟩
                    have tv2630 := z_add ev2630 rfl (by decide : (1 : Int32).toInt = 1) (by omega) (by omega)
                    refine lv_iinc (v := v2630) (lv' := [(4, .int v2630), (3, .int v2629), (0, .ref (g 11 9)), (1, .int b), (2, .int d)]) hx hb dX6_tear_91 hl (k := 1) rfl (by rw [ev2630]; rfl) (by decide) rfl (fun ls hl => ?_)
                    refine lv_goto (tgt := 5) hx hb dX6_tear_94 (by decide) ?_
                    exact ih2602 v2630 v2629 f2621 f2628 ⟨by omega, by omega⟩ hf2621 hf2628 (by omega) _ _ ls hP hD hS (lv_sub hl [0, 1, 2, 3, 4] rfl)
              · have fc2620 := z_ne (rfl : (v2619).toInt = _) (by decide : (0 : Int32).toInt = 0) c2620
                refine lv_iconst (v := 1) hx hb dX6_tear_55 (by decide) ?_
                refine lv_goto (tgt := 60) hx hb dX6_tear_56 (by decide) ?_
                refine tX_6_6 hx hb hK hP hD hS (f0 := w2601_a_6_6) rfl (i := x2601_4) (x := 1) (vp_in_iff.mpr ⟨by omega, by omega⟩) dX6_tear_60 (fun f2631 ef2631 H locs hP hD hS => ?_)
                have hf2631 : ∀ j, inb (bA 6 6 j) (f2631 j) := by rw [ef2631]; exact upd_b (b := bA 6 6) hw2601_a_6_6 (show inb (0, 1) (vp_nar .boolean 1) from ⟨by decide, by decide⟩)
                have hP : va_P (dC, dI) classes (WX h g ca iv lv (u2 (u2 fa 6 6 f2631) 6 5 w2601_a_6_5) la) H := hP
                have hD : va_D A (WX h g ca iv lv (u2 (u2 fa 6 6 f2631) 6 5 w2601_a_6_5) la) := hD
                refine lv_aload_n hx hb dX6_tear_61 rfl (lv_at hl 2 rfl) ?_
                refine gX_6_6 hx hb ht hown hK hP m_395 dX6_tear_62 ?_
                refine lv_iload hx hb dX6_tear_65 (lv_at hl 0 rfl) ?_
                refine lX_6_6 hx hb hK hP (f := f2631) rfl (vp_in_iff.mpr ⟨by omega, by omega⟩) dX6_tear_67 ?_
                refine lv_topi (fun v2632 ev2632 => ?_)
                have tv2632 : 0 ≤ v2632.toInt ∧ v2632.toInt ≤ 1 := by rw [ev2632]; exact hf2631 _
                refine lv_if_eq (tgt := 91) hx hb dX6_tear_68 (by decide) (fun c2633 => ?_) (fun c2633 => ?_)
                · have fc2633 := z_eq (rfl : (v2632).toInt = _) (by decide : (0 : Int32).toInt = 0) c2633
                  obtain ⟨v2634, ev2634⟩ : ∃ y : Int32, y = x2601_4 + 1 := ⟨_, rfl⟩
                  have tv2634 := z_add ev2634 rfl (by decide : (1 : Int32).toInt = 1) (by omega) (by omega)
                  refine lv_iinc (v := v2634) (lv' := [(4, .int v2634), (3, .int x2601_3), (0, .ref (g 11 9)), (1, .int b), (2, .int d)]) hx hb dX6_tear_91 hl (k := 0) rfl (by rw [ev2634]; rfl) (by decide) rfl (fun ls hl => ?_)
                  refine lv_goto (tgt := 5) hx hb dX6_tear_94 (by decide) ?_
                  exact ih2602 v2634 x2601_3 f2631 w2601_a_6_5 ⟨by omega, by omega⟩ hf2631 hw2601_a_6_5 (by omega) _ _ ls hP hD hS (lv_sub hl [0, 1, 2, 3, 4] rfl)
                · have fc2633 := z_ne (rfl : (v2632).toInt = _) (by decide : (0 : Int32).toInt = 0) c2633
                  refine lv_aload_n hx hb dX6_tear_71 rfl (lv_at hl 2 rfl) ?_
                  refine lv_iload hx hb dX6_tear_72 (lv_at hl 0 rfl) ?_
                  refine vp_callSi (W.runV (As := [.int x2601_4]) (rest := []) ⟨hx, hb, hml, hown, ht⟩ (c_X6_isUndone l dC dI h g ca iv lv (u2 (u2 fa 6 6 f2631) 6 5 w2601_a_6_5) la (IX_a (c := 6) (k := 5) (IX_a (c := 6) (k := 6) hI hf2631) hw2601_a_6_5) x2601_4 ⟨by omega, by omega⟩) (kV 1 ht m_1079 m_1080 m_1081 m_88 m_1082 rfl rfl hd_X6_isUndone_v ⟨Nat.le_of_ble_eq_true rfl, Nat.le_of_ble_eq_true rfl⟩) (vR hP hK (rX_6 hK hP)) rfl rfl hl.1 rfl (lv_room (Nat.le_of_ble_eq_true rfl)) dX6_tear_74 ⟨Nat.le_of_ble_eq_true rfl, Nat.le_of_ble_eq_true rfl⟩) (fun r2635 hr2635 => ?_)
                  refine lv_if_ne (tgt := 91) hx hb dX6_tear_77 (by decide) (fun c2636 => ?_) (fun c2636 => ?_)
                  · have fc2636 := z_ne (rfl : (r2635).toInt = _) (by decide : (0 : Int32).toInt = 0) c2636
                    obtain ⟨v2637, ev2637⟩ : ∃ y : Int32, y = x2601_4 + 1 := ⟨_, rfl⟩
                    have tv2637 := z_add ev2637 rfl (by decide : (1 : Int32).toInt = 1) (by omega) (by omega)
                    refine lv_iinc (v := v2637) (lv' := [(4, .int v2637), (3, .int x2601_3), (0, .ref (g 11 9)), (1, .int b), (2, .int d)]) hx hb dX6_tear_91 hl (k := 0) rfl (by rw [ev2637]; rfl) (by decide) rfl (fun ls hl => ?_)
                    refine lv_goto (tgt := 5) hx hb dX6_tear_94 (by decide) ?_
                    exact ih2602 v2637 x2601_3 f2631 w2601_a_6_5 ⟨by omega, by omega⟩ hf2631 hw2601_a_6_5 (by omega) _ _ ls hP hD hS (lv_sub hl [0, 1, 2, 3, 4] rfl)
                  · have fc2636 := z_eq (rfl : (r2635).toInt = _) (by decide : (0 : Int32).toInt = 0) c2636
                    refine lv_aload_n hx hb dX6_tear_80 rfl (lv_at hl 2 rfl) ?_
                    refine gX_6_5 hx hb ht hown hK hP m_393 dX6_tear_81 ?_
                    refine lv_iload hx hb dX6_tear_84 (lv_at hl 0 rfl) ?_
                    refine lv_iload_n hx hb dX6_tear_86 rfl (lv_at hl 4 rfl) ?_
                    refine tX_6_5 hx hb hK hP hD hS (f0 := w2601_a_6_5) rfl (i := x2601_4) (x := d) (vp_in_iff.mpr ⟨by omega, by omega⟩) dX6_tear_87 (fun f2638 ef2638 H locs hP hD hS => ?_)
                    have hf2638 : ∀ j, inb (bA 6 5 j) (f2638 j) := fun j => full_i _
                    have hP : va_P (dC, dI) classes (WX h g ca iv lv (u2 (u2 fa 6 6 f2631) 6 5 f2638) la) H := hP
                    have hD : va_D A (WX h g ca iv lv (u2 (u2 fa 6 6 f2631) 6 5 f2638) la) := hD
                    obtain ⟨v2639, ev2639⟩ : ∃ y : Int32, y = x2601_3 + 1 := ⟨_, rfl⟩
                    refine lv_iinc (v := v2639) (lv' := [(3, .int v2639), (4, .int x2601_4), (0, .ref (g 11 9)), (1, .int b), (2, .int d)]) hx hb dX6_tear_88 hl (k := 1) rfl (by rw [ev2639]; rfl) (by decide) rfl (fun ls hl => ?_)
                    obtain ⟨v2640, ev2640⟩ : ∃ y : Int32, y = x2601_4 + 1 := ⟨_, rfl⟩
                    have tv2640 := z_add ev2640 rfl (by decide : (1 : Int32).toInt = 1) (by omega) (by omega)
                    refine lv_iinc (v := v2640) (lv' := [(4, .int v2640), (3, .int v2639), (0, .ref (g 11 9)), (1, .int b), (2, .int d)]) hx hb dX6_tear_91 hl (k := 1) rfl (by rw [ev2640]; rfl) (by decide) rfl (fun ls hl => ?_)
                    refine lv_goto (tgt := 5) hx hb dX6_tear_94 (by decide) ?_
                    exact ih2602 v2640 v2639 f2631 f2638 ⟨by omega, by omega⟩ hf2631 hf2638 (by omega) _ _ ls hP hD hS (lv_sub hl [0, 1, 2, 3, 4] rfl)
          · skip
            have fr2616 : ¬ (0 ≤ (v2615 : Int32).toInt ∧ (v2615 : Int32).toInt < ((iv 6 7) : Int32).toInt) := fr2616
            refine lv_if_eq (tgt := 59) hx hb dX6_tear_37 (by decide) (fun c2641 => ?_) (fun c2641 => ?_)
            · skip
              refine lv_iconst (v := 0) hx hb dX6_tear_59 (by decide) ?_
              refine tX_6_6 hx hb hK hP hD hS (f0 := w2601_a_6_6) rfl (i := x2601_4) (x := 0) (vp_in_iff.mpr ⟨by omega, by omega⟩) dX6_tear_60 (fun f2642 ef2642 H locs hP hD hS => ?_)
              have hf2642 : ∀ j, inb (bA 6 6 j) (f2642 j) := by rw [ef2642]; exact upd_b (b := bA 6 6) hw2601_a_6_6 (show inb (0, 1) (vp_nar .boolean 0) from ⟨by decide, by decide⟩)
              have hP : va_P (dC, dI) classes (WX h g ca iv lv (u2 (u2 fa 6 6 f2642) 6 5 w2601_a_6_5) la) H := hP
              have hD : va_D A (WX h g ca iv lv (u2 (u2 fa 6 6 f2642) 6 5 w2601_a_6_5) la) := hD
              refine lv_aload_n hx hb dX6_tear_61 rfl (lv_at hl 2 rfl) ?_
              refine gX_6_6 hx hb ht hown hK hP m_395 dX6_tear_62 ?_
              refine lv_iload hx hb dX6_tear_65 (lv_at hl 0 rfl) ?_
              refine lX_6_6 hx hb hK hP (f := f2642) rfl (vp_in_iff.mpr ⟨by omega, by omega⟩) dX6_tear_67 ?_
              refine lv_topi (fun v2643 ev2643 => ?_)
              have tv2643 : 0 ≤ v2643.toInt ∧ v2643.toInt ≤ 1 := by rw [ev2643]; exact hf2642 _
              refine lv_if_eq (tgt := 91) hx hb dX6_tear_68 (by decide) (fun c2644 => ?_) (fun c2644 => ?_)
              · have fc2644 := z_eq (rfl : (v2643).toInt = _) (by decide : (0 : Int32).toInt = 0) c2644
                obtain ⟨v2645, ev2645⟩ : ∃ y : Int32, y = x2601_4 + 1 := ⟨_, rfl⟩
                have tv2645 := z_add ev2645 rfl (by decide : (1 : Int32).toInt = 1) (by omega) (by omega)
                refine lv_iinc (v := v2645) (lv' := [(4, .int v2645), (3, .int x2601_3), (0, .ref (g 11 9)), (1, .int b), (2, .int d)]) hx hb dX6_tear_91 hl (k := 0) rfl (by rw [ev2645]; rfl) (by decide) rfl (fun ls hl => ?_)
                refine lv_goto (tgt := 5) hx hb dX6_tear_94 (by decide) ?_
                exact ih2602 v2645 x2601_3 f2642 w2601_a_6_5 ⟨by omega, by omega⟩ hf2642 hw2601_a_6_5 (by omega) _ _ ls hP hD hS (lv_sub hl [0, 1, 2, 3, 4] rfl)
              · have fc2644 := z_ne (rfl : (v2643).toInt = _) (by decide : (0 : Int32).toInt = 0) c2644
                refine lv_aload_n hx hb dX6_tear_71 rfl (lv_at hl 2 rfl) ?_
                refine lv_iload hx hb dX6_tear_72 (lv_at hl 0 rfl) ?_
                refine vp_callSi (W.runV (As := [.int x2601_4]) (rest := []) ⟨hx, hb, hml, hown, ht⟩ (c_X6_isUndone l dC dI h g ca iv lv (u2 (u2 fa 6 6 f2642) 6 5 w2601_a_6_5) la (IX_a (c := 6) (k := 5) (IX_a (c := 6) (k := 6) hI hf2642) hw2601_a_6_5) x2601_4 ⟨by omega, by omega⟩) (kV 1 ht m_1079 m_1080 m_1081 m_88 m_1082 rfl rfl hd_X6_isUndone_v ⟨Nat.le_of_ble_eq_true rfl, Nat.le_of_ble_eq_true rfl⟩) (vR hP hK (rX_6 hK hP)) rfl rfl hl.1 rfl (lv_room (Nat.le_of_ble_eq_true rfl)) dX6_tear_74 ⟨Nat.le_of_ble_eq_true rfl, Nat.le_of_ble_eq_true rfl⟩) (fun r2646 hr2646 => ?_)
                refine lv_if_ne (tgt := 91) hx hb dX6_tear_77 (by decide) (fun c2647 => ?_) (fun c2647 => ?_)
                · have fc2647 := z_ne (rfl : (r2646).toInt = _) (by decide : (0 : Int32).toInt = 0) c2647
                  obtain ⟨v2648, ev2648⟩ : ∃ y : Int32, y = x2601_4 + 1 := ⟨_, rfl⟩
                  have tv2648 := z_add ev2648 rfl (by decide : (1 : Int32).toInt = 1) (by omega) (by omega)
                  refine lv_iinc (v := v2648) (lv' := [(4, .int v2648), (3, .int x2601_3), (0, .ref (g 11 9)), (1, .int b), (2, .int d)]) hx hb dX6_tear_91 hl (k := 0) rfl (by rw [ev2648]; rfl) (by decide) rfl (fun ls hl => ?_)
                  refine lv_goto (tgt := 5) hx hb dX6_tear_94 (by decide) ?_
                  exact ih2602 v2648 x2601_3 f2642 w2601_a_6_5 ⟨by omega, by omega⟩ hf2642 hw2601_a_6_5 (by omega) _ _ ls hP hD hS (lv_sub hl [0, 1, 2, 3, 4] rfl)
                · have fc2647 := z_eq (rfl : (r2646).toInt = _) (by decide : (0 : Int32).toInt = 0) c2647
                  refine lv_aload_n hx hb dX6_tear_80 rfl (lv_at hl 2 rfl) ?_
                  refine gX_6_5 hx hb ht hown hK hP m_393 dX6_tear_81 ?_
                  refine lv_iload hx hb dX6_tear_84 (lv_at hl 0 rfl) ?_
                  refine lv_iload_n hx hb dX6_tear_86 rfl (lv_at hl 4 rfl) ?_
                  refine tX_6_5 hx hb hK hP hD hS (f0 := w2601_a_6_5) rfl (i := x2601_4) (x := d) (vp_in_iff.mpr ⟨by omega, by omega⟩) dX6_tear_87 (fun f2649 ef2649 H locs hP hD hS => ?_)
                  have hf2649 : ∀ j, inb (bA 6 5 j) (f2649 j) := fun j => full_i _
                  have hP : va_P (dC, dI) classes (WX h g ca iv lv (u2 (u2 fa 6 6 f2642) 6 5 f2649) la) H := hP
                  have hD : va_D A (WX h g ca iv lv (u2 (u2 fa 6 6 f2642) 6 5 f2649) la) := hD
                  obtain ⟨v2650, ev2650⟩ : ∃ y : Int32, y = x2601_3 + 1 := ⟨_, rfl⟩
                  refine lv_iinc (v := v2650) (lv' := [(3, .int v2650), (4, .int x2601_4), (0, .ref (g 11 9)), (1, .int b), (2, .int d)]) hx hb dX6_tear_88 hl (k := 1) rfl (by rw [ev2650]; rfl) (by decide) rfl (fun ls hl => ?_)
                  obtain ⟨v2651, ev2651⟩ : ∃ y : Int32, y = x2601_4 + 1 := ⟨_, rfl⟩
                  have tv2651 := z_add ev2651 rfl (by decide : (1 : Int32).toInt = 1) (by omega) (by omega)
                  refine lv_iinc (v := v2651) (lv' := [(4, .int v2651), (3, .int v2650), (0, .ref (g 11 9)), (1, .int b), (2, .int d)]) hx hb dX6_tear_91 hl (k := 1) rfl (by rw [ev2651]; rfl) (by decide) rfl (fun ls hl => ?_)
                  refine lv_goto (tgt := 5) hx hb dX6_tear_94 (by decide) ?_
                  exact ih2602 v2651 v2650 f2642 f2649 ⟨by omega, by omega⟩ hf2642 hf2649 (by omega) _ _ ls hP hD hS (lv_sub hl [0, 1, 2, 3, 4] rfl)
            · exact absurd rfl c2641
  exact lp2602 41 0 0 (fa 6 6) (fa 6 5) ⟨by decide, by decide⟩ (hI.2 6 6) (hI.2 6 5) (by first | decide | omega) _ _ ls hP hD hS (lv_sub hl [0, 1, 2, 3, 4] rfl)
set_option maxHeartbeats 4000000 in
set_option maxRecDepth 100000 in
/-- X6_standing -/
theorem c_X6_standing (l : Launch) (dC : Nat → ClassId) (dI : Nat → Nat → Nat) (h : Nat) (g : Nat → Nat → Nat) (ca : Nat → Nat → ClassId) (iv : Nat → Nat → Int32) (lv : Nat → Nat → Int64) (fa : Nat → Nat → Nat → Int32) (la : Nat → Nat → Nat → Int64) (hI : IX iv fa) (b : Int32) (d : Int32) : Met l yX6_standing (wc yX6_standing cX6_standing 7 (some .long)) ({ frames := 0, cells := 0, slots := 0, locals := 0 } : Room) (pR (dC, dI) classes (WX h g ca iv lv fa la) (TX ca) [.ref (g 11 9), .int b, .int d]) (vp_Sl (fun r => True)) 0 0 (fun _ => False) := by
  refine Met.ofW (cc := cX6_standing) (maxL := 7) (ret := (some .long)) (by decide) rfl ?_
  intro p e s m args below meth c s₁ B hml hv
  obtain ⟨rfl, hP, hK⟩ := hv
  have hx := B.exec
  have hb := B.bytes
  have hr := B.returns
  have ht := tb_tl (atoms_spec (ws := wc yX6_standing cX6_standing 7 (some .long)) B.pre)
  have hown : s.vm.findClass RX6 = some m.cls := findClass_of_methodNamed B.named
  have hlocks := B.notSynchronized
  have hl := lv_entry [.ref (g 11 9), .int b, .int d] (n := 7) (Nat.le_of_ble_eq_true rfl)
  rw [lg_entry_eq]
  generalize (lg_sl [.ref (g 11 9), .int b, .int d] ++ List.replicate (7 - (lg_sl [.ref (g 11 9), .int b, .int d]).length) Slot.unset).toArray = ls at hl ⊢
  have hl : lv_has ls 7 [(0, .ref (g 11 9)), (1, .int b), (2, .int d)] := hl
  refine lv_lconst (v := 0) hx hb dX6_standing_0 (by decide) ?_
  refine lv_lstore_n (lv' := [(3, .long 0), (0, .ref (g 11 9)), (1, .int b), (2, .int d)]) hx hb dX6_standing_1 rfl hl (by decide) rfl (fun ls hl => ?_)
  refine lv_iconst (v := 0) hx hb dX6_standing_2 (by decide) ?_
  refine lv_istore (lv' := [(5, .int 0), (3, .long 0), (0, .ref (g 11 9)), (1, .int b), (2, .int d)]) hx hb dX6_standing_3 hl (by decide) rfl (fun ls hl => ?_)
  have lp610 : ∀ (nn610 : Nat) (x609_5 : Int32) (x609_3 : Int64), 0 ≤ x609_5.toInt ∧ x609_5.toInt ≤ 40 → 40 - x609_5.toInt < (nn610 : Int) → ∀ (ls : Array Slot), lv_has ls 7 [(5, .int x609_5), (3, .long x609_3), (0, .ref (g 11 9)), (1, .int b), (2, .int d)] → W p l e ({ frames := 0, cells := 0, slots := 0, locals := 0 } : Room) s m ([.ref (g 11 9), .int b, .int d] : List Value).toArray below meth c s.heap [] 0 0 (MQ below (vp_Sl (fun r => True)) ([.ref (g 11 9), .int b, .int d] : List Value).toArray s 0 0 (fun _ => False)) (F0 m 5 ls []) := by
    intro nn610
    induction nn610 with
    | zero => intro x609_5 x609_3 hx609_5 hm610; exfalso; omega
    | succ nn610 ih610 =>
      intro x609_5 x609_3 hx609_5 hm610 ls hl
      refine lv_iload hx hb dX6_standing_5 (lv_at hl 0 rfl) ?_
      refine lv_aload_n hx hb dX6_standing_7 rfl (lv_at hl 2 rfl) ?_
      have i_6_7 : 0 ≤ (iv 6 7).toInt ∧ (iv 6 7).toInt ≤ 40 := hI.1 6 7
      refine gX_6_7 hx hb ht hown hK hP m_396 (v := (iv 6 7)) rfl dX6_standing_8 ?_
      refine lv_icmp_ge (tgt := 87) hx hb dX6_standing_11 (by decide) (fun c611 => ?_) (fun c611 => ?_)
      · have fc611 := z_le (rfl : ((iv 6 7)).toInt = _) (rfl : (x609_5).toInt = _) c611
        refine lv_lload_n hx hb dX6_standing_87 rfl (lv_at hl 1 rfl) ?_
        exact W.lret (v := x609_3) hx hb hr (fun t ht9 hW => ⟨x609_3, rfl, trivial, ht9⟩) (fun q hq => by cases hq) dX6_standing_88
      · have fc611 := z_nle (rfl : ((iv 6 7)).toInt = _) (rfl : (x609_5).toInt = _) c611
        refine lv_aload_n hx hb dX6_standing_14 rfl (lv_at hl 2 rfl) ?_
        refine gX_6_4 hx hb ht hown hK hP m_391 dX6_standing_15 ?_
        refine lv_iload hx hb dX6_standing_18 (lv_at hl 0 rfl) ?_
        refine lX_6_4 hx hb hK hP (f := (fa 6 4)) rfl (vp_in_iff.mpr ⟨by omega, by omega⟩) dX6_standing_20 ?_
        refine lv_topi (fun v612 ev612 => ?_)
        refine lv_iload_n hx hb dX6_standing_21 rfl (lv_at hl 3 rfl) ?_
        refine lv_icmp_gt (tgt := 51) hx hb dX6_standing_22 (by decide) (fun c613 => ?_) (fun c613 => ?_)
        · have fc613 := z_lt (rfl : (b).toInt = _) (rfl : (v612).toInt = _) c613
          refine lv_iconst (v := 0) hx hb dX6_standing_51 (by decide) ?_
          refine lv_istore (lv' := [(6, .int 0), (5, .int x609_5), (3, .long x609_3), (0, .ref (g 11 9)), (1, .int b), (2, .int d)]) hx hb dX6_standing_52 hl (by decide) rfl (fun ls hl => ?_)
          refine lv_aload_n hx hb dX6_standing_54 rfl (lv_at hl 3 rfl) ?_
          refine gX_6_0 hx hb ht hown hK hP m_383 dX6_standing_55 ?_
          refine lv_iload hx hb dX6_standing_58 (lv_at hl 1 rfl) ?_
          refine lX_6_0 hx hb hK hP (f := (fa 6 0)) rfl (vp_in_iff.mpr ⟨by omega, by omega⟩) dX6_standing_60 ?_
          refine lv_topi (fun v614 ev614 => ?_)
          refine lv_iload_n hx hb dX6_standing_61 rfl (lv_at hl 5 rfl) ?_
          refine lv_icmp_ne (tgt := 81) hx hb dX6_standing_62 (by decide) (fun c615 => ?_) (fun c615 => ?_)
          · have fc615 := z_ne (rfl : (v614).toInt = _) (rfl : (d).toInt = _) c615
            obtain ⟨v616, ev616⟩ : ∃ y : Int32, y = x609_5 + 1 := ⟨_, rfl⟩
            have tv616 := z_add ev616 rfl (by decide : (1 : Int32).toInt = 1) (by omega) (by omega)
            refine lv_iinc (v := v616) (lv' := [(5, .int v616), (6, .int 0), (3, .long x609_3), (0, .ref (g 11 9)), (1, .int b), (2, .int d)]) hx hb dX6_standing_81 hl (k := 1) rfl (by rw [ev616]; rfl) (by decide) rfl (fun ls hl => ?_)
            refine lv_goto (tgt := 5) hx hb dX6_standing_84 (by decide) ?_
            exact ih610 v616 x609_3 ⟨by omega, by omega⟩ (by omega) ls (lv_sub hl [0, 2, 3, 4, 5] rfl)
          · have fc615 := z_eq (rfl : (v614).toInt = _) (rfl : (d).toInt = _) c615
            refine lv_iload hx hb dX6_standing_65 (lv_at hl 0 rfl) ?_
            refine lv_if_eq (tgt := 81) hx hb dX6_standing_67 (by decide) (fun c617 => ?_) (fun c617 => ?_)
            · skip
              obtain ⟨v618, ev618⟩ : ∃ y : Int32, y = x609_5 + 1 := ⟨_, rfl⟩
              have tv618 := z_add ev618 rfl (by decide : (1 : Int32).toInt = 1) (by omega) (by omega)
              refine lv_iinc (v := v618) (lv' := [(5, .int v618), (6, .int 0), (3, .long x609_3), (0, .ref (g 11 9)), (1, .int b), (2, .int d)]) hx hb dX6_standing_81 hl (k := 1) rfl (by rw [ev618]; rfl) (by decide) rfl (fun ls hl => ?_)
              refine lv_goto (tgt := 5) hx hb dX6_standing_84 (by decide) ?_
              exact ih610 v618 x609_3 ⟨by omega, by omega⟩ (by omega) ls (lv_sub hl [0, 2, 3, 4, 5] rfl)
            · exact absurd rfl c617
        · have fc613 := z_nlt (rfl : (b).toInt = _) (rfl : (v612).toInt = _) c613
          refine lv_aload_n hx hb dX6_standing_25 rfl (lv_at hl 2 rfl) ?_
          refine gX_6_5 hx hb ht hown hK hP m_393 dX6_standing_26 ?_
          refine lv_iload hx hb dX6_standing_29 (lv_at hl 0 rfl) ?_
          refine lX_6_5 hx hb hK hP (f := (fa 6 5)) rfl (vp_in_iff.mpr ⟨by omega, by omega⟩) dX6_standing_31 ?_
          refine lv_topi (fun v619 ev619 => ?_)
          refine lv_iconst (v := (-1)) hx hb dX6_standing_32 (by decide) ?_
          refine lv_icmp_eq (tgt := 47) hx hb dX6_standing_33 (by decide) (fun c620 => ?_) (fun c620 => ?_)
          · have fc620 := z_eq (rfl : (v619).toInt = _) (by decide : ((-1) : Int32).toInt = (-1)) c620
            refine lv_iconst (v := 1) hx hb dX6_standing_47 (by decide) ?_
            refine lv_goto (tgt := 52) hx hb dX6_standing_48 (by decide) ?_
            refine lv_istore (lv' := [(6, .int 1), (5, .int x609_5), (3, .long x609_3), (0, .ref (g 11 9)), (1, .int b), (2, .int d)]) hx hb dX6_standing_52 hl (by decide) rfl (fun ls hl => ?_)
            refine lv_aload_n hx hb dX6_standing_54 rfl (lv_at hl 3 rfl) ?_
            refine gX_6_0 hx hb ht hown hK hP m_383 dX6_standing_55 ?_
            refine lv_iload hx hb dX6_standing_58 (lv_at hl 1 rfl) ?_
            refine lX_6_0 hx hb hK hP (f := (fa 6 0)) rfl (vp_in_iff.mpr ⟨by omega, by omega⟩) dX6_standing_60 ?_
            refine lv_topi (fun v621 ev621 => ?_)
            refine lv_iload_n hx hb dX6_standing_61 rfl (lv_at hl 5 rfl) ?_
            refine lv_icmp_ne (tgt := 81) hx hb dX6_standing_62 (by decide) (fun c622 => ?_) (fun c622 => ?_)
            · have fc622 := z_ne (rfl : (v621).toInt = _) (rfl : (d).toInt = _) c622
              obtain ⟨v623, ev623⟩ : ∃ y : Int32, y = x609_5 + 1 := ⟨_, rfl⟩
              have tv623 := z_add ev623 rfl (by decide : (1 : Int32).toInt = 1) (by omega) (by omega)
              refine lv_iinc (v := v623) (lv' := [(5, .int v623), (6, .int 1), (3, .long x609_3), (0, .ref (g 11 9)), (1, .int b), (2, .int d)]) hx hb dX6_standing_81 hl (k := 1) rfl (by rw [ev623]; rfl) (by decide) rfl (fun ls hl => ?_)
              refine lv_goto (tgt := 5) hx hb dX6_standing_84 (by decide) ?_
              exact ih610 v623 x609_3 ⟨by omega, by omega⟩ (by omega) ls (lv_sub hl [0, 2, 3, 4, 5] rfl)
            · have fc622 := z_eq (rfl : (v621).toInt = _) (rfl : (d).toInt = _) c622
              refine lv_iload hx hb dX6_standing_65 (lv_at hl 0 rfl) ?_
              refine lv_if_eq (tgt := 81) hx hb dX6_standing_67 (by decide) (fun c624 => ?_) (fun c624 => ?_)
              · exact absurd c624 (by decide)
              · skip
                refine lv_lload_n hx hb dX6_standing_70 rfl (lv_at hl 2 rfl) ?_
                refine lv_aload_n hx hb dX6_standing_71 rfl (lv_at hl 3 rfl) ?_
                refine gX_6_2 hx hb ht hown hK hP m_387 dX6_standing_72 ?_
                refine lv_iload hx hb dX6_standing_75 (lv_at hl 1 rfl) ?_
                refine lX_6_2 hx hb hK hP (f := (fa 6 2)) rfl (vp_in_iff.mpr ⟨by omega, by omega⟩) dX6_standing_77 ?_
                refine lv_topi (fun v625 ev625 => ?_)
                refine lv_i2l (v := (v625.toInt64)) hx hb dX6_standing_78 rfl ?_
                refine lv_ladd hx hb dX6_standing_79 ?_
                refine lv_topl (fun w626 ew626 => ?_)
                refine lv_lstore_n (lv' := [(3, .long w626), (6, .int 1), (5, .int x609_5), (0, .ref (g 11 9)), (1, .int b), (2, .int d)]) hx hb dX6_standing_80 rfl hl (by decide) rfl (fun ls hl => ?_)
                obtain ⟨v627, ev627⟩ : ∃ y : Int32, y = x609_5 + 1 := ⟨_, rfl⟩
                have tv627 := z_add ev627 rfl (by decide : (1 : Int32).toInt = 1) (by omega) (by omega)
                refine lv_iinc (v := v627) (lv' := [(5, .int v627), (3, .long w626), (6, .int 1), (0, .ref (g 11 9)), (1, .int b), (2, .int d)]) hx hb dX6_standing_81 hl (k := 2) rfl (by rw [ev627]; rfl) (by decide) rfl (fun ls hl => ?_)
                refine lv_goto (tgt := 5) hx hb dX6_standing_84 (by decide) ?_
                exact ih610 v627 w626 ⟨by omega, by omega⟩ (by omega) ls (lv_sub hl [0, 1, 3, 4, 5] rfl)
          · have fc620 := z_ne (rfl : (v619).toInt = _) (by decide : ((-1) : Int32).toInt = (-1)) c620
            refine lv_aload_n hx hb dX6_standing_36 rfl (lv_at hl 2 rfl) ?_
            refine gX_6_5 hx hb ht hown hK hP m_393 dX6_standing_37 ?_
            refine lv_iload hx hb dX6_standing_40 (lv_at hl 0 rfl) ?_
            refine lX_6_5 hx hb hK hP (f := (fa 6 5)) rfl (vp_in_iff.mpr ⟨by omega, by omega⟩) dX6_standing_42 ?_
            refine lv_topi (fun v628 ev628 => ?_)
            obtain rfl : v619 = v628 := ev619.trans ev628.symm
            refine lv_iload_n hx hb dX6_standing_43 rfl (lv_at hl 3 rfl) ?_
            refine lv_icmp_le (tgt := 51) hx hb dX6_standing_44 (by decide) (fun c629 => ?_) (fun c629 => ?_)
            · have fc629 := z_le (rfl : (v619).toInt = _) (rfl : (b).toInt = _) c629
              refine lv_iconst (v := 0) hx hb dX6_standing_51 (by decide) ?_
              refine lv_istore (lv' := [(6, .int 0), (5, .int x609_5), (3, .long x609_3), (0, .ref (g 11 9)), (1, .int b), (2, .int d)]) hx hb dX6_standing_52 hl (by decide) rfl (fun ls hl => ?_)
              refine lv_aload_n hx hb dX6_standing_54 rfl (lv_at hl 3 rfl) ?_
              refine gX_6_0 hx hb ht hown hK hP m_383 dX6_standing_55 ?_
              refine lv_iload hx hb dX6_standing_58 (lv_at hl 1 rfl) ?_
              refine lX_6_0 hx hb hK hP (f := (fa 6 0)) rfl (vp_in_iff.mpr ⟨by omega, by omega⟩) dX6_standing_60 ?_
              refine lv_topi (fun v630 ev630 => ?_)
              refine lv_iload_n hx hb dX6_standing_61 rfl (lv_at hl 5 rfl) ?_
              refine lv_icmp_ne (tgt := 81) hx hb dX6_standing_62 (by decide) (fun c631 => ?_) (fun c631 => ?_)
              · have fc631 := z_ne (rfl : (v630).toInt = _) (rfl : (d).toInt = _) c631
                obtain ⟨v632, ev632⟩ : ∃ y : Int32, y = x609_5 + 1 := ⟨_, rfl⟩
                have tv632 := z_add ev632 rfl (by decide : (1 : Int32).toInt = 1) (by omega) (by omega)
                refine lv_iinc (v := v632) (lv' := [(5, .int v632), (6, .int 0), (3, .long x609_3), (0, .ref (g 11 9)), (1, .int b), (2, .int d)]) hx hb dX6_standing_81 hl (k := 1) rfl (by rw [ev632]; rfl) (by decide) rfl (fun ls hl => ?_)
                refine lv_goto (tgt := 5) hx hb dX6_standing_84 (by decide) ?_
                exact ih610 v632 x609_3 ⟨by omega, by omega⟩ (by omega) ls (lv_sub hl [0, 2, 3, 4, 5] rfl)
              · have fc631 := z_eq (rfl : (v630).toInt = _) (rfl : (d).toInt = _) c631
                refine lv_iload hx hb dX6_standing_65 (lv_at hl 0 rfl) ?_
                refine lv_if_eq (tgt := 81) hx hb dX6_standing_67 (by decide) (fun c633 => ?_) (fun c633 => ?_)
                · skip
                  obtain ⟨v634, ev634⟩ : ∃ y : Int32, y = x609_5 + 1 := ⟨_, rfl⟩
                  have tv634 := z_add ev634 rfl (by decide : (1 : Int32).toInt = 1) (by omega) (by omega)
                  refine lv_iinc (v := v634) (lv' := [(5, .int v634), (6, .int 0), (3, .long x609_3), (0, .ref (g 11 9)), (1, .int b), (2, .int d)]) hx hb dX6_standing_81 hl (k := 1) rfl (by rw [ev634]; rfl) (by decide) rfl (fun ls hl => ?_)
                  refine lv_goto (tgt := 5) hx hb dX6_standing_84 (by decide) ?_
                  exact ih610 v634 x609_3 ⟨by omega, by omega⟩ (by omega) ls (lv_sub hl [0, 2, 3, 4, 5] rfl)
                · exact absurd rfl c633
            · have fc629 := z_nle (rfl : (v619).toInt = _) (rfl : (b).toInt = _) c629
              refine lv_iconst (v := 1) hx hb dX6_standing_47 (by decide) ?_
              refine lv_goto (tgt := 52) hx hb dX6_standing_48 (by decide) ?_
              refine lv_istore (lv' := [(6, .int 1), (5, .int x609_5), (3, .long x609_3), (0, .ref (g 11 9)), (1, .int b), (2, .int d)]) hx hb dX6_standing_52 hl (by decide) rfl (fun ls hl => ?_)
              refine lv_aload_n hx hb dX6_standing_54 rfl (lv_at hl 3 rfl) ?_
              refine gX_6_0 hx hb ht hown hK hP m_383 dX6_standing_55 ?_
              refine lv_iload hx hb dX6_standing_58 (lv_at hl 1 rfl) ?_
              refine lX_6_0 hx hb hK hP (f := (fa 6 0)) rfl (vp_in_iff.mpr ⟨by omega, by omega⟩) dX6_standing_60 ?_
              refine lv_topi (fun v635 ev635 => ?_)
              refine lv_iload_n hx hb dX6_standing_61 rfl (lv_at hl 5 rfl) ?_
              refine lv_icmp_ne (tgt := 81) hx hb dX6_standing_62 (by decide) (fun c636 => ?_) (fun c636 => ?_)
              · have fc636 := z_ne (rfl : (v635).toInt = _) (rfl : (d).toInt = _) c636
                obtain ⟨v637, ev637⟩ : ∃ y : Int32, y = x609_5 + 1 := ⟨_, rfl⟩
                have tv637 := z_add ev637 rfl (by decide : (1 : Int32).toInt = 1) (by omega) (by omega)
                refine lv_iinc (v := v637) (lv' := [(5, .int v637), (6, .int 1), (3, .long x609_3), (0, .ref (g 11 9)), (1, .int b), (2, .int d)]) hx hb dX6_standing_81 hl (k := 1) rfl (by rw [ev637]; rfl) (by decide) rfl (fun ls hl => ?_)
                refine lv_goto (tgt := 5) hx hb dX6_standing_84 (by decide) ?_
                exact ih610 v637 x609_3 ⟨by omega, by omega⟩ (by omega) ls (lv_sub hl [0, 2, 3, 4, 5] rfl)
              · have fc636 := z_eq (rfl : (v635).toInt = _) (rfl : (d).toInt = _) c636
                refine lv_iload hx hb dX6_standing_65 (lv_at hl 0 rfl) ?_
                refine lv_if_eq (tgt := 81) hx hb dX6_standing_67 (by decide) (fun c638 => ?_) (fun c638 => ?_)
                · exact absurd c638 (by decide)
                · skip
                  refine lv_lload_n hx hb dX6_standing_70 rfl (lv_at hl 2 rfl) ?_
                  refine lv_aload_n hx hb dX6_standing_71 rfl (lv_at hl 3 rfl) ?_
                  refine gX_6_2 hx hb ht hown hK hP m_387 dX6_standing_72 ?_
                  refine lv_iload hx hb dX6_standing_75 (lv_at hl 1 rfl) ?_
                  refine lX_6_2 hx hb hK hP (f := (fa 6 2)) rfl (vp_in_iff.mpr ⟨by omega, by omega⟩) dX6_standing_77 ?_
                  refine lv_topi (fun v639 ev639 => ?_)
                  refine lv_i2l (v := (v639.toInt64)) hx hb dX6_standing_78 rfl ?_
                  refine lv_ladd hx hb dX6_standing_79 ?_
                  refine lv_topl (fun w640 ew640 => ?_)
                  refine lv_lstore_n (lv' := [(3, .long w640), (6, .int 1), (5, .int x609_5), (0, .ref (g 11 9)), (1, .int b), (2, .int d)]) hx hb dX6_standing_80 rfl hl (by decide) rfl (fun ls hl => ?_)
                  obtain ⟨v641, ev641⟩ : ∃ y : Int32, y = x609_5 + 1 := ⟨_, rfl⟩
                  have tv641 := z_add ev641 rfl (by decide : (1 : Int32).toInt = 1) (by omega) (by omega)
                  refine lv_iinc (v := v641) (lv' := [(5, .int v641), (3, .long w640), (6, .int 1), (0, .ref (g 11 9)), (1, .int b), (2, .int d)]) hx hb dX6_standing_81 hl (k := 2) rfl (by rw [ev641]; rfl) (by decide) rfl (fun ls hl => ?_)
                  refine lv_goto (tgt := 5) hx hb dX6_standing_84 (by decide) ?_
                  exact ih610 v641 w640 ⟨by omega, by omega⟩ (by omega) ls (lv_sub hl [0, 1, 3, 4, 5] rfl)
  exact lp610 41 0 0 ⟨by decide, by decide⟩ (by first | decide | omega) ls (lv_sub hl [0, 1, 2, 3, 4] rfl)
/-! ===== piles ===== -/
theorem m_261 : Cond.fieldLink RX7 7 "SilkHouse$Piles" "raw" "[J" ∈ tb := mb_1_4 _ (List.mem_of_getElem? (i := 17) rfl)
theorem m_264 : Cond.fieldLink RX7 13 "SilkHouse$Piles" "dry" "[J" ∈ tb := mb_1_4 _ (List.mem_of_getElem? (i := 20) rfl)
theorem m_267 : Cond.fieldLink RX7 16 "SilkHouse$Piles" "skeins" "[I" ∈ tb := mb_1_4 _ (List.mem_of_getElem? (i := 23) rfl)
set_option maxRecDepth 100000 in
theorem dvX7_clear_0 : ([(0, .iconst 0, 1), (1, .istore_n 1, 1), (2, .iload_n 1, 1), (3, .iconst 3, 1), (4, .if_icmp .ge 30, 3), (7, .aload_n 0, 1), (8, .getfield 7, 3), (11, .iload_n 1, 1), (12, .lconst 0, 1), (13, .lastore, 1), (14, .aload_n 0, 1), (15, .getfield 13, 3), (18, .iload_n 1, 1), (19, .lconst 0, 1), (20, .lastore, 1), (21, .aload_n 0, 1), (22, .getfield 16, 3), (25, .iload_n 1, 1), (26, .iconst 0, 1), (27, .iastore, 1), (28, .iinc 1 1, 3), (31, .goto (-29), 3), (34, .return_, 1)] : List (Nat × Instr × Nat)).all (fun q => decide (decode cX7_clear q.1 = .ok (q.2.1, q.2.2))) = true := by decide +kernel
theorem dX7_clear_0 : decode cX7_clear 0 = .ok (.iconst 0, 1) := all_at dvX7_clear_0 0 rfl
theorem dX7_clear_1 : decode cX7_clear 1 = .ok (.istore_n 1, 1) := all_at dvX7_clear_0 1 rfl
theorem dX7_clear_2 : decode cX7_clear 2 = .ok (.iload_n 1, 1) := all_at dvX7_clear_0 2 rfl
theorem dX7_clear_3 : decode cX7_clear 3 = .ok (.iconst 3, 1) := all_at dvX7_clear_0 3 rfl
theorem dX7_clear_4 : decode cX7_clear 4 = .ok (.if_icmp .ge 30, 3) := all_at dvX7_clear_0 4 rfl
theorem dX7_clear_7 : decode cX7_clear 7 = .ok (.aload_n 0, 1) := all_at dvX7_clear_0 5 rfl
theorem dX7_clear_8 : decode cX7_clear 8 = .ok (.getfield 7, 3) := all_at dvX7_clear_0 6 rfl
theorem dX7_clear_11 : decode cX7_clear 11 = .ok (.iload_n 1, 1) := all_at dvX7_clear_0 7 rfl
theorem dX7_clear_12 : decode cX7_clear 12 = .ok (.lconst 0, 1) := all_at dvX7_clear_0 8 rfl
theorem dX7_clear_13 : decode cX7_clear 13 = .ok (.lastore, 1) := all_at dvX7_clear_0 9 rfl
theorem dX7_clear_14 : decode cX7_clear 14 = .ok (.aload_n 0, 1) := all_at dvX7_clear_0 10 rfl
theorem dX7_clear_15 : decode cX7_clear 15 = .ok (.getfield 13, 3) := all_at dvX7_clear_0 11 rfl
theorem dX7_clear_18 : decode cX7_clear 18 = .ok (.iload_n 1, 1) := all_at dvX7_clear_0 12 rfl
theorem dX7_clear_19 : decode cX7_clear 19 = .ok (.lconst 0, 1) := all_at dvX7_clear_0 13 rfl
theorem dX7_clear_20 : decode cX7_clear 20 = .ok (.lastore, 1) := all_at dvX7_clear_0 14 rfl
theorem dX7_clear_21 : decode cX7_clear 21 = .ok (.aload_n 0, 1) := all_at dvX7_clear_0 15 rfl
theorem dX7_clear_22 : decode cX7_clear 22 = .ok (.getfield 16, 3) := all_at dvX7_clear_0 16 rfl
theorem dX7_clear_25 : decode cX7_clear 25 = .ok (.iload_n 1, 1) := all_at dvX7_clear_0 17 rfl
theorem dX7_clear_26 : decode cX7_clear 26 = .ok (.iconst 0, 1) := all_at dvX7_clear_0 18 rfl
theorem dX7_clear_27 : decode cX7_clear 27 = .ok (.iastore, 1) := all_at dvX7_clear_0 19 rfl
theorem dX7_clear_28 : decode cX7_clear 28 = .ok (.iinc 1 1, 3) := all_at dvX7_clear_0 20 rfl
theorem dX7_clear_31 : decode cX7_clear 31 = .ok (.goto (-29), 3) := all_at dvX7_clear_0 21 rfl
theorem dX7_clear_34 : decode cX7_clear 34 = .ok (.return_, 1) := all_at dvX7_clear_0 22 rfl
set_option maxRecDepth 100000 in
theorem dvX7_level_0 : ([(0, .aload_n 0, 1), (1, .getfield 13, 3), (4, .iload_n 1, 1), (5, .laload, 1), (6, .aload_n 0, 1), (7, .getfield 7, 3), (10, .iload_n 1, 1), (11, .iconst 1, 1), (12, .iadd, 1), (13, .iconst 3, 1), (14, .irem, 1), (15, .laload, 1), (16, .lmul, 1), (17, .aload_n 0, 1), (18, .getfield 7, 3), (21, .iload_n 1, 1), (22, .iconst 2, 1), (23, .iadd, 1), (24, .iconst 3, 1), (25, .irem, 1), (26, .laload, 1), (27, .lmul, 1), (28, .lreturn, 1)] : List (Nat × Instr × Nat)).all (fun q => decide (decode cX7_level q.1 = .ok (q.2.1, q.2.2))) = true := by decide +kernel
theorem dX7_level_0 : decode cX7_level 0 = .ok (.aload_n 0, 1) := all_at dvX7_level_0 0 rfl
theorem dX7_level_1 : decode cX7_level 1 = .ok (.getfield 13, 3) := all_at dvX7_level_0 1 rfl
theorem dX7_level_4 : decode cX7_level 4 = .ok (.iload_n 1, 1) := all_at dvX7_level_0 2 rfl
theorem dX7_level_5 : decode cX7_level 5 = .ok (.laload, 1) := all_at dvX7_level_0 3 rfl
theorem dX7_level_6 : decode cX7_level 6 = .ok (.aload_n 0, 1) := all_at dvX7_level_0 4 rfl
theorem dX7_level_7 : decode cX7_level 7 = .ok (.getfield 7, 3) := all_at dvX7_level_0 5 rfl
theorem dX7_level_10 : decode cX7_level 10 = .ok (.iload_n 1, 1) := all_at dvX7_level_0 6 rfl
theorem dX7_level_11 : decode cX7_level 11 = .ok (.iconst 1, 1) := all_at dvX7_level_0 7 rfl
theorem dX7_level_12 : decode cX7_level 12 = .ok (.iadd, 1) := all_at dvX7_level_0 8 rfl
theorem dX7_level_13 : decode cX7_level 13 = .ok (.iconst 3, 1) := all_at dvX7_level_0 9 rfl
theorem dX7_level_14 : decode cX7_level 14 = .ok (.irem, 1) := all_at dvX7_level_0 10 rfl
theorem dX7_level_15 : decode cX7_level 15 = .ok (.laload, 1) := all_at dvX7_level_0 11 rfl
theorem dX7_level_16 : decode cX7_level 16 = .ok (.lmul, 1) := all_at dvX7_level_0 12 rfl
theorem dX7_level_17 : decode cX7_level 17 = .ok (.aload_n 0, 1) := all_at dvX7_level_0 13 rfl
theorem dX7_level_18 : decode cX7_level 18 = .ok (.getfield 7, 3) := all_at dvX7_level_0 14 rfl
theorem dX7_level_21 : decode cX7_level 21 = .ok (.iload_n 1, 1) := all_at dvX7_level_0 15 rfl
theorem dX7_level_22 : decode cX7_level 22 = .ok (.iconst 2, 1) := all_at dvX7_level_0 16 rfl
theorem dX7_level_23 : decode cX7_level 23 = .ok (.iadd, 1) := all_at dvX7_level_0 17 rfl
theorem dX7_level_24 : decode cX7_level 24 = .ok (.iconst 3, 1) := all_at dvX7_level_0 18 rfl
theorem dX7_level_25 : decode cX7_level 25 = .ok (.irem, 1) := all_at dvX7_level_0 19 rfl
theorem dX7_level_26 : decode cX7_level 26 = .ok (.laload, 1) := all_at dvX7_level_0 20 rfl
theorem dX7_level_27 : decode cX7_level 27 = .ok (.lmul, 1) := all_at dvX7_level_0 21 rfl
theorem dX7_level_28 : decode cX7_level 28 = .ok (.lreturn, 1) := all_at dvX7_level_0 22 rfl
set_option maxRecDepth 100000 in
theorem dvX7_put_0 : ([(0, .aload_n 0, 1), (1, .getfield 7, 3), (4, .iload_n 1, 1), (5, .dup2, 1), (6, .laload, 1), (7, .iload_n 2, 1), (8, .i2l, 1), (9, .ladd, 1), (10, .lastore, 1), (11, .aload_n 0, 1), (12, .getfield 13, 3), (15, .iload_n 1, 1), (16, .dup2, 1), (17, .laload, 1), (18, .iload_n 3, 1), (19, .i2l, 1), (20, .ladd, 1), (21, .lastore, 1), (22, .aload_n 0, 1), (23, .getfield 16, 3), (26, .iload_n 1, 1), (27, .dup2, 1), (28, .iaload, 1), (29, .iconst 1, 1)] : List (Nat × Instr × Nat)).all (fun q => decide (decode cX7_put q.1 = .ok (q.2.1, q.2.2))) = true := by decide +kernel
theorem dX7_put_0 : decode cX7_put 0 = .ok (.aload_n 0, 1) := all_at dvX7_put_0 0 rfl
theorem dX7_put_1 : decode cX7_put 1 = .ok (.getfield 7, 3) := all_at dvX7_put_0 1 rfl
theorem dX7_put_4 : decode cX7_put 4 = .ok (.iload_n 1, 1) := all_at dvX7_put_0 2 rfl
theorem dX7_put_5 : decode cX7_put 5 = .ok (.dup2, 1) := all_at dvX7_put_0 3 rfl
theorem dX7_put_6 : decode cX7_put 6 = .ok (.laload, 1) := all_at dvX7_put_0 4 rfl
theorem dX7_put_7 : decode cX7_put 7 = .ok (.iload_n 2, 1) := all_at dvX7_put_0 5 rfl
theorem dX7_put_8 : decode cX7_put 8 = .ok (.i2l, 1) := all_at dvX7_put_0 6 rfl
theorem dX7_put_9 : decode cX7_put 9 = .ok (.ladd, 1) := all_at dvX7_put_0 7 rfl
theorem dX7_put_10 : decode cX7_put 10 = .ok (.lastore, 1) := all_at dvX7_put_0 8 rfl
theorem dX7_put_11 : decode cX7_put 11 = .ok (.aload_n 0, 1) := all_at dvX7_put_0 9 rfl
theorem dX7_put_12 : decode cX7_put 12 = .ok (.getfield 13, 3) := all_at dvX7_put_0 10 rfl
theorem dX7_put_15 : decode cX7_put 15 = .ok (.iload_n 1, 1) := all_at dvX7_put_0 11 rfl
theorem dX7_put_16 : decode cX7_put 16 = .ok (.dup2, 1) := all_at dvX7_put_0 12 rfl
theorem dX7_put_17 : decode cX7_put 17 = .ok (.laload, 1) := all_at dvX7_put_0 13 rfl
theorem dX7_put_18 : decode cX7_put 18 = .ok (.iload_n 3, 1) := all_at dvX7_put_0 14 rfl
theorem dX7_put_19 : decode cX7_put 19 = .ok (.i2l, 1) := all_at dvX7_put_0 15 rfl
theorem dX7_put_20 : decode cX7_put 20 = .ok (.ladd, 1) := all_at dvX7_put_0 16 rfl
theorem dX7_put_21 : decode cX7_put 21 = .ok (.lastore, 1) := all_at dvX7_put_0 17 rfl
theorem dX7_put_22 : decode cX7_put 22 = .ok (.aload_n 0, 1) := all_at dvX7_put_0 18 rfl
theorem dX7_put_23 : decode cX7_put 23 = .ok (.getfield 16, 3) := all_at dvX7_put_0 19 rfl
theorem dX7_put_26 : decode cX7_put 26 = .ok (.iload_n 1, 1) := all_at dvX7_put_0 20 rfl
theorem dX7_put_27 : decode cX7_put 27 = .ok (.dup2, 1) := all_at dvX7_put_0 21 rfl
theorem dX7_put_28 : decode cX7_put 28 = .ok (.iaload, 1) := all_at dvX7_put_0 22 rfl
theorem dX7_put_29 : decode cX7_put 29 = .ok (.iconst 1, 1) := all_at dvX7_put_0 23 rfl
theorem dX7_put_30 : decode cX7_put 30 = .ok (.iadd, 1) := by decide +kernel
theorem dX7_put_31 : decode cX7_put 31 = .ok (.iastore, 1) := by decide +kernel
theorem dX7_put_32 : decode cX7_put 32 = .ok (.return_, 1) := by decide +kernel
set_option maxRecDepth 100000 in
theorem dvX7_remove_0 : ([(0, .aload_n 0, 1), (1, .getfield 7, 3), (4, .iload_n 1, 1), (5, .dup2, 1), (6, .laload, 1), (7, .iload_n 2, 1), (8, .i2l, 1), (9, .lsub, 1), (10, .lastore, 1), (11, .aload_n 0, 1), (12, .getfield 13, 3), (15, .iload_n 1, 1), (16, .dup2, 1), (17, .laload, 1), (18, .iload_n 3, 1), (19, .i2l, 1), (20, .lsub, 1), (21, .lastore, 1), (22, .aload_n 0, 1), (23, .getfield 16, 3), (26, .iload_n 1, 1), (27, .dup2, 1), (28, .iaload, 1), (29, .iconst 1, 1)] : List (Nat × Instr × Nat)).all (fun q => decide (decode cX7_remove q.1 = .ok (q.2.1, q.2.2))) = true := by decide +kernel
theorem dX7_remove_0 : decode cX7_remove 0 = .ok (.aload_n 0, 1) := all_at dvX7_remove_0 0 rfl
theorem dX7_remove_1 : decode cX7_remove 1 = .ok (.getfield 7, 3) := all_at dvX7_remove_0 1 rfl
theorem dX7_remove_4 : decode cX7_remove 4 = .ok (.iload_n 1, 1) := all_at dvX7_remove_0 2 rfl
theorem dX7_remove_5 : decode cX7_remove 5 = .ok (.dup2, 1) := all_at dvX7_remove_0 3 rfl
theorem dX7_remove_6 : decode cX7_remove 6 = .ok (.laload, 1) := all_at dvX7_remove_0 4 rfl
theorem dX7_remove_7 : decode cX7_remove 7 = .ok (.iload_n 2, 1) := all_at dvX7_remove_0 5 rfl
theorem dX7_remove_8 : decode cX7_remove 8 = .ok (.i2l, 1) := all_at dvX7_remove_0 6 rfl
theorem dX7_remove_9 : decode cX7_remove 9 = .ok (.lsub, 1) := all_at dvX7_remove_0 7 rfl
theorem dX7_remove_10 : decode cX7_remove 10 = .ok (.lastore, 1) := all_at dvX7_remove_0 8 rfl
theorem dX7_remove_11 : decode cX7_remove 11 = .ok (.aload_n 0, 1) := all_at dvX7_remove_0 9 rfl
theorem dX7_remove_12 : decode cX7_remove 12 = .ok (.getfield 13, 3) := all_at dvX7_remove_0 10 rfl
theorem dX7_remove_15 : decode cX7_remove 15 = .ok (.iload_n 1, 1) := all_at dvX7_remove_0 11 rfl
theorem dX7_remove_16 : decode cX7_remove 16 = .ok (.dup2, 1) := all_at dvX7_remove_0 12 rfl
theorem dX7_remove_17 : decode cX7_remove 17 = .ok (.laload, 1) := all_at dvX7_remove_0 13 rfl
theorem dX7_remove_18 : decode cX7_remove 18 = .ok (.iload_n 3, 1) := all_at dvX7_remove_0 14 rfl
theorem dX7_remove_19 : decode cX7_remove 19 = .ok (.i2l, 1) := all_at dvX7_remove_0 15 rfl
theorem dX7_remove_20 : decode cX7_remove 20 = .ok (.lsub, 1) := all_at dvX7_remove_0 16 rfl
theorem dX7_remove_21 : decode cX7_remove 21 = .ok (.lastore, 1) := all_at dvX7_remove_0 17 rfl
theorem dX7_remove_22 : decode cX7_remove 22 = .ok (.aload_n 0, 1) := all_at dvX7_remove_0 18 rfl
theorem dX7_remove_23 : decode cX7_remove 23 = .ok (.getfield 16, 3) := all_at dvX7_remove_0 19 rfl
theorem dX7_remove_26 : decode cX7_remove 26 = .ok (.iload_n 1, 1) := all_at dvX7_remove_0 20 rfl
theorem dX7_remove_27 : decode cX7_remove 27 = .ok (.dup2, 1) := all_at dvX7_remove_0 21 rfl
theorem dX7_remove_28 : decode cX7_remove 28 = .ok (.iaload, 1) := all_at dvX7_remove_0 22 rfl
theorem dX7_remove_29 : decode cX7_remove 29 = .ok (.iconst 1, 1) := all_at dvX7_remove_0 23 rfl
theorem dX7_remove_30 : decode cX7_remove 30 = .ok (.isub, 1) := by decide +kernel
theorem dX7_remove_31 : decode cX7_remove 31 = .ok (.iastore, 1) := by decide +kernel
theorem dX7_remove_32 : decode cX7_remove 32 = .ok (.return_, 1) := by decide +kernel
set_option maxHeartbeats 4000000 in
set_option maxRecDepth 100000 in
/-- X7_clear -/
theorem c_X7_clear_30 (l : Launch) (dC : Nat → ClassId) (dI : Nat → Nat → Nat) (sz : Nat) (h : Nat) (g : Nat → Nat → Nat) (ca : Nat → Nat → ClassId) (iv : Nat → Nat → Int32) (lv : Nat → Nat → Int64) (fa : Nat → Nat → Nat → Int32) (la : Nat → Nat → Nat → Int64) (hI : IX iv fa) : Met l yX7_clear (wc yX7_clear cX7_clear 2 none) ({ frames := 0, cells := 0, slots := 0, locals := 0 } : Room) (pW (dC, dI) classes (WX h g ca iv lv fa la) (TX ca) sz [.ref (g 3 2)]) (va_Qv (fun (u : SS) => ∃ (na_30_2 : Nat → Int32) (nb_30_0 : Nat → Int64) (nb_30_1 : Nat → Int64), u = (iv, lv, (u2 fa 30 2 na_30_2), (u2 (u2 la 30 0 nb_30_0) 30 1 nb_30_1))) (bX (dC, dI) h g ca (va_A (WX h g ca iv lv fa la) sz)) (va_A (WX h g ca iv lv fa la) sz)) 0 0 (va_A (WX h g ca iv lv fa la) sz) := by
  refine Met.ofW (cc := cX7_clear) (maxL := 2) (ret := none) (by decide) rfl ?_
  intro p e s m args below meth c s₁ B hml hv
  obtain ⟨rfl, hsz, hP, hK, hD0⟩ := hv
  have hx := B.exec
  have hb := B.bytes
  have hr := B.returns
  have ht := tb_tl (atoms_spec (ws := wc yX7_clear cX7_clear 2 none) B.pre)
  have hown : s.vm.findClass RX7 = some m.cls := findClass_of_methodNamed B.named
  have hlocks := B.notSynchronized
  subst hsz
  have hD := hD0.self (sz := s.heap.size)
  generalize hAe : va_A (WX h g ca iv lv fa la) s.heap.size = A at hD ⊢
  have hA : ∀ q : Nat, s.heap.size ≤ q → A q := fun q h => by rw [← hAe]; exact Or.inr h
  have hS : va_S A s.heap s.heap [] := va_S.rf
  have hl := lv_entry [.ref (g 3 2)] (n := 2) (Nat.le_of_ble_eq_true rfl)
  rw [lg_entry_eq]
  generalize (lg_sl [.ref (g 3 2)] ++ List.replicate (2 - (lg_sl [.ref (g 3 2)]).length) Slot.unset).toArray = ls at hl ⊢
  have hl : lv_has ls 2 [(0, .ref (g 3 2))] := hl
  refine lv_iconst (v := 0) hx hb dX7_clear_0 (by decide) ?_
  refine lv_istore_n (lv' := [(1, .int 0), (0, .ref (g 3 2))]) hx hb dX7_clear_1 rfl hl (by decide) rfl (fun ls hl => ?_)
  have lp26 : ∀ (nn26 : Nat) (x25_1 : Int32) (w25_a_30_2 : Nat → Int32) (w25_b_30_0 : Nat → Int64) (w25_b_30_1 : Nat → Int64), 0 ≤ x25_1.toInt ∧ x25_1.toInt ≤ 3 → (∀ j, inb (bA 30 2 j) (w25_a_30_2 j)) → 3 - x25_1.toInt < (nn26 : Int) → ∀ (H : Heap) (locs : List Loc), ∀ (ls : Array Slot), va_P (dC, dI) classes (WX h g ca iv lv (u2 fa 30 2 w25_a_30_2) (u2 (u2 la 30 0 w25_b_30_0) 30 1 w25_b_30_1)) H → va_D A (WX h g ca iv lv (u2 fa 30 2 w25_a_30_2) (u2 (u2 la 30 0 w25_b_30_0) 30 1 w25_b_30_1)) → va_S A s.heap H locs → lv_has ls 2 [(1, .int x25_1), (0, .ref (g 3 2))] → W p l e ({ frames := 0, cells := 0, slots := 0, locals := 0 } : Room) s m ([.ref (g 3 2)] : List Value).toArray below meth c H locs 0 0 (MQ below (va_Qv (fun (u : SS) => ∃ (na_30_2 : Nat → Int32) (nb_30_0 : Nat → Int64) (nb_30_1 : Nat → Int64), u = (iv, lv, (u2 fa 30 2 na_30_2), (u2 (u2 la 30 0 nb_30_0) 30 1 nb_30_1))) (bX (dC, dI) h g ca A) A) ([.ref (g 3 2)] : List Value).toArray s 0 0 A) (F0 m 2 ls []) := by
    intro nn26
    induction nn26 with
    | zero => intro x25_1 w25_a_30_2 w25_b_30_0 w25_b_30_1 hx25_1 hw25_a_30_2 hm26; exfalso; omega
    | succ nn26 ih26 =>
      intro x25_1 w25_a_30_2 w25_b_30_0 w25_b_30_1 hx25_1 hw25_a_30_2 hm26 H locs ls hP hD hS hl
      refine lv_iload_n hx hb dX7_clear_2 rfl (lv_at hl 0 rfl) ?_
      refine lv_iconst (v := 3) hx hb dX7_clear_3 (by decide) ?_
      refine lv_icmp_ge (tgt := 34) hx hb dX7_clear_4 (by decide) (fun c27 => ?_) (fun c27 => ?_)
      · have fc27 := z_le (by decide : (3 : Int32).toInt = 3) (rfl : (x25_1).toInt = _) c27
        have hP9 : va_P (dC, dI) classes (WX h g ca iv lv (u2 fa 30 2 w25_a_30_2) (u2 (u2 la 30 0 w25_b_30_0) 30 1 w25_b_30_1)) H := hP
        have hD9 : va_D A (WX h g ca iv lv (u2 fa 30 2 w25_a_30_2) (u2 (u2 la 30 0 w25_b_30_0) 30 1 w25_b_30_1)) := hD
        exact W.vret hx hb hr (fun t ht9 hW => ⟨⟨(iv, lv, (u2 fa 30 2 w25_a_30_2), (u2 (u2 la 30 0 w25_b_30_0) 30 1 w25_b_30_1)), rfl, ⟨w25_a_30_2, w25_b_30_0, w25_b_30_1, rfl⟩, by rw [ht9]; exact hP9, hD9⟩, hS.F ht9⟩) hS.2.2 dX7_clear_34
      · have fc27 := z_nle (by decide : (3 : Int32).toInt = 3) (rfl : (x25_1).toInt = _) c27
        refine lv_aload_n hx hb dX7_clear_7 rfl (lv_at hl 1 rfl) ?_
        refine gX_30_0 hx hb ht hown hK hP m_261 dX7_clear_8 ?_
        refine lv_iload_n hx hb dX7_clear_11 rfl (lv_at hl 0 rfl) ?_
        refine lv_lconst (v := 0) hx hb dX7_clear_12 (by decide) ?_
        refine tX_30_0 hx hb hK hP hD hS (f0 := w25_b_30_0) rfl (i := x25_1) (x := 0) (vp_in_iff.mpr ⟨by omega, by omega⟩) dX7_clear_13 (fun f28 ef28 H locs hP hD hS => ?_)
        have hP : va_P (dC, dI) classes (WX h g ca iv lv (u2 fa 30 2 w25_a_30_2) (u2 (u2 la 30 0 f28) 30 1 w25_b_30_1)) H := hP
        have hD : va_D A (WX h g ca iv lv (u2 fa 30 2 w25_a_30_2) (u2 (u2 la 30 0 f28) 30 1 w25_b_30_1)) := hD
        refine lv_aload_n hx hb dX7_clear_14 rfl (lv_at hl 1 rfl) ?_
        refine gX_30_1 hx hb ht hown hK hP m_264 dX7_clear_15 ?_
        refine lv_iload_n hx hb dX7_clear_18 rfl (lv_at hl 0 rfl) ?_
        refine lv_lconst (v := 0) hx hb dX7_clear_19 (by decide) ?_
        refine tX_30_1 hx hb hK hP hD hS (f0 := w25_b_30_1) rfl (i := x25_1) (x := 0) (vp_in_iff.mpr ⟨by omega, by omega⟩) dX7_clear_20 (fun f29 ef29 H locs hP hD hS => ?_)
        have hP : va_P (dC, dI) classes (WX h g ca iv lv (u2 fa 30 2 w25_a_30_2) (u2 (u2 la 30 0 f28) 30 1 f29)) H := hP
        have hD : va_D A (WX h g ca iv lv (u2 fa 30 2 w25_a_30_2) (u2 (u2 la 30 0 f28) 30 1 f29)) := hD
        refine lv_aload_n hx hb dX7_clear_21 rfl (lv_at hl 1 rfl) ?_
        refine gX_30_2 hx hb ht hown hK hP m_267 dX7_clear_22 ?_
        refine lv_iload_n hx hb dX7_clear_25 rfl (lv_at hl 0 rfl) ?_
        refine lv_iconst (v := 0) hx hb dX7_clear_26 (by decide) ?_
        refine tX_30_2 hx hb hK hP hD hS (f0 := w25_a_30_2) rfl (i := x25_1) (x := 0) (vp_in_iff.mpr ⟨by omega, by omega⟩) dX7_clear_27 (fun f30 ef30 H locs hP hD hS => ?_)
        have hf30 : ∀ j, inb (bA 30 2 j) (f30 j) := fun j => full_i _
        have hP : va_P (dC, dI) classes (WX h g ca iv lv (u2 fa 30 2 f30) (u2 (u2 la 30 0 f28) 30 1 f29)) H := hP
        have hD : va_D A (WX h g ca iv lv (u2 fa 30 2 f30) (u2 (u2 la 30 0 f28) 30 1 f29)) := hD
        obtain ⟨v31, ev31⟩ : ∃ y : Int32, y = x25_1 + 1 := ⟨_, rfl⟩
        have tv31 := z_add ev31 rfl (by decide : (1 : Int32).toInt = 1) (by omega) (by omega)
        refine lv_iinc (v := v31) (lv' := [(1, .int v31), (0, .ref (g 3 2))]) hx hb dX7_clear_28 hl (k := 0) rfl (by rw [ev31]; rfl) (by decide) rfl (fun ls hl => ?_)
        refine lv_goto (tgt := 2) hx hb dX7_clear_31 (by decide) ?_
        exact ih26 v31 f30 f28 f29 ⟨by omega, by omega⟩ hf30 (by omega) _ _ ls hP hD hS (lv_sub hl [0, 1] rfl)
  exact lp26 4 0 (fa 30 2) (la 30 0) (la 30 1) ⟨by decide, by decide⟩ (hI.2 30 2) (by first | decide | omega) _ _ ls hP hD hS (lv_sub hl [0, 1] rfl)
set_option maxHeartbeats 4000000 in
set_option maxRecDepth 100000 in
/-- X7_put -/
theorem c_X7_put_30 (l : Launch) (dC : Nat → ClassId) (dI : Nat → Nat → Nat) (sz : Nat) (h : Nat) (g : Nat → Nat → Nat) (ca : Nat → Nat → ClassId) (iv : Nat → Nat → Int32) (lv : Nat → Nat → Int64) (fa : Nat → Nat → Nat → Int32) (la : Nat → Nat → Nat → Int64) (hI : IX iv fa) (a : Int32) (b : Int32) (d : Int32) (h_a : 0 ≤ a.toInt ∧ a.toInt ≤ 2) : Met l yX7_put (wc yX7_put cX7_put 4 none) ({ frames := 0, cells := 0, slots := 0, locals := 0 } : Room) (pW (dC, dI) classes (WX h g ca iv lv fa la) (TX ca) sz [.ref (g 3 2), .int a, .int b, .int d]) (va_Qv (fun (u : SS) => ∃ (na_30_2 : Nat → Int32) (nb_30_0 : Nat → Int64) (nb_30_1 : Nat → Int64), u = (iv, lv, (u2 fa 30 2 na_30_2), (u2 (u2 la 30 0 nb_30_0) 30 1 nb_30_1))) (bX (dC, dI) h g ca (va_A (WX h g ca iv lv fa la) sz)) (va_A (WX h g ca iv lv fa la) sz)) 0 0 (va_A (WX h g ca iv lv fa la) sz) := by
  refine Met.ofW (cc := cX7_put) (maxL := 4) (ret := none) (by decide) rfl ?_
  intro p e s m args below meth c s₁ B hml hv
  obtain ⟨rfl, hsz, hP, hK, hD0⟩ := hv
  have hx := B.exec
  have hb := B.bytes
  have hr := B.returns
  have ht := tb_tl (atoms_spec (ws := wc yX7_put cX7_put 4 none) B.pre)
  have hown : s.vm.findClass RX7 = some m.cls := findClass_of_methodNamed B.named
  have hlocks := B.notSynchronized
  subst hsz
  have hD := hD0.self (sz := s.heap.size)
  generalize hAe : va_A (WX h g ca iv lv fa la) s.heap.size = A at hD ⊢
  have hA : ∀ q : Nat, s.heap.size ≤ q → A q := fun q h => by rw [← hAe]; exact Or.inr h
  have hS : va_S A s.heap s.heap [] := va_S.rf
  have hl := lv_entry [.ref (g 3 2), .int a, .int b, .int d] (n := 4) (Nat.le_of_ble_eq_true rfl)
  rw [lg_entry_eq]
  generalize (lg_sl [.ref (g 3 2), .int a, .int b, .int d] ++ List.replicate (4 - (lg_sl [.ref (g 3 2), .int a, .int b, .int d]).length) Slot.unset).toArray = ls at hl ⊢
  have hl : lv_has ls 4 [(0, .ref (g 3 2)), (1, .int a), (2, .int b), (3, .int d)] := hl
  refine lv_aload_n hx hb dX7_put_0 rfl (lv_at hl 0 rfl) ?_
  refine gX_30_0 hx hb ht hown hK hP m_261 dX7_put_1 ?_
  refine lv_iload_n hx hb dX7_put_4 rfl (lv_at hl 1 rfl) ?_
  refine lv_dup2_11 hx hb dX7_put_5 rfl rfl ?_
  refine lX_30_0 hx hb hK hP (f := (la 30 0)) rfl (vp_in_iff.mpr ⟨by omega, by omega⟩) dX7_put_6 ?_
  refine lv_topl (fun w1 ew1 => ?_)
  refine lv_iload_n hx hb dX7_put_7 rfl (lv_at hl 2 rfl) ?_
  refine lv_i2l (v := (b.toInt64)) hx hb dX7_put_8 rfl ?_
  refine lv_ladd hx hb dX7_put_9 ?_
  refine lv_topl (fun w2 ew2 => ?_)
  refine tX_30_0 hx hb hK hP hD hS (f0 := (la 30 0)) rfl (i := a) (x := w2) (vp_in_iff.mpr ⟨by omega, by omega⟩) dX7_put_10 (fun f3 ef3 H locs hP hD hS => ?_)
  refine lv_aload_n hx hb dX7_put_11 rfl (lv_at hl 0 rfl) ?_
  refine gX_30_1 hx hb ht hown hK hP m_264 dX7_put_12 ?_
  refine lv_iload_n hx hb dX7_put_15 rfl (lv_at hl 1 rfl) ?_
  refine lv_dup2_11 hx hb dX7_put_16 rfl rfl ?_
  refine lX_30_1 hx hb hK hP (f := (la 30 1)) rfl (vp_in_iff.mpr ⟨by omega, by omega⟩) dX7_put_17 ?_
  refine lv_topl (fun w4 ew4 => ?_)
  refine lv_iload_n hx hb dX7_put_18 rfl (lv_at hl 3 rfl) ?_
  refine lv_i2l (v := (d.toInt64)) hx hb dX7_put_19 rfl ?_
  refine lv_ladd hx hb dX7_put_20 ?_
  refine lv_topl (fun w5 ew5 => ?_)
  refine tX_30_1 hx hb hK hP hD hS (f0 := (la 30 1)) rfl (i := a) (x := w5) (vp_in_iff.mpr ⟨by omega, by omega⟩) dX7_put_21 (fun f6 ef6 H locs hP hD hS => ?_)
  refine lv_aload_n hx hb dX7_put_22 rfl (lv_at hl 0 rfl) ?_
  refine gX_30_2 hx hb ht hown hK hP m_267 dX7_put_23 ?_
  refine lv_iload_n hx hb dX7_put_26 rfl (lv_at hl 1 rfl) ?_
  refine lv_dup2_11 hx hb dX7_put_27 rfl rfl ?_
  refine lX_30_2 hx hb hK hP (f := (fa 30 2)) rfl (vp_in_iff.mpr ⟨by omega, by omega⟩) dX7_put_28 ?_
  refine lv_topi (fun v7 ev7 => ?_)
  refine lv_iconst (v := 1) hx hb dX7_put_29 (by decide) ?_
  refine lv_iadd hx hb dX7_put_30 ?_
  refine lv_topi (fun v8 ev8 => ?_)
  refine tX_30_2 hx hb hK hP hD hS (f0 := (fa 30 2)) rfl (i := a) (x := v8) (vp_in_iff.mpr ⟨by omega, by omega⟩) dX7_put_31 (fun f9 ef9 H locs hP hD hS => ?_)
  have hf9 : ∀ j, inb (bA 30 2 j) (f9 j) := fun j => full_i _
  have hP9 : va_P (dC, dI) classes (WX h g ca iv lv (u2 fa 30 2 f9) (u2 (u2 la 30 0 f3) 30 1 f6)) H := hP
  have hD9 : va_D A (WX h g ca iv lv (u2 fa 30 2 f9) (u2 (u2 la 30 0 f3) 30 1 f6)) := hD
  exact W.vret hx hb hr (fun t ht9 hW => ⟨⟨(iv, lv, (u2 fa 30 2 f9), (u2 (u2 la 30 0 f3) 30 1 f6)), rfl, ⟨f9, f3, f6, rfl⟩, by rw [ht9]; exact hP9, hD9⟩, hS.F ht9⟩) hS.2.2 dX7_put_32
set_option maxHeartbeats 4000000 in
set_option maxRecDepth 100000 in
/-- X7_level -/
theorem c_X7_level_30 (l : Launch) (dC : Nat → ClassId) (dI : Nat → Nat → Nat) (h : Nat) (g : Nat → Nat → Nat) (ca : Nat → Nat → ClassId) (iv : Nat → Nat → Int32) (lv : Nat → Nat → Int64) (fa : Nat → Nat → Nat → Int32) (la : Nat → Nat → Nat → Int64) (hI : IX iv fa) (a : Int32) (h_a : 0 ≤ a.toInt ∧ a.toInt ≤ 2) : Met l yX7_level (wc yX7_level cX7_level 2 (some .long)) ({ frames := 0, cells := 0, slots := 0, locals := 0 } : Room) (pR (dC, dI) classes (WX h g ca iv lv fa la) (TX ca) [.ref (g 3 2), .int a]) (vp_Sl (fun r => True)) 0 0 (fun _ => False) := by
  refine Met.ofW (cc := cX7_level) (maxL := 2) (ret := (some .long)) (by decide) rfl ?_
  intro p e s m args below meth c s₁ B hml hv
  obtain ⟨rfl, hP, hK⟩ := hv
  have hx := B.exec
  have hb := B.bytes
  have hr := B.returns
  have ht := tb_tl (atoms_spec (ws := wc yX7_level cX7_level 2 (some .long)) B.pre)
  have hown : s.vm.findClass RX7 = some m.cls := findClass_of_methodNamed B.named
  have hlocks := B.notSynchronized
  have hl := lv_entry [.ref (g 3 2), .int a] (n := 2) (Nat.le_of_ble_eq_true rfl)
  rw [lg_entry_eq]
  generalize (lg_sl [.ref (g 3 2), .int a] ++ List.replicate (2 - (lg_sl [.ref (g 3 2), .int a]).length) Slot.unset).toArray = ls at hl ⊢
  have hl : lv_has ls 2 [(0, .ref (g 3 2)), (1, .int a)] := hl
  refine lv_aload_n hx hb dX7_level_0 rfl (lv_at hl 0 rfl) ?_
  refine gX_30_1 hx hb ht hown hK hP m_264 dX7_level_1 ?_
  refine lv_iload_n hx hb dX7_level_4 rfl (lv_at hl 1 rfl) ?_
  refine lX_30_1 hx hb hK hP (f := (la 30 1)) rfl (vp_in_iff.mpr ⟨by omega, by omega⟩) dX7_level_5 ?_
  refine lv_topl (fun w1 ew1 => ?_)
  refine lv_aload_n hx hb dX7_level_6 rfl (lv_at hl 0 rfl) ?_
  refine gX_30_0 hx hb ht hown hK hP m_261 dX7_level_7 ?_
  refine lv_iload_n hx hb dX7_level_10 rfl (lv_at hl 1 rfl) ?_
  refine lv_iconst (v := 1) hx hb dX7_level_11 (by decide) ?_
  refine lv_iadd hx hb dX7_level_12 ?_
  refine lv_topi (fun v2 ev2 => ?_)
  have tv2 := z_add ev2 (rfl : (a).toInt = _) (by decide : (1 : Int32).toInt = 1) (by omega) (by omega)
  refine lv_iconst (v := 3) hx hb dX7_level_13 (by decide) ?_
  refine lv_irem hx hb dX7_level_14 (by decide) ?_
  refine lv_topi (fun v3 ev3 => ?_)
  have tv3 := z_remp ev3 (rfl : (v2).toInt = _) (by decide : (3 : Int32).toInt = 3) (by omega) (by omega)
  refine lX_30_0 hx hb hK hP (f := (la 30 0)) rfl (vp_in_iff.mpr ⟨by omega, by omega⟩) dX7_level_15 ?_
  refine lv_topl (fun w4 ew4 => ?_)
  refine lv_lmul hx hb dX7_level_16 ?_
  refine lv_topl (fun w5 ew5 => ?_)
  refine lv_aload_n hx hb dX7_level_17 rfl (lv_at hl 0 rfl) ?_
  refine gX_30_0 hx hb ht hown hK hP m_261 dX7_level_18 ?_
  refine lv_iload_n hx hb dX7_level_21 rfl (lv_at hl 1 rfl) ?_
  refine lv_iconst (v := 2) hx hb dX7_level_22 (by decide) ?_
  refine lv_iadd hx hb dX7_level_23 ?_
  refine lv_topi (fun v6 ev6 => ?_)
  have tv6 := z_add ev6 (rfl : (a).toInt = _) (by decide : (2 : Int32).toInt = 2) (by omega) (by omega)
  refine lv_iconst (v := 3) hx hb dX7_level_24 (by decide) ?_
  refine lv_irem hx hb dX7_level_25 (by decide) ?_
  refine lv_topi (fun v7 ev7 => ?_)
  have tv7 := z_remp ev7 (rfl : (v6).toInt = _) (by decide : (3 : Int32).toInt = 3) (by omega) (by omega)
  refine lX_30_0 hx hb hK hP (f := (la 30 0)) rfl (vp_in_iff.mpr ⟨by omega, by omega⟩) dX7_level_26 ?_
  refine lv_topl (fun w8 ew8 => ?_)
  refine lv_lmul hx hb dX7_level_27 ?_
  refine lv_topl (fun w9 ew9 => ?_)
  exact W.lret (v := w9) hx hb hr (fun t ht9 hW => ⟨w9, rfl, trivial, ht9⟩) (fun q hq => by cases hq) dX7_level_28
set_option maxHeartbeats 4000000 in
set_option maxRecDepth 100000 in
/-- X7_clear -/
theorem c_X7_clear_20 (l : Launch) (dC : Nat → ClassId) (dI : Nat → Nat → Nat) (sz : Nat) (h : Nat) (g : Nat → Nat → Nat) (ca : Nat → Nat → ClassId) (iv : Nat → Nat → Int32) (lv : Nat → Nat → Int64) (fa : Nat → Nat → Nat → Int32) (la : Nat → Nat → Nat → Int64) (hI : IX iv fa) : Met l yX7_clear (wc yX7_clear cX7_clear 2 none) ({ frames := 0, cells := 0, slots := 0, locals := 0 } : Room) (pW (dC, dI) classes (WX h g ca iv lv fa la) (TX ca) sz [.ref (g 2 1)]) (va_Qv (fun (u : SS) => ∃ (na_20_2 : Nat → Int32) (nb_20_0 : Nat → Int64) (nb_20_1 : Nat → Int64), u = (iv, lv, (u2 fa 20 2 na_20_2), (u2 (u2 la 20 0 nb_20_0) 20 1 nb_20_1))) (bX (dC, dI) h g ca (va_A (WX h g ca iv lv fa la) sz)) (va_A (WX h g ca iv lv fa la) sz)) 0 0 (va_A (WX h g ca iv lv fa la) sz) := by
  refine Met.ofW (cc := cX7_clear) (maxL := 2) (ret := none) (by decide) rfl ?_
  intro p e s m args below meth c s₁ B hml hv
  obtain ⟨rfl, hsz, hP, hK, hD0⟩ := hv
  have hx := B.exec
  have hb := B.bytes
  have hr := B.returns
  have ht := tb_tl (atoms_spec (ws := wc yX7_clear cX7_clear 2 none) B.pre)
  have hown : s.vm.findClass RX7 = some m.cls := findClass_of_methodNamed B.named
  have hlocks := B.notSynchronized
  subst hsz
  have hD := hD0.self (sz := s.heap.size)
  generalize hAe : va_A (WX h g ca iv lv fa la) s.heap.size = A at hD ⊢
  have hA : ∀ q : Nat, s.heap.size ≤ q → A q := fun q h => by rw [← hAe]; exact Or.inr h
  have hS : va_S A s.heap s.heap [] := va_S.rf
  have hl := lv_entry [.ref (g 2 1)] (n := 2) (Nat.le_of_ble_eq_true rfl)
  rw [lg_entry_eq]
  generalize (lg_sl [.ref (g 2 1)] ++ List.replicate (2 - (lg_sl [.ref (g 2 1)]).length) Slot.unset).toArray = ls at hl ⊢
  have hl : lv_has ls 2 [(0, .ref (g 2 1))] := hl
  refine lv_iconst (v := 0) hx hb dX7_clear_0 (by decide) ?_
  refine lv_istore_n (lv' := [(1, .int 0), (0, .ref (g 2 1))]) hx hb dX7_clear_1 rfl hl (by decide) rfl (fun ls hl => ?_)
  have lp26 : ∀ (nn26 : Nat) (x25_1 : Int32) (w25_a_20_2 : Nat → Int32) (w25_b_20_0 : Nat → Int64) (w25_b_20_1 : Nat → Int64), 0 ≤ x25_1.toInt ∧ x25_1.toInt ≤ 3 → (∀ j, inb (bA 20 2 j) (w25_a_20_2 j)) → 3 - x25_1.toInt < (nn26 : Int) → ∀ (H : Heap) (locs : List Loc), ∀ (ls : Array Slot), va_P (dC, dI) classes (WX h g ca iv lv (u2 fa 20 2 w25_a_20_2) (u2 (u2 la 20 0 w25_b_20_0) 20 1 w25_b_20_1)) H → va_D A (WX h g ca iv lv (u2 fa 20 2 w25_a_20_2) (u2 (u2 la 20 0 w25_b_20_0) 20 1 w25_b_20_1)) → va_S A s.heap H locs → lv_has ls 2 [(1, .int x25_1), (0, .ref (g 2 1))] → W p l e ({ frames := 0, cells := 0, slots := 0, locals := 0 } : Room) s m ([.ref (g 2 1)] : List Value).toArray below meth c H locs 0 0 (MQ below (va_Qv (fun (u : SS) => ∃ (na_20_2 : Nat → Int32) (nb_20_0 : Nat → Int64) (nb_20_1 : Nat → Int64), u = (iv, lv, (u2 fa 20 2 na_20_2), (u2 (u2 la 20 0 nb_20_0) 20 1 nb_20_1))) (bX (dC, dI) h g ca A) A) ([.ref (g 2 1)] : List Value).toArray s 0 0 A) (F0 m 2 ls []) := by
    intro nn26
    induction nn26 with
    | zero => intro x25_1 w25_a_20_2 w25_b_20_0 w25_b_20_1 hx25_1 hw25_a_20_2 hm26; exfalso; omega
    | succ nn26 ih26 =>
      intro x25_1 w25_a_20_2 w25_b_20_0 w25_b_20_1 hx25_1 hw25_a_20_2 hm26 H locs ls hP hD hS hl
      refine lv_iload_n hx hb dX7_clear_2 rfl (lv_at hl 0 rfl) ?_
      refine lv_iconst (v := 3) hx hb dX7_clear_3 (by decide) ?_
      refine lv_icmp_ge (tgt := 34) hx hb dX7_clear_4 (by decide) (fun c27 => ?_) (fun c27 => ?_)
      · have fc27 := z_le (by decide : (3 : Int32).toInt = 3) (rfl : (x25_1).toInt = _) c27
        have hP9 : va_P (dC, dI) classes (WX h g ca iv lv (u2 fa 20 2 w25_a_20_2) (u2 (u2 la 20 0 w25_b_20_0) 20 1 w25_b_20_1)) H := hP
        have hD9 : va_D A (WX h g ca iv lv (u2 fa 20 2 w25_a_20_2) (u2 (u2 la 20 0 w25_b_20_0) 20 1 w25_b_20_1)) := hD
        exact W.vret hx hb hr (fun t ht9 hW => ⟨⟨(iv, lv, (u2 fa 20 2 w25_a_20_2), (u2 (u2 la 20 0 w25_b_20_0) 20 1 w25_b_20_1)), rfl, ⟨w25_a_20_2, w25_b_20_0, w25_b_20_1, rfl⟩, by rw [ht9]; exact hP9, hD9⟩, hS.F ht9⟩) hS.2.2 dX7_clear_34
      · have fc27 := z_nle (by decide : (3 : Int32).toInt = 3) (rfl : (x25_1).toInt = _) c27
        refine lv_aload_n hx hb dX7_clear_7 rfl (lv_at hl 1 rfl) ?_
        refine gX_20_0 hx hb ht hown hK hP m_261 dX7_clear_8 ?_
        refine lv_iload_n hx hb dX7_clear_11 rfl (lv_at hl 0 rfl) ?_
        refine lv_lconst (v := 0) hx hb dX7_clear_12 (by decide) ?_
        refine tX_20_0 hx hb hK hP hD hS (f0 := w25_b_20_0) rfl (i := x25_1) (x := 0) (vp_in_iff.mpr ⟨by omega, by omega⟩) dX7_clear_13 (fun f28 ef28 H locs hP hD hS => ?_)
        have hP : va_P (dC, dI) classes (WX h g ca iv lv (u2 fa 20 2 w25_a_20_2) (u2 (u2 la 20 0 f28) 20 1 w25_b_20_1)) H := hP
        have hD : va_D A (WX h g ca iv lv (u2 fa 20 2 w25_a_20_2) (u2 (u2 la 20 0 f28) 20 1 w25_b_20_1)) := hD
        refine lv_aload_n hx hb dX7_clear_14 rfl (lv_at hl 1 rfl) ?_
        refine gX_20_1 hx hb ht hown hK hP m_264 dX7_clear_15 ?_
        refine lv_iload_n hx hb dX7_clear_18 rfl (lv_at hl 0 rfl) ?_
        refine lv_lconst (v := 0) hx hb dX7_clear_19 (by decide) ?_
        refine tX_20_1 hx hb hK hP hD hS (f0 := w25_b_20_1) rfl (i := x25_1) (x := 0) (vp_in_iff.mpr ⟨by omega, by omega⟩) dX7_clear_20 (fun f29 ef29 H locs hP hD hS => ?_)
        have hP : va_P (dC, dI) classes (WX h g ca iv lv (u2 fa 20 2 w25_a_20_2) (u2 (u2 la 20 0 f28) 20 1 f29)) H := hP
        have hD : va_D A (WX h g ca iv lv (u2 fa 20 2 w25_a_20_2) (u2 (u2 la 20 0 f28) 20 1 f29)) := hD
        refine lv_aload_n hx hb dX7_clear_21 rfl (lv_at hl 1 rfl) ?_
        refine gX_20_2 hx hb ht hown hK hP m_267 dX7_clear_22 ?_
        refine lv_iload_n hx hb dX7_clear_25 rfl (lv_at hl 0 rfl) ?_
        refine lv_iconst (v := 0) hx hb dX7_clear_26 (by decide) ?_
        refine tX_20_2 hx hb hK hP hD hS (f0 := w25_a_20_2) rfl (i := x25_1) (x := 0) (vp_in_iff.mpr ⟨by omega, by omega⟩) dX7_clear_27 (fun f30 ef30 H locs hP hD hS => ?_)
        have hf30 : ∀ j, inb (bA 20 2 j) (f30 j) := fun j => full_i _
        have hP : va_P (dC, dI) classes (WX h g ca iv lv (u2 fa 20 2 f30) (u2 (u2 la 20 0 f28) 20 1 f29)) H := hP
        have hD : va_D A (WX h g ca iv lv (u2 fa 20 2 f30) (u2 (u2 la 20 0 f28) 20 1 f29)) := hD
        obtain ⟨v31, ev31⟩ : ∃ y : Int32, y = x25_1 + 1 := ⟨_, rfl⟩
        have tv31 := z_add ev31 rfl (by decide : (1 : Int32).toInt = 1) (by omega) (by omega)
        refine lv_iinc (v := v31) (lv' := [(1, .int v31), (0, .ref (g 2 1))]) hx hb dX7_clear_28 hl (k := 0) rfl (by rw [ev31]; rfl) (by decide) rfl (fun ls hl => ?_)
        refine lv_goto (tgt := 2) hx hb dX7_clear_31 (by decide) ?_
        exact ih26 v31 f30 f28 f29 ⟨by omega, by omega⟩ hf30 (by omega) _ _ ls hP hD hS (lv_sub hl [0, 1] rfl)
  exact lp26 4 0 (fa 20 2) (la 20 0) (la 20 1) ⟨by decide, by decide⟩ (hI.2 20 2) (by first | decide | omega) _ _ ls hP hD hS (lv_sub hl [0, 1] rfl)
set_option maxHeartbeats 4000000 in
set_option maxRecDepth 100000 in
/-- X7_put -/
theorem c_X7_put_20 (l : Launch) (dC : Nat → ClassId) (dI : Nat → Nat → Nat) (sz : Nat) (h : Nat) (g : Nat → Nat → Nat) (ca : Nat → Nat → ClassId) (iv : Nat → Nat → Int32) (lv : Nat → Nat → Int64) (fa : Nat → Nat → Nat → Int32) (la : Nat → Nat → Nat → Int64) (hI : IX iv fa) (a : Int32) (b : Int32) (d : Int32) (h_a : 0 ≤ a.toInt ∧ a.toInt ≤ 2) : Met l yX7_put (wc yX7_put cX7_put 4 none) ({ frames := 0, cells := 0, slots := 0, locals := 0 } : Room) (pW (dC, dI) classes (WX h g ca iv lv fa la) (TX ca) sz [.ref (g 2 1), .int a, .int b, .int d]) (va_Qv (fun (u : SS) => ∃ (na_20_2 : Nat → Int32) (nb_20_0 : Nat → Int64) (nb_20_1 : Nat → Int64), u = (iv, lv, (u2 fa 20 2 na_20_2), (u2 (u2 la 20 0 nb_20_0) 20 1 nb_20_1))) (bX (dC, dI) h g ca (va_A (WX h g ca iv lv fa la) sz)) (va_A (WX h g ca iv lv fa la) sz)) 0 0 (va_A (WX h g ca iv lv fa la) sz) := by
  refine Met.ofW (cc := cX7_put) (maxL := 4) (ret := none) (by decide) rfl ?_
  intro p e s m args below meth c s₁ B hml hv
  obtain ⟨rfl, hsz, hP, hK, hD0⟩ := hv
  have hx := B.exec
  have hb := B.bytes
  have hr := B.returns
  have ht := tb_tl (atoms_spec (ws := wc yX7_put cX7_put 4 none) B.pre)
  have hown : s.vm.findClass RX7 = some m.cls := findClass_of_methodNamed B.named
  have hlocks := B.notSynchronized
  subst hsz
  have hD := hD0.self (sz := s.heap.size)
  generalize hAe : va_A (WX h g ca iv lv fa la) s.heap.size = A at hD ⊢
  have hA : ∀ q : Nat, s.heap.size ≤ q → A q := fun q h => by rw [← hAe]; exact Or.inr h
  have hS : va_S A s.heap s.heap [] := va_S.rf
  have hl := lv_entry [.ref (g 2 1), .int a, .int b, .int d] (n := 4) (Nat.le_of_ble_eq_true rfl)
  rw [lg_entry_eq]
  generalize (lg_sl [.ref (g 2 1), .int a, .int b, .int d] ++ List.replicate (4 - (lg_sl [.ref (g 2 1), .int a, .int b, .int d]).length) Slot.unset).toArray = ls at hl ⊢
  have hl : lv_has ls 4 [(0, .ref (g 2 1)), (1, .int a), (2, .int b), (3, .int d)] := hl
  refine lv_aload_n hx hb dX7_put_0 rfl (lv_at hl 0 rfl) ?_
  refine gX_20_0 hx hb ht hown hK hP m_261 dX7_put_1 ?_
  refine lv_iload_n hx hb dX7_put_4 rfl (lv_at hl 1 rfl) ?_
  refine lv_dup2_11 hx hb dX7_put_5 rfl rfl ?_
  refine lX_20_0 hx hb hK hP (f := (la 20 0)) rfl (vp_in_iff.mpr ⟨by omega, by omega⟩) dX7_put_6 ?_
  refine lv_topl (fun w1 ew1 => ?_)
  refine lv_iload_n hx hb dX7_put_7 rfl (lv_at hl 2 rfl) ?_
  refine lv_i2l (v := (b.toInt64)) hx hb dX7_put_8 rfl ?_
  refine lv_ladd hx hb dX7_put_9 ?_
  refine lv_topl (fun w2 ew2 => ?_)
  refine tX_20_0 hx hb hK hP hD hS (f0 := (la 20 0)) rfl (i := a) (x := w2) (vp_in_iff.mpr ⟨by omega, by omega⟩) dX7_put_10 (fun f3 ef3 H locs hP hD hS => ?_)
  refine lv_aload_n hx hb dX7_put_11 rfl (lv_at hl 0 rfl) ?_
  refine gX_20_1 hx hb ht hown hK hP m_264 dX7_put_12 ?_
  refine lv_iload_n hx hb dX7_put_15 rfl (lv_at hl 1 rfl) ?_
  refine lv_dup2_11 hx hb dX7_put_16 rfl rfl ?_
  refine lX_20_1 hx hb hK hP (f := (la 20 1)) rfl (vp_in_iff.mpr ⟨by omega, by omega⟩) dX7_put_17 ?_
  refine lv_topl (fun w4 ew4 => ?_)
  refine lv_iload_n hx hb dX7_put_18 rfl (lv_at hl 3 rfl) ?_
  refine lv_i2l (v := (d.toInt64)) hx hb dX7_put_19 rfl ?_
  refine lv_ladd hx hb dX7_put_20 ?_
  refine lv_topl (fun w5 ew5 => ?_)
  refine tX_20_1 hx hb hK hP hD hS (f0 := (la 20 1)) rfl (i := a) (x := w5) (vp_in_iff.mpr ⟨by omega, by omega⟩) dX7_put_21 (fun f6 ef6 H locs hP hD hS => ?_)
  refine lv_aload_n hx hb dX7_put_22 rfl (lv_at hl 0 rfl) ?_
  refine gX_20_2 hx hb ht hown hK hP m_267 dX7_put_23 ?_
  refine lv_iload_n hx hb dX7_put_26 rfl (lv_at hl 1 rfl) ?_
  refine lv_dup2_11 hx hb dX7_put_27 rfl rfl ?_
  refine lX_20_2 hx hb hK hP (f := (fa 20 2)) rfl (vp_in_iff.mpr ⟨by omega, by omega⟩) dX7_put_28 ?_
  refine lv_topi (fun v7 ev7 => ?_)
  refine lv_iconst (v := 1) hx hb dX7_put_29 (by decide) ?_
  refine lv_iadd hx hb dX7_put_30 ?_
  refine lv_topi (fun v8 ev8 => ?_)
  refine tX_20_2 hx hb hK hP hD hS (f0 := (fa 20 2)) rfl (i := a) (x := v8) (vp_in_iff.mpr ⟨by omega, by omega⟩) dX7_put_31 (fun f9 ef9 H locs hP hD hS => ?_)
  have hf9 : ∀ j, inb (bA 20 2 j) (f9 j) := fun j => full_i _
  have hP9 : va_P (dC, dI) classes (WX h g ca iv lv (u2 fa 20 2 f9) (u2 (u2 la 20 0 f3) 20 1 f6)) H := hP
  have hD9 : va_D A (WX h g ca iv lv (u2 fa 20 2 f9) (u2 (u2 la 20 0 f3) 20 1 f6)) := hD
  exact W.vret hx hb hr (fun t ht9 hW => ⟨⟨(iv, lv, (u2 fa 20 2 f9), (u2 (u2 la 20 0 f3) 20 1 f6)), rfl, ⟨f9, f3, f6, rfl⟩, by rw [ht9]; exact hP9, hD9⟩, hS.F ht9⟩) hS.2.2 dX7_put_32
set_option maxHeartbeats 4000000 in
set_option maxRecDepth 100000 in
/-- X7_remove -/
theorem c_X7_remove_20 (l : Launch) (dC : Nat → ClassId) (dI : Nat → Nat → Nat) (sz : Nat) (h : Nat) (g : Nat → Nat → Nat) (ca : Nat → Nat → ClassId) (iv : Nat → Nat → Int32) (lv : Nat → Nat → Int64) (fa : Nat → Nat → Nat → Int32) (la : Nat → Nat → Nat → Int64) (hI : IX iv fa) (a : Int32) (b : Int32) (d : Int32) (h_a : 0 ≤ a.toInt ∧ a.toInt ≤ 2) : Met l yX7_remove (wc yX7_remove cX7_remove 4 none) ({ frames := 0, cells := 0, slots := 0, locals := 0 } : Room) (pW (dC, dI) classes (WX h g ca iv lv fa la) (TX ca) sz [.ref (g 2 1), .int a, .int b, .int d]) (va_Qv (fun (u : SS) => ∃ (na_20_2 : Nat → Int32) (nb_20_0 : Nat → Int64) (nb_20_1 : Nat → Int64), u = (iv, lv, (u2 fa 20 2 na_20_2), (u2 (u2 la 20 0 nb_20_0) 20 1 nb_20_1))) (bX (dC, dI) h g ca (va_A (WX h g ca iv lv fa la) sz)) (va_A (WX h g ca iv lv fa la) sz)) 0 0 (va_A (WX h g ca iv lv fa la) sz) := by
  refine Met.ofW (cc := cX7_remove) (maxL := 4) (ret := none) (by decide) rfl ?_
  intro p e s m args below meth c s₁ B hml hv
  obtain ⟨rfl, hsz, hP, hK, hD0⟩ := hv
  have hx := B.exec
  have hb := B.bytes
  have hr := B.returns
  have ht := tb_tl (atoms_spec (ws := wc yX7_remove cX7_remove 4 none) B.pre)
  have hown : s.vm.findClass RX7 = some m.cls := findClass_of_methodNamed B.named
  have hlocks := B.notSynchronized
  subst hsz
  have hD := hD0.self (sz := s.heap.size)
  generalize hAe : va_A (WX h g ca iv lv fa la) s.heap.size = A at hD ⊢
  have hA : ∀ q : Nat, s.heap.size ≤ q → A q := fun q h => by rw [← hAe]; exact Or.inr h
  have hS : va_S A s.heap s.heap [] := va_S.rf
  have hl := lv_entry [.ref (g 2 1), .int a, .int b, .int d] (n := 4) (Nat.le_of_ble_eq_true rfl)
  rw [lg_entry_eq]
  generalize (lg_sl [.ref (g 2 1), .int a, .int b, .int d] ++ List.replicate (4 - (lg_sl [.ref (g 2 1), .int a, .int b, .int d]).length) Slot.unset).toArray = ls at hl ⊢
  have hl : lv_has ls 4 [(0, .ref (g 2 1)), (1, .int a), (2, .int b), (3, .int d)] := hl
  refine lv_aload_n hx hb dX7_remove_0 rfl (lv_at hl 0 rfl) ?_
  refine gX_20_0 hx hb ht hown hK hP m_261 dX7_remove_1 ?_
  refine lv_iload_n hx hb dX7_remove_4 rfl (lv_at hl 1 rfl) ?_
  refine lv_dup2_11 hx hb dX7_remove_5 rfl rfl ?_
  refine lX_20_0 hx hb hK hP (f := (la 20 0)) rfl (vp_in_iff.mpr ⟨by omega, by omega⟩) dX7_remove_6 ?_
  refine lv_topl (fun w1 ew1 => ?_)
  refine lv_iload_n hx hb dX7_remove_7 rfl (lv_at hl 2 rfl) ?_
  refine lv_i2l (v := (b.toInt64)) hx hb dX7_remove_8 rfl ?_
  refine lv_lsub hx hb dX7_remove_9 ?_
  refine lv_topl (fun w2 ew2 => ?_)
  refine tX_20_0 hx hb hK hP hD hS (f0 := (la 20 0)) rfl (i := a) (x := w2) (vp_in_iff.mpr ⟨by omega, by omega⟩) dX7_remove_10 (fun f3 ef3 H locs hP hD hS => ?_)
  refine lv_aload_n hx hb dX7_remove_11 rfl (lv_at hl 0 rfl) ?_
  refine gX_20_1 hx hb ht hown hK hP m_264 dX7_remove_12 ?_
  refine lv_iload_n hx hb dX7_remove_15 rfl (lv_at hl 1 rfl) ?_
  refine lv_dup2_11 hx hb dX7_remove_16 rfl rfl ?_
  refine lX_20_1 hx hb hK hP (f := (la 20 1)) rfl (vp_in_iff.mpr ⟨by omega, by omega⟩) dX7_remove_17 ?_
  refine lv_topl (fun w4 ew4 => ?_)
  refine lv_iload_n hx hb dX7_remove_18 rfl (lv_at hl 3 rfl) ?_
  refine lv_i2l (v := (d.toInt64)) hx hb dX7_remove_19 rfl ?_
  refine lv_lsub hx hb dX7_remove_20 ?_
  refine lv_topl (fun w5 ew5 => ?_)
  refine tX_20_1 hx hb hK hP hD hS (f0 := (la 20 1)) rfl (i := a) (x := w5) (vp_in_iff.mpr ⟨by omega, by omega⟩) dX7_remove_21 (fun f6 ef6 H locs hP hD hS => ?_)
  refine lv_aload_n hx hb dX7_remove_22 rfl (lv_at hl 0 rfl) ?_
  refine gX_20_2 hx hb ht hown hK hP m_267 dX7_remove_23 ?_
  refine lv_iload_n hx hb dX7_remove_26 rfl (lv_at hl 1 rfl) ?_
  refine lv_dup2_11 hx hb dX7_remove_27 rfl rfl ?_
  refine lX_20_2 hx hb hK hP (f := (fa 20 2)) rfl (vp_in_iff.mpr ⟨by omega, by omega⟩) dX7_remove_28 ?_
  refine lv_topi (fun v7 ev7 => ?_)
  refine lv_iconst (v := 1) hx hb dX7_remove_29 (by decide) ?_
  refine lv_isub hx hb dX7_remove_30 ?_
  refine lv_topi (fun v8 ev8 => ?_)
  refine tX_20_2 hx hb hK hP hD hS (f0 := (fa 20 2)) rfl (i := a) (x := v8) (vp_in_iff.mpr ⟨by omega, by omega⟩) dX7_remove_31 (fun f9 ef9 H locs hP hD hS => ?_)
  have hf9 : ∀ j, inb (bA 20 2 j) (f9 j) := fun j => full_i _
  have hP9 : va_P (dC, dI) classes (WX h g ca iv lv (u2 fa 20 2 f9) (u2 (u2 la 20 0 f3) 20 1 f6)) H := hP
  have hD9 : va_D A (WX h g ca iv lv (u2 fa 20 2 f9) (u2 (u2 la 20 0 f3) 20 1 f6)) := hD
  exact W.vret hx hb hr (fun t ht9 hW => ⟨⟨(iv, lv, (u2 fa 20 2 f9), (u2 (u2 la 20 0 f3) 20 1 f6)), rfl, ⟨f9, f3, f6, rfl⟩, by rw [ht9]; exact hP9, hD9⟩, hS.F ht9⟩) hS.2.2 dX7_remove_32
/-! ===== ovens ===== -/
theorem m_335 : Cond.fieldLink RX5 9 "SilkHouse$Ovens" "minutes" "[I" ∈ tb := mb_2_0 _ (List.mem_of_getElem? (i := 5) rfl)
theorem m_340 : Cond.fieldLink RX5 22 "SilkHouse$Ovens" "number" "I" ∈ tb := mb_2_0 _ (List.mem_of_getElem? (i := 10) rfl)
theorem m_344 : Cond.fieldLink RX5 29 "SilkHouse$Ovens" "arrangedFor" "I" ∈ tb := mb_2_0 _ (List.mem_of_getElem? (i := 14) rfl)
theorem m_366 : Cond.fieldLink RX4 9 "SilkHouse$Neighbours" "low" "[I" ∈ tb := mb_2_0 _ (List.mem_of_getElem? (i := 20) rfl)
theorem m_367 : Cond.fieldLink RX4 13 "SilkHouse$Neighbours" "high" "[I" ∈ tb := mb_2_0 _ (List.mem_of_getElem? (i := 21) rfl)
theorem m_368 : Cond.fieldLink RX4 16 "SilkHouse$Neighbours" "number" "I" ∈ tb := mb_2_0 _ (List.mem_of_getElem? (i := 22) rfl)
theorem m_1060 : Cond.constant RX4 20 (-1000000) ∈ tb := mb_5_0 _ (List.mem_of_getElem? (i := 21) rfl)
theorem m_1061 : Cond.methodLink RX4 21 Lib.Math.max.name ∈ tb := mb_5_0 _ (List.mem_of_getElem? (i := 22) rfl)
theorem m_1066 : Cond.constant RX4 27 (1000000) ∈ tb := mb_5_1 _ (List.mem_of_getElem? (i := 3) rfl)
theorem m_1067 : Cond.methodLink RX4 28 Lib.Math.min.name ∈ tb := mb_5_1 _ (List.mem_of_getElem? (i := 4) rfl)
set_option maxRecDepth 100000 in
theorem dvX4_compare_0 : ([(0, .aload_n 0, 1), (1, .getfield 9, 3), (4, .aload_n 0, 1), (5, .getfield 16, 3), (8, .iload_n 1, 1), (9, .iastore, 1), (10, .aload_n 0, 1), (11, .getfield 13, 3), (14, .aload_n 0, 1), (15, .getfield 16, 3), (18, .iload_n 2, 1), (19, .iastore, 1), (20, .aload_n 0, 1), (21, .dup, 1), (22, .getfield 16, 3), (25, .iconst 1, 1), (26, .iadd, 1), (27, .putfield 16, 3), (30, .aload_n 0, 1), (31, .getfield 16, 3), (34, .ireturn, 1)] : List (Nat × Instr × Nat)).all (fun q => decide (decode cX4_compare q.1 = .ok (q.2.1, q.2.2))) = true := by decide +kernel
theorem dX4_compare_0 : decode cX4_compare 0 = .ok (.aload_n 0, 1) := all_at dvX4_compare_0 0 rfl
theorem dX4_compare_1 : decode cX4_compare 1 = .ok (.getfield 9, 3) := all_at dvX4_compare_0 1 rfl
theorem dX4_compare_4 : decode cX4_compare 4 = .ok (.aload_n 0, 1) := all_at dvX4_compare_0 2 rfl
theorem dX4_compare_5 : decode cX4_compare 5 = .ok (.getfield 16, 3) := all_at dvX4_compare_0 3 rfl
theorem dX4_compare_8 : decode cX4_compare 8 = .ok (.iload_n 1, 1) := all_at dvX4_compare_0 4 rfl
theorem dX4_compare_9 : decode cX4_compare 9 = .ok (.iastore, 1) := all_at dvX4_compare_0 5 rfl
theorem dX4_compare_10 : decode cX4_compare 10 = .ok (.aload_n 0, 1) := all_at dvX4_compare_0 6 rfl
theorem dX4_compare_11 : decode cX4_compare 11 = .ok (.getfield 13, 3) := all_at dvX4_compare_0 7 rfl
theorem dX4_compare_14 : decode cX4_compare 14 = .ok (.aload_n 0, 1) := all_at dvX4_compare_0 8 rfl
theorem dX4_compare_15 : decode cX4_compare 15 = .ok (.getfield 16, 3) := all_at dvX4_compare_0 9 rfl
theorem dX4_compare_18 : decode cX4_compare 18 = .ok (.iload_n 2, 1) := all_at dvX4_compare_0 10 rfl
theorem dX4_compare_19 : decode cX4_compare 19 = .ok (.iastore, 1) := all_at dvX4_compare_0 11 rfl
theorem dX4_compare_20 : decode cX4_compare 20 = .ok (.aload_n 0, 1) := all_at dvX4_compare_0 12 rfl
theorem dX4_compare_21 : decode cX4_compare 21 = .ok (.dup, 1) := all_at dvX4_compare_0 13 rfl
theorem dX4_compare_22 : decode cX4_compare 22 = .ok (.getfield 16, 3) := all_at dvX4_compare_0 14 rfl
theorem dX4_compare_25 : decode cX4_compare 25 = .ok (.iconst 1, 1) := all_at dvX4_compare_0 15 rfl
theorem dX4_compare_26 : decode cX4_compare 26 = .ok (.iadd, 1) := all_at dvX4_compare_0 16 rfl
theorem dX4_compare_27 : decode cX4_compare 27 = .ok (.putfield 16, 3) := all_at dvX4_compare_0 17 rfl
theorem dX4_compare_30 : decode cX4_compare 30 = .ok (.aload_n 0, 1) := all_at dvX4_compare_0 18 rfl
theorem dX4_compare_31 : decode cX4_compare 31 = .ok (.getfield 16, 3) := all_at dvX4_compare_0 19 rfl
theorem dX4_compare_34 : decode cX4_compare 34 = .ok (.ireturn, 1) := all_at dvX4_compare_0 20 rfl
set_option maxRecDepth 100000 in
theorem dvX4_greatestWithout_0 : ([(0, .ldc 27, 2), (2, .istore_n 2, 1), (3, .iconst 0, 1), (4, .istore_n 3, 1), (5, .iload_n 3, 1), (6, .aload_n 0, 1), (7, .getfield 16, 3), (10, .if_icmp .ge 28, 3), (13, .iload_n 1, 1), (14, .iload_n 3, 1), (15, .ishr, 1), (16, .iconst 1, 1), (17, .iand, 1), (18, .ifCond .ne 14, 3), (21, .iload_n 2, 1), (22, .aload_n 0, 1), (23, .getfield 13, 3), (26, .iload_n 3, 1), (27, .iaload, 1), (28, .invokestatic 28, 3), (31, .istore_n 2, 1), (32, .iinc 3 1, 3), (35, .goto (-30), 3), (38, .iload_n 2, 1)] : List (Nat × Instr × Nat)).all (fun q => decide (decode cX4_greatestWithout q.1 = .ok (q.2.1, q.2.2))) = true := by decide +kernel
theorem dX4_greatestWithout_0 : decode cX4_greatestWithout 0 = .ok (.ldc 27, 2) := all_at dvX4_greatestWithout_0 0 rfl
theorem dX4_greatestWithout_2 : decode cX4_greatestWithout 2 = .ok (.istore_n 2, 1) := all_at dvX4_greatestWithout_0 1 rfl
theorem dX4_greatestWithout_3 : decode cX4_greatestWithout 3 = .ok (.iconst 0, 1) := all_at dvX4_greatestWithout_0 2 rfl
theorem dX4_greatestWithout_4 : decode cX4_greatestWithout 4 = .ok (.istore_n 3, 1) := all_at dvX4_greatestWithout_0 3 rfl
theorem dX4_greatestWithout_5 : decode cX4_greatestWithout 5 = .ok (.iload_n 3, 1) := all_at dvX4_greatestWithout_0 4 rfl
theorem dX4_greatestWithout_6 : decode cX4_greatestWithout 6 = .ok (.aload_n 0, 1) := all_at dvX4_greatestWithout_0 5 rfl
theorem dX4_greatestWithout_7 : decode cX4_greatestWithout 7 = .ok (.getfield 16, 3) := all_at dvX4_greatestWithout_0 6 rfl
theorem dX4_greatestWithout_10 : decode cX4_greatestWithout 10 = .ok (.if_icmp .ge 28, 3) := all_at dvX4_greatestWithout_0 7 rfl
theorem dX4_greatestWithout_13 : decode cX4_greatestWithout 13 = .ok (.iload_n 1, 1) := all_at dvX4_greatestWithout_0 8 rfl
theorem dX4_greatestWithout_14 : decode cX4_greatestWithout 14 = .ok (.iload_n 3, 1) := all_at dvX4_greatestWithout_0 9 rfl
theorem dX4_greatestWithout_15 : decode cX4_greatestWithout 15 = .ok (.ishr, 1) := all_at dvX4_greatestWithout_0 10 rfl
theorem dX4_greatestWithout_16 : decode cX4_greatestWithout 16 = .ok (.iconst 1, 1) := all_at dvX4_greatestWithout_0 11 rfl
theorem dX4_greatestWithout_17 : decode cX4_greatestWithout 17 = .ok (.iand, 1) := all_at dvX4_greatestWithout_0 12 rfl
theorem dX4_greatestWithout_18 : decode cX4_greatestWithout 18 = .ok (.ifCond .ne 14, 3) := all_at dvX4_greatestWithout_0 13 rfl
theorem dX4_greatestWithout_21 : decode cX4_greatestWithout 21 = .ok (.iload_n 2, 1) := all_at dvX4_greatestWithout_0 14 rfl
theorem dX4_greatestWithout_22 : decode cX4_greatestWithout 22 = .ok (.aload_n 0, 1) := all_at dvX4_greatestWithout_0 15 rfl
theorem dX4_greatestWithout_23 : decode cX4_greatestWithout 23 = .ok (.getfield 13, 3) := all_at dvX4_greatestWithout_0 16 rfl
theorem dX4_greatestWithout_26 : decode cX4_greatestWithout 26 = .ok (.iload_n 3, 1) := all_at dvX4_greatestWithout_0 17 rfl
theorem dX4_greatestWithout_27 : decode cX4_greatestWithout 27 = .ok (.iaload, 1) := all_at dvX4_greatestWithout_0 18 rfl
theorem dX4_greatestWithout_28 : decode cX4_greatestWithout 28 = .ok (.invokestatic 28, 3) := all_at dvX4_greatestWithout_0 19 rfl
theorem dX4_greatestWithout_31 : decode cX4_greatestWithout 31 = .ok (.istore_n 2, 1) := all_at dvX4_greatestWithout_0 20 rfl
theorem dX4_greatestWithout_32 : decode cX4_greatestWithout 32 = .ok (.iinc 3 1, 3) := all_at dvX4_greatestWithout_0 21 rfl
theorem dX4_greatestWithout_35 : decode cX4_greatestWithout 35 = .ok (.goto (-30), 3) := all_at dvX4_greatestWithout_0 22 rfl
theorem dX4_greatestWithout_38 : decode cX4_greatestWithout 38 = .ok (.iload_n 2, 1) := all_at dvX4_greatestWithout_0 23 rfl
theorem dX4_greatestWithout_39 : decode cX4_greatestWithout 39 = .ok (.ireturn, 1) := by decide +kernel
set_option maxRecDepth 100000 in
theorem dvX4_leastWithout_0 : ([(0, .ldc 20, 2), (2, .istore_n 2, 1), (3, .iconst 0, 1), (4, .istore_n 3, 1), (5, .iload_n 3, 1), (6, .aload_n 0, 1), (7, .getfield 16, 3), (10, .if_icmp .ge 28, 3), (13, .iload_n 1, 1), (14, .iload_n 3, 1), (15, .ishr, 1), (16, .iconst 1, 1), (17, .iand, 1), (18, .ifCond .ne 14, 3), (21, .iload_n 2, 1), (22, .aload_n 0, 1), (23, .getfield 9, 3), (26, .iload_n 3, 1), (27, .iaload, 1), (28, .invokestatic 21, 3), (31, .istore_n 2, 1), (32, .iinc 3 1, 3), (35, .goto (-30), 3), (38, .iload_n 2, 1)] : List (Nat × Instr × Nat)).all (fun q => decide (decode cX4_leastWithout q.1 = .ok (q.2.1, q.2.2))) = true := by decide +kernel
theorem dX4_leastWithout_0 : decode cX4_leastWithout 0 = .ok (.ldc 20, 2) := all_at dvX4_leastWithout_0 0 rfl
theorem dX4_leastWithout_2 : decode cX4_leastWithout 2 = .ok (.istore_n 2, 1) := all_at dvX4_leastWithout_0 1 rfl
theorem dX4_leastWithout_3 : decode cX4_leastWithout 3 = .ok (.iconst 0, 1) := all_at dvX4_leastWithout_0 2 rfl
theorem dX4_leastWithout_4 : decode cX4_leastWithout 4 = .ok (.istore_n 3, 1) := all_at dvX4_leastWithout_0 3 rfl
theorem dX4_leastWithout_5 : decode cX4_leastWithout 5 = .ok (.iload_n 3, 1) := all_at dvX4_leastWithout_0 4 rfl
theorem dX4_leastWithout_6 : decode cX4_leastWithout 6 = .ok (.aload_n 0, 1) := all_at dvX4_leastWithout_0 5 rfl
theorem dX4_leastWithout_7 : decode cX4_leastWithout 7 = .ok (.getfield 16, 3) := all_at dvX4_leastWithout_0 6 rfl
theorem dX4_leastWithout_10 : decode cX4_leastWithout 10 = .ok (.if_icmp .ge 28, 3) := all_at dvX4_leastWithout_0 7 rfl
theorem dX4_leastWithout_13 : decode cX4_leastWithout 13 = .ok (.iload_n 1, 1) := all_at dvX4_leastWithout_0 8 rfl
theorem dX4_leastWithout_14 : decode cX4_leastWithout 14 = .ok (.iload_n 3, 1) := all_at dvX4_leastWithout_0 9 rfl
theorem dX4_leastWithout_15 : decode cX4_leastWithout 15 = .ok (.ishr, 1) := all_at dvX4_leastWithout_0 10 rfl
theorem dX4_leastWithout_16 : decode cX4_leastWithout 16 = .ok (.iconst 1, 1) := all_at dvX4_leastWithout_0 11 rfl
theorem dX4_leastWithout_17 : decode cX4_leastWithout 17 = .ok (.iand, 1) := all_at dvX4_leastWithout_0 12 rfl
theorem dX4_leastWithout_18 : decode cX4_leastWithout 18 = .ok (.ifCond .ne 14, 3) := all_at dvX4_leastWithout_0 13 rfl
theorem dX4_leastWithout_21 : decode cX4_leastWithout 21 = .ok (.iload_n 2, 1) := all_at dvX4_leastWithout_0 14 rfl
theorem dX4_leastWithout_22 : decode cX4_leastWithout 22 = .ok (.aload_n 0, 1) := all_at dvX4_leastWithout_0 15 rfl
theorem dX4_leastWithout_23 : decode cX4_leastWithout 23 = .ok (.getfield 9, 3) := all_at dvX4_leastWithout_0 16 rfl
theorem dX4_leastWithout_26 : decode cX4_leastWithout 26 = .ok (.iload_n 3, 1) := all_at dvX4_leastWithout_0 17 rfl
theorem dX4_leastWithout_27 : decode cX4_leastWithout 27 = .ok (.iaload, 1) := all_at dvX4_leastWithout_0 18 rfl
theorem dX4_leastWithout_28 : decode cX4_leastWithout 28 = .ok (.invokestatic 21, 3) := all_at dvX4_leastWithout_0 19 rfl
theorem dX4_leastWithout_31 : decode cX4_leastWithout 31 = .ok (.istore_n 2, 1) := all_at dvX4_leastWithout_0 20 rfl
theorem dX4_leastWithout_32 : decode cX4_leastWithout 32 = .ok (.iinc 3 1, 3) := all_at dvX4_leastWithout_0 21 rfl
theorem dX4_leastWithout_35 : decode cX4_leastWithout 35 = .ok (.goto (-30), 3) := all_at dvX4_leastWithout_0 22 rfl
theorem dX4_leastWithout_38 : decode cX4_leastWithout 38 = .ok (.iload_n 2, 1) := all_at dvX4_leastWithout_0 23 rfl
theorem dX4_leastWithout_39 : decode cX4_leastWithout 39 = .ok (.ireturn, 1) := by decide +kernel
set_option maxRecDepth 100000 in
theorem dvX5_bring_0 : ([(0, .aload_n 0, 1), (1, .getfield 9, 3), (4, .aload_n 0, 1), (5, .getfield 22, 3), (8, .iload_n 1, 1), (9, .iastore, 1), (10, .aload_n 0, 1), (11, .dup, 1), (12, .getfield 22, 3), (15, .iconst 1, 1), (16, .iadd, 1), (17, .putfield 22, 3), (20, .aload_n 0, 1), (21, .iconst 0, 1), (22, .putfield 29, 3), (25, .aload_n 0, 1), (26, .getfield 22, 3), (29, .ireturn, 1)] : List (Nat × Instr × Nat)).all (fun q => decide (decode cX5_bring q.1 = .ok (q.2.1, q.2.2))) = true := by decide +kernel
theorem dX5_bring_0 : decode cX5_bring 0 = .ok (.aload_n 0, 1) := all_at dvX5_bring_0 0 rfl
theorem dX5_bring_1 : decode cX5_bring 1 = .ok (.getfield 9, 3) := all_at dvX5_bring_0 1 rfl
theorem dX5_bring_4 : decode cX5_bring 4 = .ok (.aload_n 0, 1) := all_at dvX5_bring_0 2 rfl
theorem dX5_bring_5 : decode cX5_bring 5 = .ok (.getfield 22, 3) := all_at dvX5_bring_0 3 rfl
theorem dX5_bring_8 : decode cX5_bring 8 = .ok (.iload_n 1, 1) := all_at dvX5_bring_0 4 rfl
theorem dX5_bring_9 : decode cX5_bring 9 = .ok (.iastore, 1) := all_at dvX5_bring_0 5 rfl
theorem dX5_bring_10 : decode cX5_bring 10 = .ok (.aload_n 0, 1) := all_at dvX5_bring_0 6 rfl
theorem dX5_bring_11 : decode cX5_bring 11 = .ok (.dup, 1) := all_at dvX5_bring_0 7 rfl
theorem dX5_bring_12 : decode cX5_bring 12 = .ok (.getfield 22, 3) := all_at dvX5_bring_0 8 rfl
theorem dX5_bring_15 : decode cX5_bring 15 = .ok (.iconst 1, 1) := all_at dvX5_bring_0 9 rfl
theorem dX5_bring_16 : decode cX5_bring 16 = .ok (.iadd, 1) := all_at dvX5_bring_0 10 rfl
theorem dX5_bring_17 : decode cX5_bring 17 = .ok (.putfield 22, 3) := all_at dvX5_bring_0 11 rfl
theorem dX5_bring_20 : decode cX5_bring 20 = .ok (.aload_n 0, 1) := all_at dvX5_bring_0 12 rfl
theorem dX5_bring_21 : decode cX5_bring 21 = .ok (.iconst 0, 1) := all_at dvX5_bring_0 13 rfl
theorem dX5_bring_22 : decode cX5_bring 22 = .ok (.putfield 29, 3) := all_at dvX5_bring_0 14 rfl
theorem dX5_bring_25 : decode cX5_bring 25 = .ok (.aload_n 0, 1) := all_at dvX5_bring_0 15 rfl
theorem dX5_bring_26 : decode cX5_bring 26 = .ok (.getfield 22, 3) := all_at dvX5_bring_0 16 rfl
theorem dX5_bring_29 : decode cX5_bring 29 = .ok (.ireturn, 1) := all_at dvX5_bring_0 17 rfl
set_option maxRecDepth 100000 in
theorem dvX5_clear_0 : ([(0, .aload_n 0, 1), (1, .getfield 22, 3), (4, .istore_n 1, 1), (5, .aload_n 0, 1), (6, .iconst 0, 1), (7, .putfield 22, 3), (10, .aload_n 0, 1), (11, .iconst 0, 1), (12, .putfield 29, 3), (15, .iload_n 1, 1), (16, .ireturn, 1)] : List (Nat × Instr × Nat)).all (fun q => decide (decode cX5_clear q.1 = .ok (q.2.1, q.2.2))) = true := by decide +kernel
theorem dX5_clear_0 : decode cX5_clear 0 = .ok (.aload_n 0, 1) := all_at dvX5_clear_0 0 rfl
theorem dX5_clear_1 : decode cX5_clear 1 = .ok (.getfield 22, 3) := all_at dvX5_clear_0 1 rfl
theorem dX5_clear_4 : decode cX5_clear 4 = .ok (.istore_n 1, 1) := all_at dvX5_clear_0 2 rfl
theorem dX5_clear_5 : decode cX5_clear 5 = .ok (.aload_n 0, 1) := all_at dvX5_clear_0 3 rfl
theorem dX5_clear_6 : decode cX5_clear 6 = .ok (.iconst 0, 1) := all_at dvX5_clear_0 4 rfl
theorem dX5_clear_7 : decode cX5_clear 7 = .ok (.putfield 22, 3) := all_at dvX5_clear_0 5 rfl
theorem dX5_clear_10 : decode cX5_clear 10 = .ok (.aload_n 0, 1) := all_at dvX5_clear_0 6 rfl
theorem dX5_clear_11 : decode cX5_clear 11 = .ok (.iconst 0, 1) := all_at dvX5_clear_0 7 rfl
theorem dX5_clear_12 : decode cX5_clear 12 = .ok (.putfield 29, 3) := all_at dvX5_clear_0 8 rfl
theorem dX5_clear_15 : decode cX5_clear 15 = .ok (.iload_n 1, 1) := all_at dvX5_clear_0 9 rfl
theorem dX5_clear_16 : decode cX5_clear 16 = .ok (.ireturn, 1) := all_at dvX5_clear_0 10 rfl
set_option maxHeartbeats 4000000 in
set_option maxRecDepth 100000 in
/-- X5_bring -/
theorem c_X5_bring (l : Launch) (dC : Nat → ClassId) (dI : Nat → Nat → Nat) (sz : Nat) (h : Nat) (g : Nat → Nat → Nat) (ca : Nat → Nat → ClassId) (iv : Nat → Nat → Int32) (lv : Nat → Nat → Int64) (fa : Nat → Nat → Nat → Int32) (la : Nat → Nat → Nat → Int64) (hI : IX iv fa) (a : Int32) (q_5_4 : 0 ≤ (iv 5 4).toInt ∧ (iv 5 4).toInt ≤ 7) : Met l yX5_bring (wc yX5_bring cX5_bring 2 (some .int)) ({ frames := 0, cells := 0, slots := 0, locals := 0 } : Room) (pW (dC, dI) classes (WX h g ca iv lv fa la) (TX ca) sz [.ref (g 11 7), .int a]) (va_Qi (fun r (u : SS) => ∃ (na_5_0 : Nat → Int32) (ni_5_4 : Int32) (ni_5_6 : Int32), inb (bI 5 4) ni_5_4 ∧ ni_5_4.toInt = (iv 5 4).toInt + 1 ∧ (1 ≤ r.toInt ∧ r.toInt ≤ 8) ∧ u = ((u2 (u2 iv 5 4 ni_5_4) 5 6 ni_5_6), lv, (u2 fa 5 0 na_5_0), la)) (bX (dC, dI) h g ca (va_A (WX h g ca iv lv fa la) sz)) (va_A (WX h g ca iv lv fa la) sz)) 0 0 (va_A (WX h g ca iv lv fa la) sz) := by
  refine Met.ofW (cc := cX5_bring) (maxL := 2) (ret := (some .int)) (by decide) rfl ?_
  intro p e s m args below meth c s₁ B hml hv
  obtain ⟨rfl, hsz, hP, hK, hD0⟩ := hv
  have hx := B.exec
  have hb := B.bytes
  have hr := B.returns
  have ht := tb_tl (atoms_spec (ws := wc yX5_bring cX5_bring 2 (some .int)) B.pre)
  have hown : s.vm.findClass RX5 = some m.cls := findClass_of_methodNamed B.named
  have hlocks := B.notSynchronized
  subst hsz
  have hD := hD0.self (sz := s.heap.size)
  generalize hAe : va_A (WX h g ca iv lv fa la) s.heap.size = A at hD ⊢
  have hA : ∀ q : Nat, s.heap.size ≤ q → A q := fun q h => by rw [← hAe]; exact Or.inr h
  have hS : va_S A s.heap s.heap [] := va_S.rf
  have hl := lv_entry [.ref (g 11 7), .int a] (n := 2) (Nat.le_of_ble_eq_true rfl)
  rw [lg_entry_eq]
  generalize (lg_sl [.ref (g 11 7), .int a] ++ List.replicate (2 - (lg_sl [.ref (g 11 7), .int a]).length) Slot.unset).toArray = ls at hl ⊢
  have hl : lv_has ls 2 [(0, .ref (g 11 7)), (1, .int a)] := hl
  refine lv_aload_n hx hb dX5_bring_0 rfl (lv_at hl 0 rfl) ?_
  refine gX_5_0 hx hb ht hown hK hP m_335 dX5_bring_1 ?_
  refine lv_aload_n hx hb dX5_bring_4 rfl (lv_at hl 0 rfl) ?_
  have i_5_4 : 0 ≤ (iv 5 4).toInt ∧ (iv 5 4).toInt ≤ 8 := hI.1 5 4
  refine gX_5_4 hx hb ht hown hK hP m_340 (v := (iv 5 4)) rfl dX5_bring_5 ?_
  refine lv_iload_n hx hb dX5_bring_8 rfl (lv_at hl 1 rfl) ?_
  refine tX_5_0 hx hb hK hP hD hS (f0 := (fa 5 0)) rfl (i := (iv 5 4)) (x := a) (vp_in_iff.mpr ⟨by omega, by omega⟩) dX5_bring_9 (fun f1 ef1 H locs hP hD hS => ?_)
  have hf1 : ∀ j, inb (bA 5 0 j) (f1 j) := fun j => full_i _
  refine lv_aload_n hx hb dX5_bring_10 rfl (lv_at hl 0 rfl) ?_
  refine lv_dup hx hb dX5_bring_11 rfl ?_
  refine gX_5_4 hx hb ht hown hK hP m_340 (v := (iv 5 4)) rfl dX5_bring_12 ?_
  refine lv_iconst (v := 1) hx hb dX5_bring_15 (by decide) ?_
  refine lv_iadd hx hb dX5_bring_16 ?_
  refine lv_topi (fun v2 ev2 => ?_)
  have tv2 := z_add ev2 (rfl : ((iv 5 4)).toInt = _) (by decide : (1 : Int32).toInt = 1) (by omega) (by omega)
  refine pX_5_4 (v := v2) hx hb ht hown hK hP hD hS m_340 dX5_bring_17 (fun H locs hP hD hS => ?_)
  refine lv_aload_n hx hb dX5_bring_20 rfl (lv_at hl 0 rfl) ?_
  refine lv_iconst (v := 0) hx hb dX5_bring_21 (by decide) ?_
  refine pX_5_6 (v := 0) hx hb ht hown hK hP hD hS m_344 dX5_bring_22 (fun H locs hP hD hS => ?_)
  refine lv_aload_n hx hb dX5_bring_25 rfl (lv_at hl 0 rfl) ?_
  refine gX_5_4 hx hb ht hown hK hP m_340 (v := v2) rfl dX5_bring_26 ?_
  have hP9 : va_P (dC, dI) classes (WX h g ca (u2 (u2 iv 5 4 v2) 5 6 0) lv (u2 fa 5 0 f1) la) H := hP
  have hD9 : va_D A (WX h g ca (u2 (u2 iv 5 4 v2) 5 6 0) lv (u2 fa 5 0 f1) la) := hD
  exact W.iret (v := v2) hx hb hr (fun t ht9 hW => ⟨⟨v2, ((u2 (u2 iv 5 4 v2) 5 6 0), lv, (u2 fa 5 0 f1), la), rfl, ⟨f1, v2, 0, (show inb (0, 8) v2 from ⟨by omega, by omega⟩), (by omega), ⟨by omega, by omega⟩, rfl⟩, by rw [ht9]; exact hP9, hD9⟩, hS.F ht9⟩) hS.2.2 dX5_bring_29
set_option maxHeartbeats 4000000 in
set_option maxRecDepth 100000 in
/-- X5_clear -/
theorem c_X5_clear (l : Launch) (dC : Nat → ClassId) (dI : Nat → Nat → Nat) (sz : Nat) (h : Nat) (g : Nat → Nat → Nat) (ca : Nat → Nat → ClassId) (iv : Nat → Nat → Int32) (lv : Nat → Nat → Int64) (fa : Nat → Nat → Nat → Int32) (la : Nat → Nat → Nat → Int64) (hI : IX iv fa) : Met l yX5_clear (wc yX5_clear cX5_clear 2 (some .int)) ({ frames := 0, cells := 0, slots := 0, locals := 0 } : Room) (pW (dC, dI) classes (WX h g ca iv lv fa la) (TX ca) sz [.ref (g 11 7)]) (va_Qi (fun r (u : SS) => ∃ (ni_5_4 : Int32) (ni_5_6 : Int32), inb (bI 5 4) ni_5_4 ∧ (0 ≤ r.toInt ∧ r.toInt ≤ 8) ∧ u = ((u2 (u2 iv 5 4 ni_5_4) 5 6 ni_5_6), lv, fa, la)) (bX (dC, dI) h g ca (va_A (WX h g ca iv lv fa la) sz)) (va_A (WX h g ca iv lv fa la) sz)) 0 0 (va_A (WX h g ca iv lv fa la) sz) := by
  refine Met.ofW (cc := cX5_clear) (maxL := 2) (ret := (some .int)) (by decide) rfl ?_
  intro p e s m args below meth c s₁ B hml hv
  obtain ⟨rfl, hsz, hP, hK, hD0⟩ := hv
  have hx := B.exec
  have hb := B.bytes
  have hr := B.returns
  have ht := tb_tl (atoms_spec (ws := wc yX5_clear cX5_clear 2 (some .int)) B.pre)
  have hown : s.vm.findClass RX5 = some m.cls := findClass_of_methodNamed B.named
  have hlocks := B.notSynchronized
  subst hsz
  have hD := hD0.self (sz := s.heap.size)
  generalize hAe : va_A (WX h g ca iv lv fa la) s.heap.size = A at hD ⊢
  have hA : ∀ q : Nat, s.heap.size ≤ q → A q := fun q h => by rw [← hAe]; exact Or.inr h
  have hS : va_S A s.heap s.heap [] := va_S.rf
  have hl := lv_entry [.ref (g 11 7)] (n := 2) (Nat.le_of_ble_eq_true rfl)
  rw [lg_entry_eq]
  generalize (lg_sl [.ref (g 11 7)] ++ List.replicate (2 - (lg_sl [.ref (g 11 7)]).length) Slot.unset).toArray = ls at hl ⊢
  have hl : lv_has ls 2 [(0, .ref (g 11 7))] := hl
  refine lv_aload_n hx hb dX5_clear_0 rfl (lv_at hl 0 rfl) ?_
  have i_5_4 : 0 ≤ (iv 5 4).toInt ∧ (iv 5 4).toInt ≤ 8 := hI.1 5 4
  refine gX_5_4 hx hb ht hown hK hP m_340 (v := (iv 5 4)) rfl dX5_clear_1 ?_
  refine lv_istore_n (lv' := [(1, .int (iv 5 4)), (0, .ref (g 11 7))]) hx hb dX5_clear_4 rfl hl (by decide) rfl (fun ls hl => ?_)
  refine lv_aload_n hx hb dX5_clear_5 rfl (lv_at hl 1 rfl) ?_
  refine lv_iconst (v := 0) hx hb dX5_clear_6 (by decide) ?_
  refine pX_5_4 (v := 0) hx hb ht hown hK hP hD hS m_340 dX5_clear_7 (fun H locs hP hD hS => ?_)
  refine lv_aload_n hx hb dX5_clear_10 rfl (lv_at hl 1 rfl) ?_
  refine lv_iconst (v := 0) hx hb dX5_clear_11 (by decide) ?_
  refine pX_5_6 (v := 0) hx hb ht hown hK hP hD hS m_344 dX5_clear_12 (fun H locs hP hD hS => ?_)
  refine lv_iload_n hx hb dX5_clear_15 rfl (lv_at hl 0 rfl) ?_
  have hP9 : va_P (dC, dI) classes (WX h g ca (u2 (u2 iv 5 4 0) 5 6 0) lv fa la) H := hP
  have hD9 : va_D A (WX h g ca (u2 (u2 iv 5 4 0) 5 6 0) lv fa la) := hD
  exact W.iret (v := (iv 5 4)) hx hb hr (fun t ht9 hW => ⟨⟨(iv 5 4), ((u2 (u2 iv 5 4 0) 5 6 0), lv, fa, la), rfl, ⟨0, 0, (show inb (0, 8) 0 from ⟨by decide, by decide⟩), ⟨by omega, by omega⟩, rfl⟩, by rw [ht9]; exact hP9, hD9⟩, hS.F ht9⟩) hS.2.2 dX5_clear_16
set_option maxHeartbeats 4000000 in
set_option maxRecDepth 100000 in
/-- X4_compare -/
theorem c_X4_compare (l : Launch) (dC : Nat → ClassId) (dI : Nat → Nat → Nat) (sz : Nat) (h : Nat) (g : Nat → Nat → Nat) (ca : Nat → Nat → ClassId) (iv : Nat → Nat → Int32) (lv : Nat → Nat → Int64) (fa : Nat → Nat → Nat → Int32) (la : Nat → Nat → Nat → Int64) (hI : IX iv fa) (a : Int32) (b : Int32) (q_4_2 : 0 ≤ (iv 4 2).toInt ∧ (iv 4 2).toInt ≤ 7) : Met l yX4_compare (wc yX4_compare cX4_compare 3 (some .int)) ({ frames := 0, cells := 0, slots := 0, locals := 0 } : Room) (pW (dC, dI) classes (WX h g ca iv lv fa la) (TX ca) sz [.ref (g 11 8), .int a, .int b]) (va_Qi (fun r (u : SS) => ∃ (na_4_0 : Nat → Int32) (na_4_1 : Nat → Int32) (ni_4_2 : Int32), inb (bI 4 2) ni_4_2 ∧ ni_4_2.toInt = (iv 4 2).toInt + 1 ∧ (1 ≤ r.toInt ∧ r.toInt ≤ 8) ∧ u = ((u2 iv 4 2 ni_4_2), lv, (u2 (u2 fa 4 0 na_4_0) 4 1 na_4_1), la)) (bX (dC, dI) h g ca (va_A (WX h g ca iv lv fa la) sz)) (va_A (WX h g ca iv lv fa la) sz)) 0 0 (va_A (WX h g ca iv lv fa la) sz) := by
  refine Met.ofW (cc := cX4_compare) (maxL := 3) (ret := (some .int)) (by decide) rfl ?_
  intro p e s m args below meth c s₁ B hml hv
  obtain ⟨rfl, hsz, hP, hK, hD0⟩ := hv
  have hx := B.exec
  have hb := B.bytes
  have hr := B.returns
  have ht := tb_tl (atoms_spec (ws := wc yX4_compare cX4_compare 3 (some .int)) B.pre)
  have hown : s.vm.findClass RX4 = some m.cls := findClass_of_methodNamed B.named
  have hlocks := B.notSynchronized
  subst hsz
  have hD := hD0.self (sz := s.heap.size)
  generalize hAe : va_A (WX h g ca iv lv fa la) s.heap.size = A at hD ⊢
  have hA : ∀ q : Nat, s.heap.size ≤ q → A q := fun q h => by rw [← hAe]; exact Or.inr h
  have hS : va_S A s.heap s.heap [] := va_S.rf
  have hl := lv_entry [.ref (g 11 8), .int a, .int b] (n := 3) (Nat.le_of_ble_eq_true rfl)
  rw [lg_entry_eq]
  generalize (lg_sl [.ref (g 11 8), .int a, .int b] ++ List.replicate (3 - (lg_sl [.ref (g 11 8), .int a, .int b]).length) Slot.unset).toArray = ls at hl ⊢
  have hl : lv_has ls 3 [(0, .ref (g 11 8)), (1, .int a), (2, .int b)] := hl
  refine lv_aload_n hx hb dX4_compare_0 rfl (lv_at hl 0 rfl) ?_
  refine gX_4_0 hx hb ht hown hK hP m_366 dX4_compare_1 ?_
  refine lv_aload_n hx hb dX4_compare_4 rfl (lv_at hl 0 rfl) ?_
  have i_4_2 : 0 ≤ (iv 4 2).toInt ∧ (iv 4 2).toInt ≤ 8 := hI.1 4 2
  refine gX_4_2 hx hb ht hown hK hP m_368 (v := (iv 4 2)) rfl dX4_compare_5 ?_
  refine lv_iload_n hx hb dX4_compare_8 rfl (lv_at hl 1 rfl) ?_
  refine tX_4_0 hx hb hK hP hD hS (f0 := (fa 4 0)) rfl (i := (iv 4 2)) (x := a) (vp_in_iff.mpr ⟨by omega, by omega⟩) dX4_compare_9 (fun f1 ef1 H locs hP hD hS => ?_)
  have hf1 : ∀ j, inb (bA 4 0 j) (f1 j) := fun j => full_i _
  refine lv_aload_n hx hb dX4_compare_10 rfl (lv_at hl 0 rfl) ?_
  refine gX_4_1 hx hb ht hown hK hP m_367 dX4_compare_11 ?_
  refine lv_aload_n hx hb dX4_compare_14 rfl (lv_at hl 0 rfl) ?_
  refine gX_4_2 hx hb ht hown hK hP m_368 (v := (iv 4 2)) rfl dX4_compare_15 ?_
  refine lv_iload_n hx hb dX4_compare_18 rfl (lv_at hl 2 rfl) ?_
  refine tX_4_1 hx hb hK hP hD hS (f0 := (fa 4 1)) rfl (i := (iv 4 2)) (x := b) (vp_in_iff.mpr ⟨by omega, by omega⟩) dX4_compare_19 (fun f2 ef2 H locs hP hD hS => ?_)
  have hf2 : ∀ j, inb (bA 4 1 j) (f2 j) := fun j => full_i _
  refine lv_aload_n hx hb dX4_compare_20 rfl (lv_at hl 0 rfl) ?_
  refine lv_dup hx hb dX4_compare_21 rfl ?_
  refine gX_4_2 hx hb ht hown hK hP m_368 (v := (iv 4 2)) rfl dX4_compare_22 ?_
  refine lv_iconst (v := 1) hx hb dX4_compare_25 (by decide) ?_
  refine lv_iadd hx hb dX4_compare_26 ?_
  refine lv_topi (fun v3 ev3 => ?_)
  have tv3 := z_add ev3 (rfl : ((iv 4 2)).toInt = _) (by decide : (1 : Int32).toInt = 1) (by omega) (by omega)
  refine pX_4_2 (v := v3) hx hb ht hown hK hP hD hS m_368 dX4_compare_27 (fun H locs hP hD hS => ?_)
  refine lv_aload_n hx hb dX4_compare_30 rfl (lv_at hl 0 rfl) ?_
  refine gX_4_2 hx hb ht hown hK hP m_368 (v := v3) rfl dX4_compare_31 ?_
  have hP9 : va_P (dC, dI) classes (WX h g ca (u2 iv 4 2 v3) lv (u2 (u2 fa 4 0 f1) 4 1 f2) la) H := hP
  have hD9 : va_D A (WX h g ca (u2 iv 4 2 v3) lv (u2 (u2 fa 4 0 f1) 4 1 f2) la) := hD
  exact W.iret (v := v3) hx hb hr (fun t ht9 hW => ⟨⟨v3, ((u2 iv 4 2 v3), lv, (u2 (u2 fa 4 0 f1) 4 1 f2), la), rfl, ⟨f1, f2, v3, (show inb (0, 8) v3 from ⟨by omega, by omega⟩), (by omega), ⟨by omega, by omega⟩, rfl⟩, by rw [ht9]; exact hP9, hD9⟩, hS.F ht9⟩) hS.2.2 dX4_compare_34
set_option maxHeartbeats 4000000 in
set_option maxRecDepth 100000 in
/-- X4_leastWithout -/
theorem c_X4_leastWithout (l : Launch) (dC : Nat → ClassId) (dI : Nat → Nat → Nat) (h : Nat) (g : Nat → Nat → Nat) (ca : Nat → Nat → ClassId) (iv : Nat → Nat → Int32) (lv : Nat → Nat → Int64) (fa : Nat → Nat → Nat → Int32) (la : Nat → Nat → Nat → Int64) (hI : IX iv fa) (a : Int32) : Met l yX4_leastWithout (wc yX4_leastWithout cX4_leastWithout 4 (some .int)) ({ frames := 1, cells := 0, slots := 0, locals := 40 } : Room) (pR (dC, dI) classes (WX h g ca iv lv fa la) (TX ca) [.ref (g 11 8), .int a]) (vp_Si (fun r => True)) 0 0 (fun _ => False) := by
  refine Met.ofW (cc := cX4_leastWithout) (maxL := 4) (ret := (some .int)) (by decide) rfl ?_
  intro p e s m args below meth c s₁ B hml hv
  obtain ⟨rfl, hP, hK⟩ := hv
  have hx := B.exec
  have hb := B.bytes
  have hr := B.returns
  have ht := tb_tl (atoms_spec (ws := wc yX4_leastWithout cX4_leastWithout 4 (some .int)) B.pre)
  have hown : s.vm.findClass RX4 = some m.cls := findClass_of_methodNamed B.named
  have hlocks := B.notSynchronized
  have hl := lv_entry [.ref (g 11 8), .int a] (n := 4) (Nat.le_of_ble_eq_true rfl)
  rw [lg_entry_eq]
  generalize (lg_sl [.ref (g 11 8), .int a] ++ List.replicate (4 - (lg_sl [.ref (g 11 8), .int a]).length) Slot.unset).toArray = ls at hl ⊢
  have hl : lv_has ls 4 [(0, .ref (g 11 8)), (1, .int a)] := hl
  refine lv_ldc hx hb hown (ht _ m_1060) dX4_leastWithout_0 ?_
  refine lv_istore_n (lv' := [(2, .int (-1000000)), (0, .ref (g 11 8)), (1, .int a)]) hx hb dX4_leastWithout_2 rfl hl (by decide) rfl (fun ls hl => ?_)
  refine lv_iconst (v := 0) hx hb dX4_leastWithout_3 (by decide) ?_
  refine lv_istore_n (lv' := [(3, .int 0), (2, .int (-1000000)), (0, .ref (g 11 8)), (1, .int a)]) hx hb dX4_leastWithout_4 rfl hl (by decide) rfl (fun ls hl => ?_)
  have lp83 : ∀ (nn83 : Nat) (x82_3 : Int32) (x82_2 : Int32), 0 ≤ x82_3.toInt ∧ x82_3.toInt ≤ 8 → (-1000000) ≤ x82_2.toInt → 8 - x82_3.toInt < (nn83 : Int) → ∀ (ls : Array Slot), lv_has ls 4 [(3, .int x82_3), (2, .int x82_2), (0, .ref (g 11 8)), (1, .int a)] → W p l e ({ frames := 1, cells := 0, slots := 0, locals := 40 } : Room) s m ([.ref (g 11 8), .int a] : List Value).toArray below meth c s.heap [] 0 0 (MQ below (vp_Si (fun r => True)) ([.ref (g 11 8), .int a] : List Value).toArray s 0 0 (fun _ => False)) (F0 m 5 ls []) := by
    intro nn83
    induction nn83 with
    | zero => intro x82_3 x82_2 hx82_3 hx82_2 hm83; exfalso; omega
    | succ nn83 ih83 =>
      intro x82_3 x82_2 hx82_3 hx82_2 hm83 ls hl
      refine lv_iload_n hx hb dX4_leastWithout_5 rfl (lv_at hl 0 rfl) ?_
      refine lv_aload_n hx hb dX4_leastWithout_6 rfl (lv_at hl 2 rfl) ?_
      have i_4_2 : 0 ≤ (iv 4 2).toInt ∧ (iv 4 2).toInt ≤ 8 := hI.1 4 2
      refine gX_4_2 hx hb ht hown hK hP m_368 (v := (iv 4 2)) rfl dX4_leastWithout_7 ?_
      refine lv_icmp_ge (tgt := 38) hx hb dX4_leastWithout_10 (by decide) (fun c84 => ?_) (fun c84 => ?_)
      · have fc84 := z_le (rfl : ((iv 4 2)).toInt = _) (rfl : (x82_3).toInt = _) c84
        refine lv_iload_n hx hb dX4_leastWithout_38 rfl (lv_at hl 1 rfl) ?_
        exact W.iret (v := x82_2) hx hb hr (fun t ht9 hW => ⟨x82_2, rfl, trivial, ht9⟩) (fun q hq => by cases hq) dX4_leastWithout_39
      · have fc84 := z_nle (rfl : ((iv 4 2)).toInt = _) (rfl : (x82_3).toInt = _) c84
        refine lv_iload_n hx hb dX4_leastWithout_13 rfl (lv_at hl 3 rfl) ?_
        refine lv_iload_n hx hb dX4_leastWithout_14 rfl (lv_at hl 0 rfl) ?_
        refine lv_ishr hx hb dX4_leastWithout_15 ?_
        refine lv_topi (fun v85 ev85 => ?_)
        refine lv_iconst (v := 1) hx hb dX4_leastWithout_16 (by decide) ?_
        refine lv_iand hx hb dX4_leastWithout_17 ?_
        refine lv_topi (fun v86 ev86 => ?_)
        refine lv_if_ne (tgt := 32) hx hb dX4_leastWithout_18 (by decide) (fun c87 => ?_) (fun c87 => ?_)
        · have fc87 := z_ne (rfl : (v86).toInt = _) (by decide : (0 : Int32).toInt = 0) c87
          obtain ⟨v88, ev88⟩ : ∃ y : Int32, y = x82_3 + 1 := ⟨_, rfl⟩
          have tv88 := z_add ev88 rfl (by decide : (1 : Int32).toInt = 1) (by omega) (by omega)
          refine lv_iinc (v := v88) (lv' := [(3, .int v88), (2, .int x82_2), (0, .ref (g 11 8)), (1, .int a)]) hx hb dX4_leastWithout_32 hl (k := 0) rfl (by rw [ev88]; rfl) (by decide) rfl (fun ls hl => ?_)
          refine lv_goto (tgt := 5) hx hb dX4_leastWithout_35 (by decide) ?_
          exact ih83 v88 x82_2 ⟨by omega, by omega⟩ (by omega) (by omega) ls (lv_sub hl [0, 1, 2, 3] rfl)
        · have fc87 := z_eq (rfl : (v86).toInt = _) (by decide : (0 : Int32).toInt = 0) c87
          refine lv_iload_n hx hb dX4_leastWithout_21 rfl (lv_at hl 1 rfl) ?_
          refine lv_aload_n hx hb dX4_leastWithout_22 rfl (lv_at hl 2 rfl) ?_
          refine gX_4_0 hx hb ht hown hK hP m_366 dX4_leastWithout_23 ?_
          refine lv_iload_n hx hb dX4_leastWithout_26 rfl (lv_at hl 0 rfl) ?_
          refine lX_4_0 hx hb hK hP (f := (fa 4 0)) rfl (vp_in_iff.mpr ⟨by omega, by omega⟩) dX4_leastWithout_27 ?_
          refine lv_topi (fun v89 ev89 => ?_)
          refine va_mmax hx hb (hml.trans hl.1.symm) hown (ht _ m_1061) (ht _ m_558) (ht _ m_90) (ht _ m_559) (Nat.le_of_ble_eq_true rfl) (Nat.le_of_ble_eq_true rfl) (Nat.le_of_ble_eq_true rfl) (Nat.le_of_ble_eq_true rfl) dX4_leastWithout_28 ?_
          refine lv_topi (fun v90 ev90 => ?_)
          have tv90 := mm_or ev90
          have uv90 := mm_max ev90 (rfl : (x82_2).toInt = _) (rfl : (v89).toInt = _)
          refine lv_istore_n (lv' := [(2, .int v90), (3, .int x82_3), (0, .ref (g 11 8)), (1, .int a)]) hx hb dX4_leastWithout_31 rfl hl (by decide) rfl (fun ls hl => ?_)
          obtain ⟨v91, ev91⟩ : ∃ y : Int32, y = x82_3 + 1 := ⟨_, rfl⟩
          have tv91 := z_add ev91 rfl (by decide : (1 : Int32).toInt = 1) (by omega) (by omega)
          refine lv_iinc (v := v91) (lv' := [(3, .int v91), (2, .int v90), (0, .ref (g 11 8)), (1, .int a)]) hx hb dX4_leastWithout_32 hl (k := 1) rfl (by rw [ev91]; rfl) (by decide) rfl (fun ls hl => ?_)
          refine lv_goto (tgt := 5) hx hb dX4_leastWithout_35 (by decide) ?_
          exact ih83 v91 v90 ⟨by omega, by omega⟩ (by omega) (by omega) ls (lv_sub hl [0, 1, 2, 3] rfl)
  exact lp83 9 0 (-1000000) ⟨by decide, by decide⟩ (by decide) (by first | decide | omega) ls (lv_sub hl [0, 1, 2, 3] rfl)
set_option maxHeartbeats 4000000 in
set_option maxRecDepth 100000 in
/-- X4_greatestWithout -/
theorem c_X4_greatestWithout (l : Launch) (dC : Nat → ClassId) (dI : Nat → Nat → Nat) (h : Nat) (g : Nat → Nat → Nat) (ca : Nat → Nat → ClassId) (iv : Nat → Nat → Int32) (lv : Nat → Nat → Int64) (fa : Nat → Nat → Nat → Int32) (la : Nat → Nat → Nat → Int64) (hI : IX iv fa) (a : Int32) : Met l yX4_greatestWithout (wc yX4_greatestWithout cX4_greatestWithout 4 (some .int)) ({ frames := 1, cells := 0, slots := 0, locals := 40 } : Room) (pR (dC, dI) classes (WX h g ca iv lv fa la) (TX ca) [.ref (g 11 8), .int a]) (vp_Si (fun r => True)) 0 0 (fun _ => False) := by
  refine Met.ofW (cc := cX4_greatestWithout) (maxL := 4) (ret := (some .int)) (by decide) rfl ?_
  intro p e s m args below meth c s₁ B hml hv
  obtain ⟨rfl, hP, hK⟩ := hv
  have hx := B.exec
  have hb := B.bytes
  have hr := B.returns
  have ht := tb_tl (atoms_spec (ws := wc yX4_greatestWithout cX4_greatestWithout 4 (some .int)) B.pre)
  have hown : s.vm.findClass RX4 = some m.cls := findClass_of_methodNamed B.named
  have hlocks := B.notSynchronized
  have hl := lv_entry [.ref (g 11 8), .int a] (n := 4) (Nat.le_of_ble_eq_true rfl)
  rw [lg_entry_eq]
  generalize (lg_sl [.ref (g 11 8), .int a] ++ List.replicate (4 - (lg_sl [.ref (g 11 8), .int a]).length) Slot.unset).toArray = ls at hl ⊢
  have hl : lv_has ls 4 [(0, .ref (g 11 8)), (1, .int a)] := hl
  refine lv_ldc hx hb hown (ht _ m_1066) dX4_greatestWithout_0 ?_
  refine lv_istore_n (lv' := [(2, .int 1000000), (0, .ref (g 11 8)), (1, .int a)]) hx hb dX4_greatestWithout_2 rfl hl (by decide) rfl (fun ls hl => ?_)
  refine lv_iconst (v := 0) hx hb dX4_greatestWithout_3 (by decide) ?_
  refine lv_istore_n (lv' := [(3, .int 0), (2, .int 1000000), (0, .ref (g 11 8)), (1, .int a)]) hx hb dX4_greatestWithout_4 rfl hl (by decide) rfl (fun ls hl => ?_)
  have lp83 : ∀ (nn83 : Nat) (x82_3 : Int32) (x82_2 : Int32), 0 ≤ x82_3.toInt ∧ x82_3.toInt ≤ 8 → x82_2.toInt ≤ 1000000 → 8 - x82_3.toInt < (nn83 : Int) → ∀ (ls : Array Slot), lv_has ls 4 [(3, .int x82_3), (2, .int x82_2), (0, .ref (g 11 8)), (1, .int a)] → W p l e ({ frames := 1, cells := 0, slots := 0, locals := 40 } : Room) s m ([.ref (g 11 8), .int a] : List Value).toArray below meth c s.heap [] 0 0 (MQ below (vp_Si (fun r => True)) ([.ref (g 11 8), .int a] : List Value).toArray s 0 0 (fun _ => False)) (F0 m 5 ls []) := by
    intro nn83
    induction nn83 with
    | zero => intro x82_3 x82_2 hx82_3 hx82_2 hm83; exfalso; omega
    | succ nn83 ih83 =>
      intro x82_3 x82_2 hx82_3 hx82_2 hm83 ls hl
      refine lv_iload_n hx hb dX4_greatestWithout_5 rfl (lv_at hl 0 rfl) ?_
      refine lv_aload_n hx hb dX4_greatestWithout_6 rfl (lv_at hl 2 rfl) ?_
      have i_4_2 : 0 ≤ (iv 4 2).toInt ∧ (iv 4 2).toInt ≤ 8 := hI.1 4 2
      refine gX_4_2 hx hb ht hown hK hP m_368 (v := (iv 4 2)) rfl dX4_greatestWithout_7 ?_
      refine lv_icmp_ge (tgt := 38) hx hb dX4_greatestWithout_10 (by decide) (fun c84 => ?_) (fun c84 => ?_)
      · have fc84 := z_le (rfl : ((iv 4 2)).toInt = _) (rfl : (x82_3).toInt = _) c84
        refine lv_iload_n hx hb dX4_greatestWithout_38 rfl (lv_at hl 1 rfl) ?_
        exact W.iret (v := x82_2) hx hb hr (fun t ht9 hW => ⟨x82_2, rfl, trivial, ht9⟩) (fun q hq => by cases hq) dX4_greatestWithout_39
      · have fc84 := z_nle (rfl : ((iv 4 2)).toInt = _) (rfl : (x82_3).toInt = _) c84
        refine lv_iload_n hx hb dX4_greatestWithout_13 rfl (lv_at hl 3 rfl) ?_
        refine lv_iload_n hx hb dX4_greatestWithout_14 rfl (lv_at hl 0 rfl) ?_
        refine lv_ishr hx hb dX4_greatestWithout_15 ?_
        refine lv_topi (fun v85 ev85 => ?_)
        refine lv_iconst (v := 1) hx hb dX4_greatestWithout_16 (by decide) ?_
        refine lv_iand hx hb dX4_greatestWithout_17 ?_
        refine lv_topi (fun v86 ev86 => ?_)
        refine lv_if_ne (tgt := 32) hx hb dX4_greatestWithout_18 (by decide) (fun c87 => ?_) (fun c87 => ?_)
        · have fc87 := z_ne (rfl : (v86).toInt = _) (by decide : (0 : Int32).toInt = 0) c87
          obtain ⟨v88, ev88⟩ : ∃ y : Int32, y = x82_3 + 1 := ⟨_, rfl⟩
          have tv88 := z_add ev88 rfl (by decide : (1 : Int32).toInt = 1) (by omega) (by omega)
          refine lv_iinc (v := v88) (lv' := [(3, .int v88), (2, .int x82_2), (0, .ref (g 11 8)), (1, .int a)]) hx hb dX4_greatestWithout_32 hl (k := 0) rfl (by rw [ev88]; rfl) (by decide) rfl (fun ls hl => ?_)
          refine lv_goto (tgt := 5) hx hb dX4_greatestWithout_35 (by decide) ?_
          exact ih83 v88 x82_2 ⟨by omega, by omega⟩ (by omega) (by omega) ls (lv_sub hl [0, 1, 2, 3] rfl)
        · have fc87 := z_eq (rfl : (v86).toInt = _) (by decide : (0 : Int32).toInt = 0) c87
          refine lv_iload_n hx hb dX4_greatestWithout_21 rfl (lv_at hl 1 rfl) ?_
          refine lv_aload_n hx hb dX4_greatestWithout_22 rfl (lv_at hl 2 rfl) ?_
          refine gX_4_1 hx hb ht hown hK hP m_367 dX4_greatestWithout_23 ?_
          refine lv_iload_n hx hb dX4_greatestWithout_26 rfl (lv_at hl 0 rfl) ?_
          refine lX_4_1 hx hb hK hP (f := (fa 4 1)) rfl (vp_in_iff.mpr ⟨by omega, by omega⟩) dX4_greatestWithout_27 ?_
          refine lv_topi (fun v89 ev89 => ?_)
          refine va_mmin hx hb (hml.trans hl.1.symm) hown (ht _ m_1067) (ht _ m_551) (ht _ m_90) (ht _ m_552) (Nat.le_of_ble_eq_true rfl) (Nat.le_of_ble_eq_true rfl) (Nat.le_of_ble_eq_true rfl) (Nat.le_of_ble_eq_true rfl) dX4_greatestWithout_28 ?_
          refine lv_topi (fun v90 ev90 => ?_)
          have tv90 := mm_or ev90
          have uv90 := mm_min ev90 (rfl : (x82_2).toInt = _) (rfl : (v89).toInt = _)
          refine lv_istore_n (lv' := [(2, .int v90), (3, .int x82_3), (0, .ref (g 11 8)), (1, .int a)]) hx hb dX4_greatestWithout_31 rfl hl (by decide) rfl (fun ls hl => ?_)
          obtain ⟨v91, ev91⟩ : ∃ y : Int32, y = x82_3 + 1 := ⟨_, rfl⟩
          have tv91 := z_add ev91 rfl (by decide : (1 : Int32).toInt = 1) (by omega) (by omega)
          refine lv_iinc (v := v91) (lv' := [(3, .int v91), (2, .int v90), (0, .ref (g 11 8)), (1, .int a)]) hx hb dX4_greatestWithout_32 hl (k := 1) rfl (by rw [ev91]; rfl) (by decide) rfl (fun ls hl => ?_)
          refine lv_goto (tgt := 5) hx hb dX4_greatestWithout_35 (by decide) ?_
          exact ih83 v91 v90 ⟨by omega, by omega⟩ (by omega) (by omega) ls (lv_sub hl [0, 1, 2, 3] rfl)
  exact lp83 9 0 1000000 ⟨by decide, by decide⟩ (by decide) (by first | decide | omega) ls (lv_sub hl [0, 1, 2, 3] rfl)
