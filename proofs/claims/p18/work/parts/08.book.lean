/-! ===== book ===== -/
set_option maxRecDepth 100000 in
theorem m_5 : Cond.selects RX1 yX1_findCounting yX1_findCounting ∈ tb := tb_in 5 (by decide +kernel) rfl
set_option maxRecDepth 100000 in
theorem m_6 : Cond.selects RX1 yX1_isStruck yX1_isStruck ∈ tb := tb_in 6 (by decide +kernel) rfl
set_option maxRecDepth 100000 in
theorem m_7 : Cond.selects RX1 yX1_strikes yX1_strikes ∈ tb := tb_in 7 (by decide +kernel) rfl
set_option maxRecDepth 100000 in
theorem m_39 : Cond.selects RX1 yX1_lastNaming yX1_lastNaming ∈ tb := tb_in 39 (by decide +kernel) rfl
theorem m_81 : Cond.initialized RX1 ∈ tb := mb_1_0 _ (List.mem_of_getElem? (i := 4) rfl)
theorem m_189 : Cond.fieldLink RX1 11 "SilkHouse$Book" "day" "[I" ∈ tb := mb_1_3 _ (List.mem_of_getElem? (i := 2) rfl)
theorem m_190 : Cond.fieldLink RX1 15 "SilkHouse$Book" "clauses" "[I" ∈ tb := mb_1_3 _ (List.mem_of_getElem? (i := 3) rfl)
theorem m_191 : Cond.fieldLink RX1 18 "SilkHouse$Book" "kind" "[I" ∈ tb := mb_1_3 _ (List.mem_of_getElem? (i := 4) rfl)
theorem m_192 : Cond.fieldLink RX1 21 "SilkHouse$Book" "first" "[I" ∈ tb := mb_1_3 _ (List.mem_of_getElem? (i := 5) rfl)
theorem m_193 : Cond.fieldLink RX1 24 "SilkHouse$Book" "second" "[I" ∈ tb := mb_1_3 _ (List.mem_of_getElem? (i := 6) rfl)
theorem m_194 : Cond.fieldLink RX1 27 "SilkHouse$Book" "letters" "[B" ∈ tb := mb_1_3 _ (List.mem_of_getElem? (i := 7) rfl)
theorem m_195 : Cond.fieldLink RX1 31 "SilkHouse$Book" "counting" "[Z" ∈ tb := mb_1_3 _ (List.mem_of_getElem? (i := 8) rfl)
theorem m_196 : Cond.fieldLink RX1 35 "SilkHouse$Book" "number" "I" ∈ tb := mb_1_3 _ (List.mem_of_getElem? (i := 9) rfl)
theorem m_199 : Cond.fieldLink RX1 39 "SilkHouse$Book" "drafted" "I" ∈ tb := mb_1_3 _ (List.mem_of_getElem? (i := 12) rfl)
theorem m_604 : Cond.methodLink RX1 42 yX1_findCounting ∈ tb := mb_3_1 _ (List.mem_of_getElem? (i := 23) rfl)
theorem m_606 : Cond.instanceMethod yX1_findCounting ∈ tb := mb_3_2 _ (List.mem_of_getElem? (i := 0) rfl)
theorem m_607 : Cond.code yX1_findCounting cX1_findCounting 3 none ∈ tb := mb_3_2 _ (List.mem_of_getElem? (i := 1) rfl)
theorem m_608 : Cond.methodLink RX1 57 yX1_isStruck ∈ tb := mb_3_2 _ (List.mem_of_getElem? (i := 2) rfl)
theorem m_610 : Cond.instanceMethod yX1_isStruck ∈ tb := mb_3_2 _ (List.mem_of_getElem? (i := 3) rfl)
theorem m_611 : Cond.code yX1_isStruck cX1_isStruck 3 (some .boolean) ∈ tb := mb_3_2 _ (List.mem_of_getElem? (i := 4) rfl)
theorem m_612 : Cond.methodLink RX1 61 yX1_strikes ∈ tb := mb_3_2 _ (List.mem_of_getElem? (i := 5) rfl)
theorem m_614 : Cond.instanceMethod yX1_strikes ∈ tb := mb_3_2 _ (List.mem_of_getElem? (i := 6) rfl)
theorem m_615 : Cond.code yX1_strikes cX1_strikes 4 (some .boolean) ∈ tb := mb_3_2 _ (List.mem_of_getElem? (i := 7) rfl)
theorem m_969 : Cond.methodLink RX1 53 yX1_lastNaming ∈ tb := mb_4_6 _ (List.mem_of_getElem? (i := 16) rfl)
theorem m_971 : Cond.instanceMethod yX1_lastNaming ∈ tb := mb_4_6 _ (List.mem_of_getElem? (i := 17) rfl)
theorem m_972 : Cond.code yX1_lastNaming cX1_lastNaming 7 (some .int) ∈ tb := mb_4_6 _ (List.mem_of_getElem? (i := 18) rfl)
theorem hd_X1_findCounting_v : yX1_findCounting.cls = RX1 ∧ yX1_findCounting.cls ≠ "java/lang/invoke/MethodHandle" ∧ yX1_findCounting.cls ≠ "java/lang/invoke/VarHandle" ∧ (parseMethodDescriptor yX1_findCounting.desc).map (fun d => d.parameters.length) = some 1 := by decide +kernel
theorem hd_X1_isStruck_v : yX1_isStruck.cls = RX1 ∧ yX1_isStruck.cls ≠ "java/lang/invoke/MethodHandle" ∧ yX1_isStruck.cls ≠ "java/lang/invoke/VarHandle" ∧ (parseMethodDescriptor yX1_isStruck.desc).map (fun d => d.parameters.length) = some 1 := by decide +kernel
theorem hd_X1_lastNaming_v : yX1_lastNaming.cls = RX1 ∧ yX1_lastNaming.cls ≠ "java/lang/invoke/MethodHandle" ∧ yX1_lastNaming.cls ≠ "java/lang/invoke/VarHandle" ∧ (parseMethodDescriptor yX1_lastNaming.desc).map (fun d => d.parameters.length) = some 3 := by decide +kernel
theorem hd_X1_strikes_v : yX1_strikes.cls = RX1 ∧ yX1_strikes.cls ≠ "java/lang/invoke/MethodHandle" ∧ yX1_strikes.cls ≠ "java/lang/invoke/VarHandle" ∧ (parseMethodDescriptor yX1_strikes.desc).map (fun d => d.parameters.length) = some 2 := by decide +kernel
set_option maxRecDepth 100000 in
theorem dvX1_draft_0 : ([(0, .aload_n 0, 1), (1, .getfield 35, 3), (4, .bipush 8, 2), (6, .if_icmp .ge 60, 3), (9, .aload_n 0, 1), (10, .getfield 39, 3), (13, .bipush 12, 2), (15, .if_icmp .ge 51, 3), (18, .aload_n 0, 1), (19, .getfield 35, 3), (22, .bipush 12, 2), (24, .imul, 1), (25, .aload_n 0, 1), (26, .getfield 39, 3), (29, .iadd, 1), (30, .istore 4, 2), (32, .aload_n 0, 1), (33, .getfield 18, 3), (36, .iload 4, 2), (38, .iload_n 1, 1), (39, .iastore, 1), (40, .aload_n 0, 1), (41, .getfield 21, 3), (44, .iload 4, 2)] : List (Nat × Instr × Nat)).all (fun q => decide (decode cX1_draft q.1 = .ok (q.2.1, q.2.2))) = true := by decide +kernel
theorem dX1_draft_0 : decode cX1_draft 0 = .ok (.aload_n 0, 1) := all_at dvX1_draft_0 0 rfl
theorem dX1_draft_1 : decode cX1_draft 1 = .ok (.getfield 35, 3) := all_at dvX1_draft_0 1 rfl
theorem dX1_draft_4 : decode cX1_draft 4 = .ok (.bipush 8, 2) := all_at dvX1_draft_0 2 rfl
theorem dX1_draft_6 : decode cX1_draft 6 = .ok (.if_icmp .ge 60, 3) := all_at dvX1_draft_0 3 rfl
theorem dX1_draft_9 : decode cX1_draft 9 = .ok (.aload_n 0, 1) := all_at dvX1_draft_0 4 rfl
theorem dX1_draft_10 : decode cX1_draft 10 = .ok (.getfield 39, 3) := all_at dvX1_draft_0 5 rfl
theorem dX1_draft_13 : decode cX1_draft 13 = .ok (.bipush 12, 2) := all_at dvX1_draft_0 6 rfl
theorem dX1_draft_15 : decode cX1_draft 15 = .ok (.if_icmp .ge 51, 3) := all_at dvX1_draft_0 7 rfl
theorem dX1_draft_18 : decode cX1_draft 18 = .ok (.aload_n 0, 1) := all_at dvX1_draft_0 8 rfl
theorem dX1_draft_19 : decode cX1_draft 19 = .ok (.getfield 35, 3) := all_at dvX1_draft_0 9 rfl
theorem dX1_draft_22 : decode cX1_draft 22 = .ok (.bipush 12, 2) := all_at dvX1_draft_0 10 rfl
theorem dX1_draft_24 : decode cX1_draft 24 = .ok (.imul, 1) := all_at dvX1_draft_0 11 rfl
theorem dX1_draft_25 : decode cX1_draft 25 = .ok (.aload_n 0, 1) := all_at dvX1_draft_0 12 rfl
theorem dX1_draft_26 : decode cX1_draft 26 = .ok (.getfield 39, 3) := all_at dvX1_draft_0 13 rfl
theorem dX1_draft_29 : decode cX1_draft 29 = .ok (.iadd, 1) := all_at dvX1_draft_0 14 rfl
theorem dX1_draft_30 : decode cX1_draft 30 = .ok (.istore 4, 2) := all_at dvX1_draft_0 15 rfl
theorem dX1_draft_32 : decode cX1_draft 32 = .ok (.aload_n 0, 1) := all_at dvX1_draft_0 16 rfl
theorem dX1_draft_33 : decode cX1_draft 33 = .ok (.getfield 18, 3) := all_at dvX1_draft_0 17 rfl
theorem dX1_draft_36 : decode cX1_draft 36 = .ok (.iload 4, 2) := all_at dvX1_draft_0 18 rfl
theorem dX1_draft_38 : decode cX1_draft 38 = .ok (.iload_n 1, 1) := all_at dvX1_draft_0 19 rfl
theorem dX1_draft_39 : decode cX1_draft 39 = .ok (.iastore, 1) := all_at dvX1_draft_0 20 rfl
theorem dX1_draft_40 : decode cX1_draft 40 = .ok (.aload_n 0, 1) := all_at dvX1_draft_0 21 rfl
theorem dX1_draft_41 : decode cX1_draft 41 = .ok (.getfield 21, 3) := all_at dvX1_draft_0 22 rfl
theorem dX1_draft_44 : decode cX1_draft 44 = .ok (.iload 4, 2) := all_at dvX1_draft_0 23 rfl
set_option maxRecDepth 100000 in
theorem dvX1_draft_46 : ([(46, .iload_n 2, 1), (47, .iastore, 1), (48, .aload_n 0, 1), (49, .getfield 24, 3), (52, .iload 4, 2), (54, .iload_n 3, 1), (55, .iastore, 1), (56, .aload_n 0, 1), (57, .dup, 1), (58, .getfield 39, 3), (61, .iconst 1, 1), (62, .iadd, 1), (63, .putfield 39, 3), (66, .return_, 1)] : List (Nat × Instr × Nat)).all (fun q => decide (decode cX1_draft q.1 = .ok (q.2.1, q.2.2))) = true := by decide +kernel
theorem dX1_draft_46 : decode cX1_draft 46 = .ok (.iload_n 2, 1) := all_at dvX1_draft_46 0 rfl
theorem dX1_draft_47 : decode cX1_draft 47 = .ok (.iastore, 1) := all_at dvX1_draft_46 1 rfl
theorem dX1_draft_48 : decode cX1_draft 48 = .ok (.aload_n 0, 1) := all_at dvX1_draft_46 2 rfl
theorem dX1_draft_49 : decode cX1_draft 49 = .ok (.getfield 24, 3) := all_at dvX1_draft_46 3 rfl
theorem dX1_draft_52 : decode cX1_draft 52 = .ok (.iload 4, 2) := all_at dvX1_draft_46 4 rfl
theorem dX1_draft_54 : decode cX1_draft 54 = .ok (.iload_n 3, 1) := all_at dvX1_draft_46 5 rfl
theorem dX1_draft_55 : decode cX1_draft 55 = .ok (.iastore, 1) := all_at dvX1_draft_46 6 rfl
theorem dX1_draft_56 : decode cX1_draft 56 = .ok (.aload_n 0, 1) := all_at dvX1_draft_46 7 rfl
theorem dX1_draft_57 : decode cX1_draft 57 = .ok (.dup, 1) := all_at dvX1_draft_46 8 rfl
theorem dX1_draft_58 : decode cX1_draft 58 = .ok (.getfield 39, 3) := all_at dvX1_draft_46 9 rfl
theorem dX1_draft_61 : decode cX1_draft 61 = .ok (.iconst 1, 1) := all_at dvX1_draft_46 10 rfl
theorem dX1_draft_62 : decode cX1_draft 62 = .ok (.iadd, 1) := all_at dvX1_draft_46 11 rfl
theorem dX1_draft_63 : decode cX1_draft 63 = .ok (.putfield 39, 3) := all_at dvX1_draft_46 12 rfl
theorem dX1_draft_66 : decode cX1_draft 66 = .ok (.return_, 1) := all_at dvX1_draft_46 13 rfl
set_option maxRecDepth 100000 in
theorem dvX1_draftWord_0 : ([(0, .aload_n 0, 1), (1, .getfield 35, 3), (4, .bipush 8, 2), (6, .if_icmp .ge 73, 3), (9, .aload_n 0, 1), (10, .getfield 39, 3), (13, .bipush 12, 2), (15, .if_icmp .ge 64, 3), (18, .aload_n 0, 1), (19, .getfield 35, 3), (22, .bipush 12, 2), (24, .imul, 1), (25, .aload_n 0, 1), (26, .getfield 39, 3), (29, .iadd, 1), (30, .bipush 8, 2), (32, .imul, 1), (33, .istore 4, 2), (35, .iconst 0, 1), (36, .istore 5, 2), (38, .iload 5, 2), (40, .bipush 8, 2), (42, .if_icmp .ge 37, 3), (45, .aload_n 0, 1)] : List (Nat × Instr × Nat)).all (fun q => decide (decode cX1_draftWord q.1 = .ok (q.2.1, q.2.2))) = true := by decide +kernel
theorem dX1_draftWord_0 : decode cX1_draftWord 0 = .ok (.aload_n 0, 1) := all_at dvX1_draftWord_0 0 rfl
theorem dX1_draftWord_1 : decode cX1_draftWord 1 = .ok (.getfield 35, 3) := all_at dvX1_draftWord_0 1 rfl
theorem dX1_draftWord_4 : decode cX1_draftWord 4 = .ok (.bipush 8, 2) := all_at dvX1_draftWord_0 2 rfl
theorem dX1_draftWord_6 : decode cX1_draftWord 6 = .ok (.if_icmp .ge 73, 3) := all_at dvX1_draftWord_0 3 rfl
theorem dX1_draftWord_9 : decode cX1_draftWord 9 = .ok (.aload_n 0, 1) := all_at dvX1_draftWord_0 4 rfl
theorem dX1_draftWord_10 : decode cX1_draftWord 10 = .ok (.getfield 39, 3) := all_at dvX1_draftWord_0 5 rfl
theorem dX1_draftWord_13 : decode cX1_draftWord 13 = .ok (.bipush 12, 2) := all_at dvX1_draftWord_0 6 rfl
theorem dX1_draftWord_15 : decode cX1_draftWord 15 = .ok (.if_icmp .ge 64, 3) := all_at dvX1_draftWord_0 7 rfl
theorem dX1_draftWord_18 : decode cX1_draftWord 18 = .ok (.aload_n 0, 1) := all_at dvX1_draftWord_0 8 rfl
theorem dX1_draftWord_19 : decode cX1_draftWord 19 = .ok (.getfield 35, 3) := all_at dvX1_draftWord_0 9 rfl
theorem dX1_draftWord_22 : decode cX1_draftWord 22 = .ok (.bipush 12, 2) := all_at dvX1_draftWord_0 10 rfl
theorem dX1_draftWord_24 : decode cX1_draftWord 24 = .ok (.imul, 1) := all_at dvX1_draftWord_0 11 rfl
theorem dX1_draftWord_25 : decode cX1_draftWord 25 = .ok (.aload_n 0, 1) := all_at dvX1_draftWord_0 12 rfl
theorem dX1_draftWord_26 : decode cX1_draftWord 26 = .ok (.getfield 39, 3) := all_at dvX1_draftWord_0 13 rfl
theorem dX1_draftWord_29 : decode cX1_draftWord 29 = .ok (.iadd, 1) := all_at dvX1_draftWord_0 14 rfl
theorem dX1_draftWord_30 : decode cX1_draftWord 30 = .ok (.bipush 8, 2) := all_at dvX1_draftWord_0 15 rfl
theorem dX1_draftWord_32 : decode cX1_draftWord 32 = .ok (.imul, 1) := all_at dvX1_draftWord_0 16 rfl
theorem dX1_draftWord_33 : decode cX1_draftWord 33 = .ok (.istore 4, 2) := all_at dvX1_draftWord_0 17 rfl
theorem dX1_draftWord_35 : decode cX1_draftWord 35 = .ok (.iconst 0, 1) := all_at dvX1_draftWord_0 18 rfl
theorem dX1_draftWord_36 : decode cX1_draftWord 36 = .ok (.istore 5, 2) := all_at dvX1_draftWord_0 19 rfl
theorem dX1_draftWord_38 : decode cX1_draftWord 38 = .ok (.iload 5, 2) := all_at dvX1_draftWord_0 20 rfl
theorem dX1_draftWord_40 : decode cX1_draftWord 40 = .ok (.bipush 8, 2) := all_at dvX1_draftWord_0 21 rfl
theorem dX1_draftWord_42 : decode cX1_draftWord 42 = .ok (.if_icmp .ge 37, 3) := all_at dvX1_draftWord_0 22 rfl
theorem dX1_draftWord_45 : decode cX1_draftWord 45 = .ok (.aload_n 0, 1) := all_at dvX1_draftWord_0 23 rfl
set_option maxRecDepth 100000 in
theorem dvX1_draftWord_46 : ([(46, .getfield 27, 3), (49, .iload 4, 2), (51, .iload 5, 2), (53, .iadd, 1), (54, .iload_n 2, 1), (55, .iload 5, 2), (57, .iadd, 1), (58, .iload_n 3, 1), (59, .if_icmp .ge 12, 3), (62, .aload_n 1, 1), (63, .iload_n 2, 1), (64, .iload 5, 2), (66, .iadd, 1), (67, .baload, 1), (68, .goto 4, 3), (71, .iconst 0, 1), (72, .bastore, 1), (73, .iinc 5 1, 3), (76, .goto (-38), 3), (79, .return_, 1)] : List (Nat × Instr × Nat)).all (fun q => decide (decode cX1_draftWord q.1 = .ok (q.2.1, q.2.2))) = true := by decide +kernel
theorem dX1_draftWord_46 : decode cX1_draftWord 46 = .ok (.getfield 27, 3) := all_at dvX1_draftWord_46 0 rfl
theorem dX1_draftWord_49 : decode cX1_draftWord 49 = .ok (.iload 4, 2) := all_at dvX1_draftWord_46 1 rfl
theorem dX1_draftWord_51 : decode cX1_draftWord 51 = .ok (.iload 5, 2) := all_at dvX1_draftWord_46 2 rfl
theorem dX1_draftWord_53 : decode cX1_draftWord 53 = .ok (.iadd, 1) := all_at dvX1_draftWord_46 3 rfl
theorem dX1_draftWord_54 : decode cX1_draftWord 54 = .ok (.iload_n 2, 1) := all_at dvX1_draftWord_46 4 rfl
theorem dX1_draftWord_55 : decode cX1_draftWord 55 = .ok (.iload 5, 2) := all_at dvX1_draftWord_46 5 rfl
theorem dX1_draftWord_57 : decode cX1_draftWord 57 = .ok (.iadd, 1) := all_at dvX1_draftWord_46 6 rfl
theorem dX1_draftWord_58 : decode cX1_draftWord 58 = .ok (.iload_n 3, 1) := all_at dvX1_draftWord_46 7 rfl
theorem dX1_draftWord_59 : decode cX1_draftWord 59 = .ok (.if_icmp .ge 12, 3) := all_at dvX1_draftWord_46 8 rfl
theorem dX1_draftWord_62 : decode cX1_draftWord 62 = .ok (.aload_n 1, 1) := all_at dvX1_draftWord_46 9 rfl
theorem dX1_draftWord_63 : decode cX1_draftWord 63 = .ok (.iload_n 2, 1) := all_at dvX1_draftWord_46 10 rfl
theorem dX1_draftWord_64 : decode cX1_draftWord 64 = .ok (.iload 5, 2) := all_at dvX1_draftWord_46 11 rfl
theorem dX1_draftWord_66 : decode cX1_draftWord 66 = .ok (.iadd, 1) := all_at dvX1_draftWord_46 12 rfl
theorem dX1_draftWord_67 : decode cX1_draftWord 67 = .ok (.baload, 1) := all_at dvX1_draftWord_46 13 rfl
theorem dX1_draftWord_68 : decode cX1_draftWord 68 = .ok (.goto 4, 3) := all_at dvX1_draftWord_46 14 rfl
theorem dX1_draftWord_71 : decode cX1_draftWord 71 = .ok (.iconst 0, 1) := all_at dvX1_draftWord_46 15 rfl
theorem dX1_draftWord_72 : decode cX1_draftWord 72 = .ok (.bastore, 1) := all_at dvX1_draftWord_46 16 rfl
theorem dX1_draftWord_73 : decode cX1_draftWord 73 = .ok (.iinc 5 1, 3) := all_at dvX1_draftWord_46 17 rfl
theorem dX1_draftWord_76 : decode cX1_draftWord 76 = .ok (.goto (-38), 3) := all_at dvX1_draftWord_46 18 rfl
theorem dX1_draftWord_79 : decode cX1_draftWord 79 = .ok (.return_, 1) := all_at dvX1_draftWord_46 19 rfl
set_option maxRecDepth 100000 in
theorem dvX1_enact_0 : ([(0, .aload_n 0, 1), (1, .getfield 11, 3), (4, .aload_n 0, 1), (5, .getfield 35, 3), (8, .iload_n 1, 1), (9, .iastore, 1), (10, .aload_n 0, 1), (11, .getfield 15, 3), (14, .aload_n 0, 1), (15, .getfield 35, 3), (18, .aload_n 0, 1), (19, .getfield 39, 3), (22, .iastore, 1), (23, .aload_n 0, 1), (24, .dup, 1), (25, .getfield 35, 3), (28, .iconst 1, 1), (29, .iadd, 1), (30, .putfield 35, 3), (33, .aload_n 0, 1), (34, .getfield 35, 3), (37, .iconst 1, 1), (38, .isub, 1), (39, .ireturn, 1)] : List (Nat × Instr × Nat)).all (fun q => decide (decode cX1_enact q.1 = .ok (q.2.1, q.2.2))) = true := by decide +kernel
theorem dX1_enact_0 : decode cX1_enact 0 = .ok (.aload_n 0, 1) := all_at dvX1_enact_0 0 rfl
theorem dX1_enact_1 : decode cX1_enact 1 = .ok (.getfield 11, 3) := all_at dvX1_enact_0 1 rfl
theorem dX1_enact_4 : decode cX1_enact 4 = .ok (.aload_n 0, 1) := all_at dvX1_enact_0 2 rfl
theorem dX1_enact_5 : decode cX1_enact 5 = .ok (.getfield 35, 3) := all_at dvX1_enact_0 3 rfl
theorem dX1_enact_8 : decode cX1_enact 8 = .ok (.iload_n 1, 1) := all_at dvX1_enact_0 4 rfl
theorem dX1_enact_9 : decode cX1_enact 9 = .ok (.iastore, 1) := all_at dvX1_enact_0 5 rfl
theorem dX1_enact_10 : decode cX1_enact 10 = .ok (.aload_n 0, 1) := all_at dvX1_enact_0 6 rfl
theorem dX1_enact_11 : decode cX1_enact 11 = .ok (.getfield 15, 3) := all_at dvX1_enact_0 7 rfl
theorem dX1_enact_14 : decode cX1_enact 14 = .ok (.aload_n 0, 1) := all_at dvX1_enact_0 8 rfl
theorem dX1_enact_15 : decode cX1_enact 15 = .ok (.getfield 35, 3) := all_at dvX1_enact_0 9 rfl
theorem dX1_enact_18 : decode cX1_enact 18 = .ok (.aload_n 0, 1) := all_at dvX1_enact_0 10 rfl
theorem dX1_enact_19 : decode cX1_enact 19 = .ok (.getfield 39, 3) := all_at dvX1_enact_0 11 rfl
theorem dX1_enact_22 : decode cX1_enact 22 = .ok (.iastore, 1) := all_at dvX1_enact_0 12 rfl
theorem dX1_enact_23 : decode cX1_enact 23 = .ok (.aload_n 0, 1) := all_at dvX1_enact_0 13 rfl
theorem dX1_enact_24 : decode cX1_enact 24 = .ok (.dup, 1) := all_at dvX1_enact_0 14 rfl
theorem dX1_enact_25 : decode cX1_enact 25 = .ok (.getfield 35, 3) := all_at dvX1_enact_0 15 rfl
theorem dX1_enact_28 : decode cX1_enact 28 = .ok (.iconst 1, 1) := all_at dvX1_enact_0 16 rfl
theorem dX1_enact_29 : decode cX1_enact 29 = .ok (.iadd, 1) := all_at dvX1_enact_0 17 rfl
theorem dX1_enact_30 : decode cX1_enact 30 = .ok (.putfield 35, 3) := all_at dvX1_enact_0 18 rfl
theorem dX1_enact_33 : decode cX1_enact 33 = .ok (.aload_n 0, 1) := all_at dvX1_enact_0 19 rfl
theorem dX1_enact_34 : decode cX1_enact 34 = .ok (.getfield 35, 3) := all_at dvX1_enact_0 20 rfl
theorem dX1_enact_37 : decode cX1_enact 37 = .ok (.iconst 1, 1) := all_at dvX1_enact_0 21 rfl
theorem dX1_enact_38 : decode cX1_enact 38 = .ok (.isub, 1) := all_at dvX1_enact_0 22 rfl
theorem dX1_enact_39 : decode cX1_enact 39 = .ok (.ireturn, 1) := all_at dvX1_enact_0 23 rfl
set_option maxRecDepth 100000 in
theorem dvX1_findCounting_0 : ([(0, .aload_n 0, 1), (1, .getfield 35, 3), (4, .iconst 1, 1), (5, .isub, 1), (6, .istore_n 2, 1), (7, .iload_n 2, 1), (8, .ifCond .lt 38, 3), (11, .aload_n 0, 1), (12, .getfield 31, 3), (15, .iload_n 2, 1), (16, .aload_n 0, 1), (17, .getfield 11, 3), (20, .iload_n 2, 1), (21, .iaload, 1), (22, .iload_n 1, 1), (23, .if_icmp .gt 15, 3), (26, .aload_n 0, 1), (27, .iload_n 2, 1), (28, .invokevirtual 57, 3), (31, .ifCond .ne 7, 3), (34, .iconst 1, 1), (35, .goto 4, 3), (38, .iconst 0, 1), (39, .bastore, 1)] : List (Nat × Instr × Nat)).all (fun q => decide (decode cX1_findCounting q.1 = .ok (q.2.1, q.2.2))) = true := by decide +kernel
theorem dX1_findCounting_0 : decode cX1_findCounting 0 = .ok (.aload_n 0, 1) := all_at dvX1_findCounting_0 0 rfl
theorem dX1_findCounting_1 : decode cX1_findCounting 1 = .ok (.getfield 35, 3) := all_at dvX1_findCounting_0 1 rfl
theorem dX1_findCounting_4 : decode cX1_findCounting 4 = .ok (.iconst 1, 1) := all_at dvX1_findCounting_0 2 rfl
theorem dX1_findCounting_5 : decode cX1_findCounting 5 = .ok (.isub, 1) := all_at dvX1_findCounting_0 3 rfl
theorem dX1_findCounting_6 : decode cX1_findCounting 6 = .ok (.istore_n 2, 1) := all_at dvX1_findCounting_0 4 rfl
theorem dX1_findCounting_7 : decode cX1_findCounting 7 = .ok (.iload_n 2, 1) := all_at dvX1_findCounting_0 5 rfl
theorem dX1_findCounting_8 : decode cX1_findCounting 8 = .ok (.ifCond .lt 38, 3) := all_at dvX1_findCounting_0 6 rfl
theorem dX1_findCounting_11 : decode cX1_findCounting 11 = .ok (.aload_n 0, 1) := all_at dvX1_findCounting_0 7 rfl
theorem dX1_findCounting_12 : decode cX1_findCounting 12 = .ok (.getfield 31, 3) := all_at dvX1_findCounting_0 8 rfl
theorem dX1_findCounting_15 : decode cX1_findCounting 15 = .ok (.iload_n 2, 1) := all_at dvX1_findCounting_0 9 rfl
theorem dX1_findCounting_16 : decode cX1_findCounting 16 = .ok (.aload_n 0, 1) := all_at dvX1_findCounting_0 10 rfl
theorem dX1_findCounting_17 : decode cX1_findCounting 17 = .ok (.getfield 11, 3) := all_at dvX1_findCounting_0 11 rfl
theorem dX1_findCounting_20 : decode cX1_findCounting 20 = .ok (.iload_n 2, 1) := all_at dvX1_findCounting_0 12 rfl
theorem dX1_findCounting_21 : decode cX1_findCounting 21 = .ok (.iaload, 1) := all_at dvX1_findCounting_0 13 rfl
theorem dX1_findCounting_22 : decode cX1_findCounting 22 = .ok (.iload_n 1, 1) := all_at dvX1_findCounting_0 14 rfl
theorem dX1_findCounting_23 : decode cX1_findCounting 23 = .ok (.if_icmp .gt 15, 3) := all_at dvX1_findCounting_0 15 rfl
theorem dX1_findCounting_26 : decode cX1_findCounting 26 = .ok (.aload_n 0, 1) := all_at dvX1_findCounting_0 16 rfl
theorem dX1_findCounting_27 : decode cX1_findCounting 27 = .ok (.iload_n 2, 1) := all_at dvX1_findCounting_0 17 rfl
theorem dX1_findCounting_28 : decode cX1_findCounting 28 = .ok (.invokevirtual 57, 3) := all_at dvX1_findCounting_0 18 rfl
theorem dX1_findCounting_31 : decode cX1_findCounting 31 = .ok (.ifCond .ne 7, 3) := all_at dvX1_findCounting_0 19 rfl
theorem dX1_findCounting_34 : decode cX1_findCounting 34 = .ok (.iconst 1, 1) := all_at dvX1_findCounting_0 20 rfl
theorem dX1_findCounting_35 : decode cX1_findCounting 35 = .ok (.goto 4, 3) := all_at dvX1_findCounting_0 21 rfl
theorem dX1_findCounting_38 : decode cX1_findCounting 38 = .ok (.iconst 0, 1) := all_at dvX1_findCounting_0 22 rfl
theorem dX1_findCounting_39 : decode cX1_findCounting 39 = .ok (.bastore, 1) := all_at dvX1_findCounting_0 23 rfl
theorem dX1_findCounting_40 : decode cX1_findCounting 40 = .ok (.iinc 2 (-1), 3) := by decide +kernel
theorem dX1_findCounting_43 : decode cX1_findCounting 43 = .ok (.goto (-36), 3) := by decide +kernel
theorem dX1_findCounting_46 : decode cX1_findCounting 46 = .ok (.return_, 1) := by decide +kernel
set_option maxRecDepth 100000 in
theorem dvX1_isStruck_0 : ([(0, .iload_n 1, 1), (1, .iconst 1, 1), (2, .iadd, 1), (3, .istore_n 2, 1), (4, .iload_n 2, 1), (5, .aload_n 0, 1), (6, .getfield 35, 3), (9, .if_icmp .ge 29, 3), (12, .aload_n 0, 1), (13, .getfield 31, 3), (16, .iload_n 2, 1), (17, .baload, 1), (18, .ifCond .eq 14, 3), (21, .aload_n 0, 1), (22, .iload_n 2, 1), (23, .iload_n 1, 1), (24, .invokevirtual 61, 3), (27, .ifCond .eq 5, 3), (30, .iconst 1, 1), (31, .ireturn, 1), (32, .iinc 2 1, 3), (35, .goto (-31), 3), (38, .iconst 0, 1), (39, .ireturn, 1)] : List (Nat × Instr × Nat)).all (fun q => decide (decode cX1_isStruck q.1 = .ok (q.2.1, q.2.2))) = true := by decide +kernel
theorem dX1_isStruck_0 : decode cX1_isStruck 0 = .ok (.iload_n 1, 1) := all_at dvX1_isStruck_0 0 rfl
theorem dX1_isStruck_1 : decode cX1_isStruck 1 = .ok (.iconst 1, 1) := all_at dvX1_isStruck_0 1 rfl
theorem dX1_isStruck_2 : decode cX1_isStruck 2 = .ok (.iadd, 1) := all_at dvX1_isStruck_0 2 rfl
theorem dX1_isStruck_3 : decode cX1_isStruck 3 = .ok (.istore_n 2, 1) := all_at dvX1_isStruck_0 3 rfl
theorem dX1_isStruck_4 : decode cX1_isStruck 4 = .ok (.iload_n 2, 1) := all_at dvX1_isStruck_0 4 rfl
theorem dX1_isStruck_5 : decode cX1_isStruck 5 = .ok (.aload_n 0, 1) := all_at dvX1_isStruck_0 5 rfl
theorem dX1_isStruck_6 : decode cX1_isStruck 6 = .ok (.getfield 35, 3) := all_at dvX1_isStruck_0 6 rfl
theorem dX1_isStruck_9 : decode cX1_isStruck 9 = .ok (.if_icmp .ge 29, 3) := all_at dvX1_isStruck_0 7 rfl
theorem dX1_isStruck_12 : decode cX1_isStruck 12 = .ok (.aload_n 0, 1) := all_at dvX1_isStruck_0 8 rfl
theorem dX1_isStruck_13 : decode cX1_isStruck 13 = .ok (.getfield 31, 3) := all_at dvX1_isStruck_0 9 rfl
theorem dX1_isStruck_16 : decode cX1_isStruck 16 = .ok (.iload_n 2, 1) := all_at dvX1_isStruck_0 10 rfl
theorem dX1_isStruck_17 : decode cX1_isStruck 17 = .ok (.baload, 1) := all_at dvX1_isStruck_0 11 rfl
theorem dX1_isStruck_18 : decode cX1_isStruck 18 = .ok (.ifCond .eq 14, 3) := all_at dvX1_isStruck_0 12 rfl
theorem dX1_isStruck_21 : decode cX1_isStruck 21 = .ok (.aload_n 0, 1) := all_at dvX1_isStruck_0 13 rfl
theorem dX1_isStruck_22 : decode cX1_isStruck 22 = .ok (.iload_n 2, 1) := all_at dvX1_isStruck_0 14 rfl
theorem dX1_isStruck_23 : decode cX1_isStruck 23 = .ok (.iload_n 1, 1) := all_at dvX1_isStruck_0 15 rfl
theorem dX1_isStruck_24 : decode cX1_isStruck 24 = .ok (.invokevirtual 61, 3) := all_at dvX1_isStruck_0 16 rfl
theorem dX1_isStruck_27 : decode cX1_isStruck 27 = .ok (.ifCond .eq 5, 3) := all_at dvX1_isStruck_0 17 rfl
theorem dX1_isStruck_30 : decode cX1_isStruck 30 = .ok (.iconst 1, 1) := all_at dvX1_isStruck_0 18 rfl
theorem dX1_isStruck_31 : decode cX1_isStruck 31 = .ok (.ireturn, 1) := all_at dvX1_isStruck_0 19 rfl
theorem dX1_isStruck_32 : decode cX1_isStruck 32 = .ok (.iinc 2 1, 3) := all_at dvX1_isStruck_0 20 rfl
theorem dX1_isStruck_35 : decode cX1_isStruck 35 = .ok (.goto (-31), 3) := all_at dvX1_isStruck_0 21 rfl
theorem dX1_isStruck_38 : decode cX1_isStruck 38 = .ok (.iconst 0, 1) := all_at dvX1_isStruck_0 22 rfl
theorem dX1_isStruck_39 : decode cX1_isStruck 39 = .ok (.ireturn, 1) := all_at dvX1_isStruck_0 23 rfl
set_option maxRecDepth 100000 in
theorem dvX1_lastNaming_0 : ([(0, .iconst (-1), 1), (1, .istore 4, 2), (3, .iconst 0, 1), (4, .istore 5, 2), (6, .iload 5, 2), (8, .aload_n 0, 1), (9, .getfield 15, 3), (12, .iload_n 1, 1), (13, .iaload, 1), (14, .if_icmp .ge 60, 3), (17, .iload_n 1, 1), (18, .bipush 12, 2), (20, .imul, 1), (21, .iload 5, 2), (23, .iadd, 1), (24, .istore 6, 2), (26, .aload_n 0, 1), (27, .getfield 18, 3), (30, .iload 6, 2), (32, .iaload, 1), (33, .bipush 6, 2), (35, .if_icmp .ne 33, 3), (38, .aload_n 0, 1), (39, .getfield 21, 3)] : List (Nat × Instr × Nat)).all (fun q => decide (decode cX1_lastNaming q.1 = .ok (q.2.1, q.2.2))) = true := by decide +kernel
theorem dX1_lastNaming_0 : decode cX1_lastNaming 0 = .ok (.iconst (-1), 1) := all_at dvX1_lastNaming_0 0 rfl
theorem dX1_lastNaming_1 : decode cX1_lastNaming 1 = .ok (.istore 4, 2) := all_at dvX1_lastNaming_0 1 rfl
theorem dX1_lastNaming_3 : decode cX1_lastNaming 3 = .ok (.iconst 0, 1) := all_at dvX1_lastNaming_0 2 rfl
theorem dX1_lastNaming_4 : decode cX1_lastNaming 4 = .ok (.istore 5, 2) := all_at dvX1_lastNaming_0 3 rfl
theorem dX1_lastNaming_6 : decode cX1_lastNaming 6 = .ok (.iload 5, 2) := all_at dvX1_lastNaming_0 4 rfl
theorem dX1_lastNaming_8 : decode cX1_lastNaming 8 = .ok (.aload_n 0, 1) := all_at dvX1_lastNaming_0 5 rfl
theorem dX1_lastNaming_9 : decode cX1_lastNaming 9 = .ok (.getfield 15, 3) := all_at dvX1_lastNaming_0 6 rfl
theorem dX1_lastNaming_12 : decode cX1_lastNaming 12 = .ok (.iload_n 1, 1) := all_at dvX1_lastNaming_0 7 rfl
theorem dX1_lastNaming_13 : decode cX1_lastNaming 13 = .ok (.iaload, 1) := all_at dvX1_lastNaming_0 8 rfl
theorem dX1_lastNaming_14 : decode cX1_lastNaming 14 = .ok (.if_icmp .ge 60, 3) := all_at dvX1_lastNaming_0 9 rfl
theorem dX1_lastNaming_17 : decode cX1_lastNaming 17 = .ok (.iload_n 1, 1) := all_at dvX1_lastNaming_0 10 rfl
theorem dX1_lastNaming_18 : decode cX1_lastNaming 18 = .ok (.bipush 12, 2) := all_at dvX1_lastNaming_0 11 rfl
theorem dX1_lastNaming_20 : decode cX1_lastNaming 20 = .ok (.imul, 1) := all_at dvX1_lastNaming_0 12 rfl
theorem dX1_lastNaming_21 : decode cX1_lastNaming 21 = .ok (.iload 5, 2) := all_at dvX1_lastNaming_0 13 rfl
theorem dX1_lastNaming_23 : decode cX1_lastNaming 23 = .ok (.iadd, 1) := all_at dvX1_lastNaming_0 14 rfl
theorem dX1_lastNaming_24 : decode cX1_lastNaming 24 = .ok (.istore 6, 2) := all_at dvX1_lastNaming_0 15 rfl
theorem dX1_lastNaming_26 : decode cX1_lastNaming 26 = .ok (.aload_n 0, 1) := all_at dvX1_lastNaming_0 16 rfl
theorem dX1_lastNaming_27 : decode cX1_lastNaming 27 = .ok (.getfield 18, 3) := all_at dvX1_lastNaming_0 17 rfl
theorem dX1_lastNaming_30 : decode cX1_lastNaming 30 = .ok (.iload 6, 2) := all_at dvX1_lastNaming_0 18 rfl
theorem dX1_lastNaming_32 : decode cX1_lastNaming 32 = .ok (.iaload, 1) := all_at dvX1_lastNaming_0 19 rfl
theorem dX1_lastNaming_33 : decode cX1_lastNaming 33 = .ok (.bipush 6, 2) := all_at dvX1_lastNaming_0 20 rfl
theorem dX1_lastNaming_35 : decode cX1_lastNaming 35 = .ok (.if_icmp .ne 33, 3) := all_at dvX1_lastNaming_0 21 rfl
theorem dX1_lastNaming_38 : decode cX1_lastNaming 38 = .ok (.aload_n 0, 1) := all_at dvX1_lastNaming_0 22 rfl
theorem dX1_lastNaming_39 : decode cX1_lastNaming 39 = .ok (.getfield 21, 3) := all_at dvX1_lastNaming_0 23 rfl
set_option maxRecDepth 100000 in
theorem dvX1_lastNaming_42 : ([(42, .iload 6, 2), (44, .iaload, 1), (45, .iload_n 3, 1), (46, .imul, 1), (47, .iload_n 2, 1), (48, .if_icmp .gt 20, 3), (51, .iload_n 2, 1), (52, .aload_n 0, 1), (53, .getfield 24, 3), (56, .iload 6, 2), (58, .iaload, 1), (59, .iload_n 3, 1), (60, .imul, 1), (61, .if_icmp .ge 7, 3), (64, .iload 5, 2), (66, .istore 4, 2), (68, .iinc 5 1, 3), (71, .goto (-65), 3), (74, .iload 4, 2), (76, .ireturn, 1)] : List (Nat × Instr × Nat)).all (fun q => decide (decode cX1_lastNaming q.1 = .ok (q.2.1, q.2.2))) = true := by decide +kernel
theorem dX1_lastNaming_42 : decode cX1_lastNaming 42 = .ok (.iload 6, 2) := all_at dvX1_lastNaming_42 0 rfl
theorem dX1_lastNaming_44 : decode cX1_lastNaming 44 = .ok (.iaload, 1) := all_at dvX1_lastNaming_42 1 rfl
theorem dX1_lastNaming_45 : decode cX1_lastNaming 45 = .ok (.iload_n 3, 1) := all_at dvX1_lastNaming_42 2 rfl
theorem dX1_lastNaming_46 : decode cX1_lastNaming 46 = .ok (.imul, 1) := all_at dvX1_lastNaming_42 3 rfl
theorem dX1_lastNaming_47 : decode cX1_lastNaming 47 = .ok (.iload_n 2, 1) := all_at dvX1_lastNaming_42 4 rfl
theorem dX1_lastNaming_48 : decode cX1_lastNaming 48 = .ok (.if_icmp .gt 20, 3) := all_at dvX1_lastNaming_42 5 rfl
theorem dX1_lastNaming_51 : decode cX1_lastNaming 51 = .ok (.iload_n 2, 1) := all_at dvX1_lastNaming_42 6 rfl
theorem dX1_lastNaming_52 : decode cX1_lastNaming 52 = .ok (.aload_n 0, 1) := all_at dvX1_lastNaming_42 7 rfl
theorem dX1_lastNaming_53 : decode cX1_lastNaming 53 = .ok (.getfield 24, 3) := all_at dvX1_lastNaming_42 8 rfl
theorem dX1_lastNaming_56 : decode cX1_lastNaming 56 = .ok (.iload 6, 2) := all_at dvX1_lastNaming_42 9 rfl
theorem dX1_lastNaming_58 : decode cX1_lastNaming 58 = .ok (.iaload, 1) := all_at dvX1_lastNaming_42 10 rfl
theorem dX1_lastNaming_59 : decode cX1_lastNaming 59 = .ok (.iload_n 3, 1) := all_at dvX1_lastNaming_42 11 rfl
theorem dX1_lastNaming_60 : decode cX1_lastNaming 60 = .ok (.imul, 1) := all_at dvX1_lastNaming_42 12 rfl
theorem dX1_lastNaming_61 : decode cX1_lastNaming 61 = .ok (.if_icmp .ge 7, 3) := all_at dvX1_lastNaming_42 13 rfl
theorem dX1_lastNaming_64 : decode cX1_lastNaming 64 = .ok (.iload 5, 2) := all_at dvX1_lastNaming_42 14 rfl
theorem dX1_lastNaming_66 : decode cX1_lastNaming 66 = .ok (.istore 4, 2) := all_at dvX1_lastNaming_42 15 rfl
theorem dX1_lastNaming_68 : decode cX1_lastNaming 68 = .ok (.iinc 5 1, 3) := all_at dvX1_lastNaming_42 16 rfl
theorem dX1_lastNaming_71 : decode cX1_lastNaming 71 = .ok (.goto (-65), 3) := all_at dvX1_lastNaming_42 17 rfl
theorem dX1_lastNaming_74 : decode cX1_lastNaming 74 = .ok (.iload 4, 2) := all_at dvX1_lastNaming_42 18 rfl
theorem dX1_lastNaming_76 : decode cX1_lastNaming 76 = .ok (.ireturn, 1) := all_at dvX1_lastNaming_42 19 rfl
set_option maxRecDepth 100000 in
theorem dvX1_lastOf_0 : ([(0, .iconst (-1), 1), (1, .istore_n 3, 1), (2, .iload_n 1, 1), (3, .bipush 12, 2), (5, .imul, 1), (6, .istore 4, 2), (8, .iload 4, 2), (10, .iload_n 1, 1), (11, .bipush 12, 2), (13, .imul, 1), (14, .aload_n 0, 1), (15, .getfield 15, 3), (18, .iload_n 1, 1), (19, .iaload, 1), (20, .iadd, 1), (21, .if_icmp .ge 23, 3), (24, .aload_n 0, 1), (25, .getfield 18, 3), (28, .iload 4, 2), (30, .iaload, 1), (31, .iload_n 2, 1), (32, .if_icmp .ne 6, 3), (35, .iload 4, 2), (37, .istore_n 3, 1)] : List (Nat × Instr × Nat)).all (fun q => decide (decode cX1_lastOf q.1 = .ok (q.2.1, q.2.2))) = true := by decide +kernel
theorem dX1_lastOf_0 : decode cX1_lastOf 0 = .ok (.iconst (-1), 1) := all_at dvX1_lastOf_0 0 rfl
theorem dX1_lastOf_1 : decode cX1_lastOf 1 = .ok (.istore_n 3, 1) := all_at dvX1_lastOf_0 1 rfl
theorem dX1_lastOf_2 : decode cX1_lastOf 2 = .ok (.iload_n 1, 1) := all_at dvX1_lastOf_0 2 rfl
theorem dX1_lastOf_3 : decode cX1_lastOf 3 = .ok (.bipush 12, 2) := all_at dvX1_lastOf_0 3 rfl
theorem dX1_lastOf_5 : decode cX1_lastOf 5 = .ok (.imul, 1) := all_at dvX1_lastOf_0 4 rfl
theorem dX1_lastOf_6 : decode cX1_lastOf 6 = .ok (.istore 4, 2) := all_at dvX1_lastOf_0 5 rfl
theorem dX1_lastOf_8 : decode cX1_lastOf 8 = .ok (.iload 4, 2) := all_at dvX1_lastOf_0 6 rfl
theorem dX1_lastOf_10 : decode cX1_lastOf 10 = .ok (.iload_n 1, 1) := all_at dvX1_lastOf_0 7 rfl
theorem dX1_lastOf_11 : decode cX1_lastOf 11 = .ok (.bipush 12, 2) := all_at dvX1_lastOf_0 8 rfl
theorem dX1_lastOf_13 : decode cX1_lastOf 13 = .ok (.imul, 1) := all_at dvX1_lastOf_0 9 rfl
theorem dX1_lastOf_14 : decode cX1_lastOf 14 = .ok (.aload_n 0, 1) := all_at dvX1_lastOf_0 10 rfl
theorem dX1_lastOf_15 : decode cX1_lastOf 15 = .ok (.getfield 15, 3) := all_at dvX1_lastOf_0 11 rfl
theorem dX1_lastOf_18 : decode cX1_lastOf 18 = .ok (.iload_n 1, 1) := all_at dvX1_lastOf_0 12 rfl
theorem dX1_lastOf_19 : decode cX1_lastOf 19 = .ok (.iaload, 1) := all_at dvX1_lastOf_0 13 rfl
theorem dX1_lastOf_20 : decode cX1_lastOf 20 = .ok (.iadd, 1) := all_at dvX1_lastOf_0 14 rfl
theorem dX1_lastOf_21 : decode cX1_lastOf 21 = .ok (.if_icmp .ge 23, 3) := all_at dvX1_lastOf_0 15 rfl
theorem dX1_lastOf_24 : decode cX1_lastOf 24 = .ok (.aload_n 0, 1) := all_at dvX1_lastOf_0 16 rfl
theorem dX1_lastOf_25 : decode cX1_lastOf 25 = .ok (.getfield 18, 3) := all_at dvX1_lastOf_0 17 rfl
theorem dX1_lastOf_28 : decode cX1_lastOf 28 = .ok (.iload 4, 2) := all_at dvX1_lastOf_0 18 rfl
theorem dX1_lastOf_30 : decode cX1_lastOf 30 = .ok (.iaload, 1) := all_at dvX1_lastOf_0 19 rfl
theorem dX1_lastOf_31 : decode cX1_lastOf 31 = .ok (.iload_n 2, 1) := all_at dvX1_lastOf_0 20 rfl
theorem dX1_lastOf_32 : decode cX1_lastOf 32 = .ok (.if_icmp .ne 6, 3) := all_at dvX1_lastOf_0 21 rfl
theorem dX1_lastOf_35 : decode cX1_lastOf 35 = .ok (.iload 4, 2) := all_at dvX1_lastOf_0 22 rfl
theorem dX1_lastOf_37 : decode cX1_lastOf 37 = .ok (.istore_n 3, 1) := all_at dvX1_lastOf_0 23 rfl
set_option maxRecDepth 100000 in
theorem dvX1_lastOf_38 : ([(38, .iinc 4 1, 3), (41, .goto (-33), 3), (44, .iload_n 3, 1), (45, .ireturn, 1)] : List (Nat × Instr × Nat)).all (fun q => decide (decode cX1_lastOf q.1 = .ok (q.2.1, q.2.2))) = true := by decide +kernel
theorem dX1_lastOf_38 : decode cX1_lastOf 38 = .ok (.iinc 4 1, 3) := all_at dvX1_lastOf_38 0 rfl
theorem dX1_lastOf_41 : decode cX1_lastOf 41 = .ok (.goto (-33), 3) := all_at dvX1_lastOf_38 1 rfl
theorem dX1_lastOf_44 : decode cX1_lastOf 44 = .ok (.iload_n 3, 1) := all_at dvX1_lastOf_38 2 rfl
theorem dX1_lastOf_45 : decode cX1_lastOf 45 = .ok (.ireturn, 1) := all_at dvX1_lastOf_38 3 rfl
set_option maxRecDepth 100000 in
theorem dvX1_naming_0 : ([(0, .aload_n 0, 1), (1, .iload_n 3, 1), (2, .invokevirtual 42, 3), (5, .iconst (-1), 1), (6, .istore 4, 2), (8, .iconst (-1), 1), (9, .istore 5, 2), (11, .iconst 0, 1), (12, .istore 6, 2), (14, .iload 6, 2), (16, .aload_n 0, 1), (17, .getfield 35, 3), (20, .if_icmp .ge 66, 3), (23, .aload_n 0, 1), (24, .iload 6, 2), (26, .iload_n 1, 1), (27, .iload_n 2, 1), (28, .invokevirtual 53, 3), (31, .istore 7, 2), (33, .aload_n 0, 1), (34, .getfield 31, 3), (37, .iload 6, 2), (39, .baload, 1), (40, .ifCond .eq 40, 3)] : List (Nat × Instr × Nat)).all (fun q => decide (decode cX1_naming q.1 = .ok (q.2.1, q.2.2))) = true := by decide +kernel
theorem dX1_naming_0 : decode cX1_naming 0 = .ok (.aload_n 0, 1) := all_at dvX1_naming_0 0 rfl
theorem dX1_naming_1 : decode cX1_naming 1 = .ok (.iload_n 3, 1) := all_at dvX1_naming_0 1 rfl
theorem dX1_naming_2 : decode cX1_naming 2 = .ok (.invokevirtual 42, 3) := all_at dvX1_naming_0 2 rfl
theorem dX1_naming_5 : decode cX1_naming 5 = .ok (.iconst (-1), 1) := all_at dvX1_naming_0 3 rfl
theorem dX1_naming_6 : decode cX1_naming 6 = .ok (.istore 4, 2) := all_at dvX1_naming_0 4 rfl
theorem dX1_naming_8 : decode cX1_naming 8 = .ok (.iconst (-1), 1) := all_at dvX1_naming_0 5 rfl
theorem dX1_naming_9 : decode cX1_naming 9 = .ok (.istore 5, 2) := all_at dvX1_naming_0 6 rfl
theorem dX1_naming_11 : decode cX1_naming 11 = .ok (.iconst 0, 1) := all_at dvX1_naming_0 7 rfl
theorem dX1_naming_12 : decode cX1_naming 12 = .ok (.istore 6, 2) := all_at dvX1_naming_0 8 rfl
theorem dX1_naming_14 : decode cX1_naming 14 = .ok (.iload 6, 2) := all_at dvX1_naming_0 9 rfl
theorem dX1_naming_16 : decode cX1_naming 16 = .ok (.aload_n 0, 1) := all_at dvX1_naming_0 10 rfl
theorem dX1_naming_17 : decode cX1_naming 17 = .ok (.getfield 35, 3) := all_at dvX1_naming_0 11 rfl
theorem dX1_naming_20 : decode cX1_naming 20 = .ok (.if_icmp .ge 66, 3) := all_at dvX1_naming_0 12 rfl
theorem dX1_naming_23 : decode cX1_naming 23 = .ok (.aload_n 0, 1) := all_at dvX1_naming_0 13 rfl
theorem dX1_naming_24 : decode cX1_naming 24 = .ok (.iload 6, 2) := all_at dvX1_naming_0 14 rfl
theorem dX1_naming_26 : decode cX1_naming 26 = .ok (.iload_n 1, 1) := all_at dvX1_naming_0 15 rfl
theorem dX1_naming_27 : decode cX1_naming 27 = .ok (.iload_n 2, 1) := all_at dvX1_naming_0 16 rfl
theorem dX1_naming_28 : decode cX1_naming 28 = .ok (.invokevirtual 53, 3) := all_at dvX1_naming_0 17 rfl
theorem dX1_naming_31 : decode cX1_naming 31 = .ok (.istore 7, 2) := all_at dvX1_naming_0 18 rfl
theorem dX1_naming_33 : decode cX1_naming 33 = .ok (.aload_n 0, 1) := all_at dvX1_naming_0 19 rfl
theorem dX1_naming_34 : decode cX1_naming 34 = .ok (.getfield 31, 3) := all_at dvX1_naming_0 20 rfl
theorem dX1_naming_37 : decode cX1_naming 37 = .ok (.iload 6, 2) := all_at dvX1_naming_0 21 rfl
theorem dX1_naming_39 : decode cX1_naming 39 = .ok (.baload, 1) := all_at dvX1_naming_0 22 rfl
theorem dX1_naming_40 : decode cX1_naming 40 = .ok (.ifCond .eq 40, 3) := all_at dvX1_naming_0 23 rfl
set_option maxRecDepth 100000 in
theorem dvX1_naming_43 : ([(43, .iload 7, 2), (45, .iconst (-1), 1), (46, .if_icmp .eq 34, 3), (49, .aload_n 0, 1), (50, .getfield 11, 3), (53, .iload 6, 2), (55, .iaload, 1), (56, .iload 5, 2), (58, .if_icmp .lt 22, 3), (61, .iload 6, 2), (63, .bipush 100, 2), (65, .imul, 1), (66, .iload 7, 2), (68, .iadd, 1), (69, .istore 4, 2), (71, .aload_n 0, 1), (72, .getfield 11, 3), (75, .iload 6, 2), (77, .iaload, 1), (78, .istore 5, 2), (80, .iinc 6 1, 3), (83, .goto (-69), 3), (86, .iload 4, 2), (88, .ireturn, 1)] : List (Nat × Instr × Nat)).all (fun q => decide (decode cX1_naming q.1 = .ok (q.2.1, q.2.2))) = true := by decide +kernel
theorem dX1_naming_43 : decode cX1_naming 43 = .ok (.iload 7, 2) := all_at dvX1_naming_43 0 rfl
theorem dX1_naming_45 : decode cX1_naming 45 = .ok (.iconst (-1), 1) := all_at dvX1_naming_43 1 rfl
theorem dX1_naming_46 : decode cX1_naming 46 = .ok (.if_icmp .eq 34, 3) := all_at dvX1_naming_43 2 rfl
theorem dX1_naming_49 : decode cX1_naming 49 = .ok (.aload_n 0, 1) := all_at dvX1_naming_43 3 rfl
theorem dX1_naming_50 : decode cX1_naming 50 = .ok (.getfield 11, 3) := all_at dvX1_naming_43 4 rfl
theorem dX1_naming_53 : decode cX1_naming 53 = .ok (.iload 6, 2) := all_at dvX1_naming_43 5 rfl
theorem dX1_naming_55 : decode cX1_naming 55 = .ok (.iaload, 1) := all_at dvX1_naming_43 6 rfl
theorem dX1_naming_56 : decode cX1_naming 56 = .ok (.iload 5, 2) := all_at dvX1_naming_43 7 rfl
theorem dX1_naming_58 : decode cX1_naming 58 = .ok (.if_icmp .lt 22, 3) := all_at dvX1_naming_43 8 rfl
theorem dX1_naming_61 : decode cX1_naming 61 = .ok (.iload 6, 2) := all_at dvX1_naming_43 9 rfl
theorem dX1_naming_63 : decode cX1_naming 63 = .ok (.bipush 100, 2) := all_at dvX1_naming_43 10 rfl
theorem dX1_naming_65 : decode cX1_naming 65 = .ok (.imul, 1) := all_at dvX1_naming_43 11 rfl
theorem dX1_naming_66 : decode cX1_naming 66 = .ok (.iload 7, 2) := all_at dvX1_naming_43 12 rfl
theorem dX1_naming_68 : decode cX1_naming 68 = .ok (.iadd, 1) := all_at dvX1_naming_43 13 rfl
theorem dX1_naming_69 : decode cX1_naming 69 = .ok (.istore 4, 2) := all_at dvX1_naming_43 14 rfl
theorem dX1_naming_71 : decode cX1_naming 71 = .ok (.aload_n 0, 1) := all_at dvX1_naming_43 15 rfl
theorem dX1_naming_72 : decode cX1_naming 72 = .ok (.getfield 11, 3) := all_at dvX1_naming_43 16 rfl
theorem dX1_naming_75 : decode cX1_naming 75 = .ok (.iload 6, 2) := all_at dvX1_naming_43 17 rfl
theorem dX1_naming_77 : decode cX1_naming 77 = .ok (.iaload, 1) := all_at dvX1_naming_43 18 rfl
theorem dX1_naming_78 : decode cX1_naming 78 = .ok (.istore 5, 2) := all_at dvX1_naming_43 19 rfl
theorem dX1_naming_80 : decode cX1_naming 80 = .ok (.iinc 6 1, 3) := all_at dvX1_naming_43 20 rfl
theorem dX1_naming_83 : decode cX1_naming 83 = .ok (.goto (-69), 3) := all_at dvX1_naming_43 21 rfl
theorem dX1_naming_86 : decode cX1_naming 86 = .ok (.iload 4, 2) := all_at dvX1_naming_43 22 rfl
theorem dX1_naming_88 : decode cX1_naming 88 = .ok (.ireturn, 1) := all_at dvX1_naming_43 23 rfl
set_option maxRecDepth 100000 in
theorem dvX1_startDraft_0 : ([(0, .aload_n 0, 1), (1, .iconst 0, 1), (2, .putfield 39, 3), (5, .return_, 1)] : List (Nat × Instr × Nat)).all (fun q => decide (decode cX1_startDraft q.1 = .ok (q.2.1, q.2.2))) = true := by decide +kernel
theorem dX1_startDraft_0 : decode cX1_startDraft 0 = .ok (.aload_n 0, 1) := all_at dvX1_startDraft_0 0 rfl
theorem dX1_startDraft_1 : decode cX1_startDraft 1 = .ok (.iconst 0, 1) := all_at dvX1_startDraft_0 1 rfl
theorem dX1_startDraft_2 : decode cX1_startDraft 2 = .ok (.putfield 39, 3) := all_at dvX1_startDraft_0 2 rfl
theorem dX1_startDraft_5 : decode cX1_startDraft 5 = .ok (.return_, 1) := all_at dvX1_startDraft_0 3 rfl
set_option maxRecDepth 100000 in
theorem dvX1_strikes_0 : ([(0, .iload_n 1, 1), (1, .bipush 12, 2), (3, .imul, 1), (4, .istore_n 3, 1), (5, .iload_n 3, 1), (6, .iload_n 1, 1), (7, .bipush 12, 2), (9, .imul, 1), (10, .aload_n 0, 1), (11, .getfield 15, 3), (14, .iload_n 1, 1), (15, .iaload, 1), (16, .iadd, 1), (17, .if_icmp .ge 32, 3), (20, .aload_n 0, 1), (21, .getfield 18, 3), (24, .iload_n 3, 1), (25, .iaload, 1), (26, .bipush 7, 2), (28, .if_icmp .ne 15, 3), (31, .aload_n 0, 1), (32, .getfield 21, 3), (35, .iload_n 3, 1), (36, .iaload, 1)] : List (Nat × Instr × Nat)).all (fun q => decide (decode cX1_strikes q.1 = .ok (q.2.1, q.2.2))) = true := by decide +kernel
theorem dX1_strikes_0 : decode cX1_strikes 0 = .ok (.iload_n 1, 1) := all_at dvX1_strikes_0 0 rfl
theorem dX1_strikes_1 : decode cX1_strikes 1 = .ok (.bipush 12, 2) := all_at dvX1_strikes_0 1 rfl
theorem dX1_strikes_3 : decode cX1_strikes 3 = .ok (.imul, 1) := all_at dvX1_strikes_0 2 rfl
theorem dX1_strikes_4 : decode cX1_strikes 4 = .ok (.istore_n 3, 1) := all_at dvX1_strikes_0 3 rfl
theorem dX1_strikes_5 : decode cX1_strikes 5 = .ok (.iload_n 3, 1) := all_at dvX1_strikes_0 4 rfl
theorem dX1_strikes_6 : decode cX1_strikes 6 = .ok (.iload_n 1, 1) := all_at dvX1_strikes_0 5 rfl
theorem dX1_strikes_7 : decode cX1_strikes 7 = .ok (.bipush 12, 2) := all_at dvX1_strikes_0 6 rfl
theorem dX1_strikes_9 : decode cX1_strikes 9 = .ok (.imul, 1) := all_at dvX1_strikes_0 7 rfl
theorem dX1_strikes_10 : decode cX1_strikes 10 = .ok (.aload_n 0, 1) := all_at dvX1_strikes_0 8 rfl
theorem dX1_strikes_11 : decode cX1_strikes 11 = .ok (.getfield 15, 3) := all_at dvX1_strikes_0 9 rfl
theorem dX1_strikes_14 : decode cX1_strikes 14 = .ok (.iload_n 1, 1) := all_at dvX1_strikes_0 10 rfl
theorem dX1_strikes_15 : decode cX1_strikes 15 = .ok (.iaload, 1) := all_at dvX1_strikes_0 11 rfl
theorem dX1_strikes_16 : decode cX1_strikes 16 = .ok (.iadd, 1) := all_at dvX1_strikes_0 12 rfl
theorem dX1_strikes_17 : decode cX1_strikes 17 = .ok (.if_icmp .ge 32, 3) := all_at dvX1_strikes_0 13 rfl
theorem dX1_strikes_20 : decode cX1_strikes 20 = .ok (.aload_n 0, 1) := all_at dvX1_strikes_0 14 rfl
theorem dX1_strikes_21 : decode cX1_strikes 21 = .ok (.getfield 18, 3) := all_at dvX1_strikes_0 15 rfl
theorem dX1_strikes_24 : decode cX1_strikes 24 = .ok (.iload_n 3, 1) := all_at dvX1_strikes_0 16 rfl
theorem dX1_strikes_25 : decode cX1_strikes 25 = .ok (.iaload, 1) := all_at dvX1_strikes_0 17 rfl
theorem dX1_strikes_26 : decode cX1_strikes 26 = .ok (.bipush 7, 2) := all_at dvX1_strikes_0 18 rfl
theorem dX1_strikes_28 : decode cX1_strikes 28 = .ok (.if_icmp .ne 15, 3) := all_at dvX1_strikes_0 19 rfl
theorem dX1_strikes_31 : decode cX1_strikes 31 = .ok (.aload_n 0, 1) := all_at dvX1_strikes_0 20 rfl
theorem dX1_strikes_32 : decode cX1_strikes 32 = .ok (.getfield 21, 3) := all_at dvX1_strikes_0 21 rfl
theorem dX1_strikes_35 : decode cX1_strikes 35 = .ok (.iload_n 3, 1) := all_at dvX1_strikes_0 22 rfl
theorem dX1_strikes_36 : decode cX1_strikes 36 = .ok (.iaload, 1) := all_at dvX1_strikes_0 23 rfl
set_option maxRecDepth 100000 in
theorem dvX1_strikes_37 : ([(37, .iload_n 2, 1), (38, .if_icmp .ne 5, 3), (41, .iconst 1, 1), (42, .ireturn, 1), (43, .iinc 3 1, 3), (46, .goto (-41), 3), (49, .iconst 0, 1), (50, .ireturn, 1)] : List (Nat × Instr × Nat)).all (fun q => decide (decode cX1_strikes q.1 = .ok (q.2.1, q.2.2))) = true := by decide +kernel
theorem dX1_strikes_37 : decode cX1_strikes 37 = .ok (.iload_n 2, 1) := all_at dvX1_strikes_37 0 rfl
theorem dX1_strikes_38 : decode cX1_strikes 38 = .ok (.if_icmp .ne 5, 3) := all_at dvX1_strikes_37 1 rfl
theorem dX1_strikes_41 : decode cX1_strikes 41 = .ok (.iconst 1, 1) := all_at dvX1_strikes_37 2 rfl
theorem dX1_strikes_42 : decode cX1_strikes 42 = .ok (.ireturn, 1) := all_at dvX1_strikes_37 3 rfl
theorem dX1_strikes_43 : decode cX1_strikes 43 = .ok (.iinc 3 1, 3) := all_at dvX1_strikes_37 4 rfl
theorem dX1_strikes_46 : decode cX1_strikes 46 = .ok (.goto (-41), 3) := all_at dvX1_strikes_37 5 rfl
theorem dX1_strikes_49 : decode cX1_strikes 49 = .ok (.iconst 0, 1) := all_at dvX1_strikes_37 6 rfl
theorem dX1_strikes_50 : decode cX1_strikes 50 = .ok (.ireturn, 1) := all_at dvX1_strikes_37 7 rfl
set_option maxHeartbeats 4000000 in
set_option maxRecDepth 100000 in
/-- X1_lastOf -/
theorem c_X1_lastOf (l : Launch) (dC : Nat → ClassId) (dI : Nat → Nat → Nat) (h : Nat) (g : Nat → Nat → Nat) (ca : Nat → Nat → ClassId) (iv : Nat → Nat → Int32) (lv : Nat → Nat → Int64) (fa : Nat → Nat → Nat → Int32) (la : Nat → Nat → Nat → Int64) (hI : IX iv fa) (a : Int32) (b : Int32) (h_a : 0 ≤ a.toInt ∧ a.toInt ≤ 7) : Met l yX1_lastOf (wc yX1_lastOf cX1_lastOf 5 (some .int)) ({ frames := 0, cells := 0, slots := 0, locals := 0 } : Room) (pR (dC, dI) classes (WX h g ca iv lv fa la) (TX ca) [.ref (g 11 3), .int a, .int b]) (vp_Si (fun r => (-1) ≤ r.toInt ∧ r.toInt ≤ 95)) 0 0 (fun _ => False) := by
  refine Met.ofW (cc := cX1_lastOf) (maxL := 5) (ret := (some .int)) (by decide) rfl ?_
  intro p e s m args below meth c s₁ B hml hv
  obtain ⟨rfl, hP, hK⟩ := hv
  have hx := B.exec
  have hb := B.bytes
  have hr := B.returns
  have ht := tb_tl (atoms_spec (ws := wc yX1_lastOf cX1_lastOf 5 (some .int)) B.pre)
  have hown : s.vm.findClass RX1 = some m.cls := findClass_of_methodNamed B.named
  have hlocks := B.notSynchronized
  have hl := lv_entry [.ref (g 11 3), .int a, .int b] (n := 5) (Nat.le_of_ble_eq_true rfl)
  rw [lg_entry_eq]
  generalize (lg_sl [.ref (g 11 3), .int a, .int b] ++ List.replicate (5 - (lg_sl [.ref (g 11 3), .int a, .int b]).length) Slot.unset).toArray = ls at hl ⊢
  have hl : lv_has ls 5 [(0, .ref (g 11 3)), (1, .int a), (2, .int b)] := hl
  refine lv_iconst (v := (-1)) hx hb dX1_lastOf_0 (by decide) ?_
  refine lv_istore_n (lv' := [(3, .int (-1)), (0, .ref (g 11 3)), (1, .int a), (2, .int b)]) hx hb dX1_lastOf_1 rfl hl (by decide) rfl (fun ls hl => ?_)
  refine lv_iload_n hx hb dX1_lastOf_2 rfl (lv_at hl 2 rfl) ?_
  refine lv_bipush (v := 12) hx hb dX1_lastOf_3 (by decide) ?_
  refine lv_imul hx hb dX1_lastOf_5 ?_
  refine lv_topi (fun v1 ev1 => ?_)
  have tv1 := z_mul ev1 (rfl : (a).toInt = _) (by decide : (12 : Int32).toInt = 12) (by omega) (by omega)
  refine lv_istore (lv' := [(4, .int v1), (3, .int (-1)), (0, .ref (g 11 3)), (1, .int a), (2, .int b)]) hx hb dX1_lastOf_6 hl (by decide) rfl (fun ls hl => ?_)
  have lp30 : ∀ (nn30 : Nat) (x29_4 : Int32) (x29_3 : Int32), 0 ≤ x29_4.toInt ∧ x29_4.toInt ≤ 96 → (-1) ≤ x29_3.toInt ∧ x29_3.toInt ≤ 95 → 96 - x29_4.toInt < (nn30 : Int) → ∀ (ls : Array Slot), lv_has ls 5 [(4, .int x29_4), (3, .int x29_3), (0, .ref (g 11 3)), (1, .int a), (2, .int b)] → W p l e ({ frames := 0, cells := 0, slots := 0, locals := 0 } : Room) s m ([.ref (g 11 3), .int a, .int b] : List Value).toArray below meth c s.heap [] 0 0 (MQ below (vp_Si (fun r => (-1) ≤ r.toInt ∧ r.toInt ≤ 95)) ([.ref (g 11 3), .int a, .int b] : List Value).toArray s 0 0 (fun _ => False)) (F0 m 8 ls []) := by
    intro nn30
    induction nn30 with
    | zero => intro x29_4 x29_3 hx29_4 hx29_3 hm30; exfalso; omega
    | succ nn30 ih30 =>
      intro x29_4 x29_3 hx29_4 hx29_3 hm30 ls hl
      refine lv_iload hx hb dX1_lastOf_8 (lv_at hl 0 rfl) ?_
      refine lv_iload_n hx hb dX1_lastOf_10 rfl (lv_at hl 3 rfl) ?_
      refine lv_bipush (v := 12) hx hb dX1_lastOf_11 (by decide) ?_
      refine lv_imul hx hb dX1_lastOf_13 ?_
      refine lv_topi (fun v31 ev31 => ?_)
      obtain rfl : v1 = v31 := ev1.trans ev31.symm
      refine lv_aload_n hx hb dX1_lastOf_14 rfl (lv_at hl 2 rfl) ?_
      refine gX_1_1 hx hb ht hown hK hP m_190 dX1_lastOf_15 ?_
      refine lv_iload_n hx hb dX1_lastOf_18 rfl (lv_at hl 3 rfl) ?_
      refine lX_1_1 hx hb hK hP (f := (fa 1 1)) rfl (vp_in_iff.mpr ⟨by omega, by omega⟩) dX1_lastOf_19 ?_
      refine lv_topi (fun v32 ev32 => ?_)
      have tv32 : 0 ≤ v32.toInt ∧ v32.toInt ≤ 12 := by rw [ev32]; exact hI.2 1 1 _
      refine lv_iadd hx hb dX1_lastOf_20 ?_
      refine lv_topi (fun v33 ev33 => ?_)
      have tv33 := z_add ev33 (rfl : (v1).toInt = _) (rfl : (v32).toInt = _) (by omega) (by omega)
      refine lv_icmp_ge (tgt := 44) hx hb dX1_lastOf_21 (by decide) (fun c34 => ?_) (fun c34 => ?_)
      · have fc34 := z_le (rfl : (v33).toInt = _) (rfl : (x29_4).toInt = _) c34
        refine lv_iload_n hx hb dX1_lastOf_44 rfl (lv_at hl 1 rfl) ?_
        exact W.iret (v := x29_3) hx hb hr (fun t ht9 hW => ⟨x29_3, rfl, ⟨by omega, by omega⟩, ht9⟩) (fun q hq => by cases hq) dX1_lastOf_45
      · have fc34 := z_nle (rfl : (v33).toInt = _) (rfl : (x29_4).toInt = _) c34
        refine lv_aload_n hx hb dX1_lastOf_24 rfl (lv_at hl 2 rfl) ?_
        refine gX_1_2 hx hb ht hown hK hP m_191 dX1_lastOf_25 ?_
        refine lv_iload hx hb dX1_lastOf_28 (lv_at hl 0 rfl) ?_
        refine lX_1_2 hx hb hK hP (f := (fa 1 2)) rfl (vp_in_iff.mpr ⟨by omega, by omega⟩) dX1_lastOf_30 ?_
        refine lv_topi (fun v35 ev35 => ?_)
        refine lv_iload_n hx hb dX1_lastOf_31 rfl (lv_at hl 4 rfl) ?_
        refine lv_icmp_ne (tgt := 38) hx hb dX1_lastOf_32 (by decide) (fun c36 => ?_) (fun c36 => ?_)
        · have fc36 := z_ne (rfl : (v35).toInt = _) (rfl : (b).toInt = _) c36
          obtain ⟨v37, ev37⟩ : ∃ y : Int32, y = x29_4 + 1 := ⟨_, rfl⟩
          have tv37 := z_add ev37 rfl (by decide : (1 : Int32).toInt = 1) (by omega) (by omega)
          refine lv_iinc (v := v37) (lv' := [(4, .int v37), (3, .int x29_3), (0, .ref (g 11 3)), (1, .int a), (2, .int b)]) hx hb dX1_lastOf_38 hl (k := 0) rfl (by rw [ev37]; rfl) (by decide) rfl (fun ls hl => ?_)
          refine lv_goto (tgt := 8) hx hb dX1_lastOf_41 (by decide) ?_
          exact ih30 v37 x29_3 ⟨by omega, by omega⟩ ⟨by omega, by omega⟩ (by omega) ls (lv_sub hl [0, 1, 2, 3, 4] rfl)
        · have fc36 := z_eq (rfl : (v35).toInt = _) (rfl : (b).toInt = _) c36
          refine lv_iload hx hb dX1_lastOf_35 (lv_at hl 0 rfl) ?_
          refine lv_istore_n (lv' := [(3, .int x29_4), (4, .int x29_4), (0, .ref (g 11 3)), (1, .int a), (2, .int b)]) hx hb dX1_lastOf_37 rfl hl (by decide) rfl (fun ls hl => ?_)
          obtain ⟨v38, ev38⟩ : ∃ y : Int32, y = x29_4 + 1 := ⟨_, rfl⟩
          have tv38 := z_add ev38 rfl (by decide : (1 : Int32).toInt = 1) (by omega) (by omega)
          refine lv_iinc (v := v38) (lv' := [(4, .int v38), (3, .int x29_4), (0, .ref (g 11 3)), (1, .int a), (2, .int b)]) hx hb dX1_lastOf_38 hl (k := 1) rfl (by rw [ev38]; rfl) (by decide) rfl (fun ls hl => ?_)
          refine lv_goto (tgt := 8) hx hb dX1_lastOf_41 (by decide) ?_
          exact ih30 v38 x29_4 ⟨by omega, by omega⟩ ⟨by omega, by omega⟩ (by omega) ls (lv_sub hl [0, 1, 2, 3, 4] rfl)
  exact lp30 97 v1 (-1) ⟨by omega, by omega⟩ ⟨by decide, by decide⟩ (by first | decide | omega) ls (lv_sub hl [0, 1, 2, 3, 4] rfl)
set_option maxHeartbeats 4000000 in
set_option maxRecDepth 100000 in
/-- X1_lastNaming -/
theorem c_X1_lastNaming (l : Launch) (dC : Nat → ClassId) (dI : Nat → Nat → Nat) (h : Nat) (g : Nat → Nat → Nat) (ca : Nat → Nat → ClassId) (iv : Nat → Nat → Int32) (lv : Nat → Nat → Int64) (fa : Nat → Nat → Nat → Int32) (la : Nat → Nat → Nat → Int64) (hI : IX iv fa) (a : Int32) (b : Int32) (d : Int32) (h_a : 0 ≤ a.toInt ∧ a.toInt ≤ 7) : Met l yX1_lastNaming (wc yX1_lastNaming cX1_lastNaming 7 (some .int)) ({ frames := 0, cells := 0, slots := 0, locals := 0 } : Room) (pR (dC, dI) classes (WX h g ca iv lv fa la) (TX ca) [.ref (g 11 3), .int a, .int b, .int d]) (vp_Si (fun r => (-1) ≤ r.toInt ∧ r.toInt ≤ 11)) 0 0 (fun _ => False) := by
  refine Met.ofW (cc := cX1_lastNaming) (maxL := 7) (ret := (some .int)) (by decide) rfl ?_
  intro p e s m args below meth c s₁ B hml hv
  obtain ⟨rfl, hP, hK⟩ := hv
  have hx := B.exec
  have hb := B.bytes
  have hr := B.returns
  have ht := tb_tl (atoms_spec (ws := wc yX1_lastNaming cX1_lastNaming 7 (some .int)) B.pre)
  have hown : s.vm.findClass RX1 = some m.cls := findClass_of_methodNamed B.named
  have hlocks := B.notSynchronized
  have hl := lv_entry [.ref (g 11 3), .int a, .int b, .int d] (n := 7) (Nat.le_of_ble_eq_true rfl)
  rw [lg_entry_eq]
  generalize (lg_sl [.ref (g 11 3), .int a, .int b, .int d] ++ List.replicate (7 - (lg_sl [.ref (g 11 3), .int a, .int b, .int d]).length) Slot.unset).toArray = ls at hl ⊢
  have hl : lv_has ls 7 [(0, .ref (g 11 3)), (1, .int a), (2, .int b), (3, .int d)] := hl
  refine lv_iconst (v := (-1)) hx hb dX1_lastNaming_0 (by decide) ?_
  refine lv_istore (lv' := [(4, .int (-1)), (0, .ref (g 11 3)), (1, .int a), (2, .int b), (3, .int d)]) hx hb dX1_lastNaming_1 hl (by decide) rfl (fun ls hl => ?_)
  refine lv_iconst (v := 0) hx hb dX1_lastNaming_3 (by decide) ?_
  refine lv_istore (lv' := [(5, .int 0), (4, .int (-1)), (0, .ref (g 11 3)), (1, .int a), (2, .int b), (3, .int d)]) hx hb dX1_lastNaming_4 hl (by decide) rfl (fun ls hl => ?_)
  have lp223 : ∀ (nn223 : Nat) (x222_5 : Int32) (x222_4 : Int32), 0 ≤ x222_5.toInt ∧ x222_5.toInt ≤ 12 → (-1) ≤ x222_4.toInt ∧ x222_4.toInt ≤ 11 → 12 - x222_5.toInt < (nn223 : Int) → ∀ (ls : Array Slot), lv_has ls 7 [(5, .int x222_5), (4, .int x222_4), (0, .ref (g 11 3)), (1, .int a), (2, .int b), (3, .int d)] → W p l e ({ frames := 0, cells := 0, slots := 0, locals := 0 } : Room) s m ([.ref (g 11 3), .int a, .int b, .int d] : List Value).toArray below meth c s.heap [] 0 0 (MQ below (vp_Si (fun r => (-1) ≤ r.toInt ∧ r.toInt ≤ 11)) ([.ref (g 11 3), .int a, .int b, .int d] : List Value).toArray s 0 0 (fun _ => False)) (F0 m 6 ls []) := by
    intro nn223
    induction nn223 with
    | zero => intro x222_5 x222_4 hx222_5 hx222_4 hm223; exfalso; omega
    | succ nn223 ih223 =>
      intro x222_5 x222_4 hx222_5 hx222_4 hm223 ls hl
      refine lv_iload hx hb dX1_lastNaming_6 (lv_at hl 0 rfl) ?_
      refine lv_aload_n hx hb dX1_lastNaming_8 rfl (lv_at hl 2 rfl) ?_
      refine gX_1_1 hx hb ht hown hK hP m_190 dX1_lastNaming_9 ?_
      refine lv_iload_n hx hb dX1_lastNaming_12 rfl (lv_at hl 3 rfl) ?_
      refine lX_1_1 hx hb hK hP (f := (fa 1 1)) rfl (vp_in_iff.mpr ⟨by omega, by omega⟩) dX1_lastNaming_13 ?_
      refine lv_topi (fun v224 ev224 => ?_)
      have tv224 : 0 ≤ v224.toInt ∧ v224.toInt ≤ 12 := by rw [ev224]; exact hI.2 1 1 _
      refine lv_icmp_ge (tgt := 74) hx hb dX1_lastNaming_14 (by decide) (fun c225 => ?_) (fun c225 => ?_)
      · have fc225 := z_le (rfl : (v224).toInt = _) (rfl : (x222_5).toInt = _) c225
        refine lv_iload hx hb dX1_lastNaming_74 (lv_at hl 1 rfl) ?_
        exact W.iret (v := x222_4) hx hb hr (fun t ht9 hW => ⟨x222_4, rfl, ⟨by omega, by omega⟩, ht9⟩) (fun q hq => by cases hq) dX1_lastNaming_76
      · have fc225 := z_nle (rfl : (v224).toInt = _) (rfl : (x222_5).toInt = _) c225
        refine lv_iload_n hx hb dX1_lastNaming_17 rfl (lv_at hl 3 rfl) ?_
        refine lv_bipush (v := 12) hx hb dX1_lastNaming_18 (by decide) ?_
        refine lv_imul hx hb dX1_lastNaming_20 ?_
        refine lv_topi (fun v226 ev226 => ?_)
        have tv226 := z_mul ev226 (rfl : (a).toInt = _) (by decide : (12 : Int32).toInt = 12) (by omega) (by omega)
        refine lv_iload hx hb dX1_lastNaming_21 (lv_at hl 0 rfl) ?_
        refine lv_iadd hx hb dX1_lastNaming_23 ?_
        refine lv_topi (fun v227 ev227 => ?_)
        have tv227 := z_add ev227 (rfl : (v226).toInt = _) (rfl : (x222_5).toInt = _) (by omega) (by omega)
        refine lv_istore (lv' := [(6, .int v227), (5, .int x222_5), (4, .int x222_4), (0, .ref (g 11 3)), (1, .int a), (2, .int b), (3, .int d)]) hx hb dX1_lastNaming_24 hl (by decide) rfl (fun ls hl => ?_)
        refine lv_aload_n hx hb dX1_lastNaming_26 rfl (lv_at hl 3 rfl) ?_
        refine gX_1_2 hx hb ht hown hK hP m_191 dX1_lastNaming_27 ?_
        refine lv_iload hx hb dX1_lastNaming_30 (lv_at hl 0 rfl) ?_
        refine lX_1_2 hx hb hK hP (f := (fa 1 2)) rfl (vp_in_iff.mpr ⟨by omega, by omega⟩) dX1_lastNaming_32 ?_
        refine lv_topi (fun v228 ev228 => ?_)
        refine lv_bipush (v := 6) hx hb dX1_lastNaming_33 (by decide) ?_
        refine lv_icmp_ne (tgt := 68) hx hb dX1_lastNaming_35 (by decide) (fun c229 => ?_) (fun c229 => ?_)
        · have fc229 := z_ne (rfl : (v228).toInt = _) (by decide : (6 : Int32).toInt = 6) c229
          obtain ⟨v230, ev230⟩ : ∃ y : Int32, y = x222_5 + 1 := ⟨_, rfl⟩
          have tv230 := z_add ev230 rfl (by decide : (1 : Int32).toInt = 1) (by omega) (by omega)
          refine lv_iinc (v := v230) (lv' := [(5, .int v230), (6, .int v227), (4, .int x222_4), (0, .ref (g 11 3)), (1, .int a), (2, .int b), (3, .int d)]) hx hb dX1_lastNaming_68 hl (k := 1) rfl (by rw [ev230]; rfl) (by decide) rfl (fun ls hl => ?_)
          refine lv_goto (tgt := 6) hx hb dX1_lastNaming_71 (by decide) ?_
          exact ih223 v230 x222_4 ⟨by omega, by omega⟩ ⟨by omega, by omega⟩ (by omega) ls (lv_sub hl [0, 2, 3, 4, 5, 6] rfl)
        · have fc229 := z_eq (rfl : (v228).toInt = _) (by decide : (6 : Int32).toInt = 6) c229
          refine lv_aload_n hx hb dX1_lastNaming_38 rfl (lv_at hl 3 rfl) ?_
          refine gX_1_3 hx hb ht hown hK hP m_192 dX1_lastNaming_39 ?_
          refine lv_iload hx hb dX1_lastNaming_42 (lv_at hl 0 rfl) ?_
          refine lX_1_3 hx hb hK hP (f := (fa 1 3)) rfl (vp_in_iff.mpr ⟨by omega, by omega⟩) dX1_lastNaming_44 ?_
          refine lv_topi (fun v231 ev231 => ?_)
          refine lv_iload_n hx hb dX1_lastNaming_45 rfl (lv_at hl 6 rfl) ?_
          refine lv_imul hx hb dX1_lastNaming_46 ?_
          refine lv_topi (fun v232 ev232 => ?_)
          refine lv_iload_n hx hb dX1_lastNaming_47 rfl (lv_at hl 5 rfl) ?_
          refine lv_icmp_gt (tgt := 68) hx hb dX1_lastNaming_48 (by decide) (fun c233 => ?_) (fun c233 => ?_)
          · have fc233 := z_lt (rfl : (b).toInt = _) (rfl : (v232).toInt = _) c233
            obtain ⟨v234, ev234⟩ : ∃ y : Int32, y = x222_5 + 1 := ⟨_, rfl⟩
            have tv234 := z_add ev234 rfl (by decide : (1 : Int32).toInt = 1) (by omega) (by omega)
            refine lv_iinc (v := v234) (lv' := [(5, .int v234), (6, .int v227), (4, .int x222_4), (0, .ref (g 11 3)), (1, .int a), (2, .int b), (3, .int d)]) hx hb dX1_lastNaming_68 hl (k := 1) rfl (by rw [ev234]; rfl) (by decide) rfl (fun ls hl => ?_)
            refine lv_goto (tgt := 6) hx hb dX1_lastNaming_71 (by decide) ?_
            exact ih223 v234 x222_4 ⟨by omega, by omega⟩ ⟨by omega, by omega⟩ (by omega) ls (lv_sub hl [0, 2, 3, 4, 5, 6] rfl)
          · have fc233 := z_nlt (rfl : (b).toInt = _) (rfl : (v232).toInt = _) c233
            refine lv_iload_n hx hb dX1_lastNaming_51 rfl (lv_at hl 5 rfl) ?_
            refine lv_aload_n hx hb dX1_lastNaming_52 rfl (lv_at hl 3 rfl) ?_
            refine gX_1_4 hx hb ht hown hK hP m_193 dX1_lastNaming_53 ?_
            refine lv_iload hx hb dX1_lastNaming_56 (lv_at hl 0 rfl) ?_
            refine lX_1_4 hx hb hK hP (f := (fa 1 4)) rfl (vp_in_iff.mpr ⟨by omega, by omega⟩) dX1_lastNaming_58 ?_
            refine lv_topi (fun v235 ev235 => ?_)
            refine lv_iload_n hx hb dX1_lastNaming_59 rfl (lv_at hl 6 rfl) ?_
            refine lv_imul hx hb dX1_lastNaming_60 ?_
            refine lv_topi (fun v236 ev236 => ?_)
            refine lv_icmp_ge (tgt := 68) hx hb dX1_lastNaming_61 (by decide) (fun c237 => ?_) (fun c237 => ?_)
            · have fc237 := z_le (rfl : (v236).toInt = _) (rfl : (b).toInt = _) c237
              obtain ⟨v238, ev238⟩ : ∃ y : Int32, y = x222_5 + 1 := ⟨_, rfl⟩
              have tv238 := z_add ev238 rfl (by decide : (1 : Int32).toInt = 1) (by omega) (by omega)
              refine lv_iinc (v := v238) (lv' := [(5, .int v238), (6, .int v227), (4, .int x222_4), (0, .ref (g 11 3)), (1, .int a), (2, .int b), (3, .int d)]) hx hb dX1_lastNaming_68 hl (k := 1) rfl (by rw [ev238]; rfl) (by decide) rfl (fun ls hl => ?_)
              refine lv_goto (tgt := 6) hx hb dX1_lastNaming_71 (by decide) ?_
              exact ih223 v238 x222_4 ⟨by omega, by omega⟩ ⟨by omega, by omega⟩ (by omega) ls (lv_sub hl [0, 2, 3, 4, 5, 6] rfl)
            · have fc237 := z_nle (rfl : (v236).toInt = _) (rfl : (b).toInt = _) c237
              refine lv_iload hx hb dX1_lastNaming_64 (lv_at hl 1 rfl) ?_
              refine lv_istore (lv' := [(4, .int x222_5), (6, .int v227), (5, .int x222_5), (0, .ref (g 11 3)), (1, .int a), (2, .int b), (3, .int d)]) hx hb dX1_lastNaming_66 hl (by decide) rfl (fun ls hl => ?_)
              obtain ⟨v239, ev239⟩ : ∃ y : Int32, y = x222_5 + 1 := ⟨_, rfl⟩
              have tv239 := z_add ev239 rfl (by decide : (1 : Int32).toInt = 1) (by omega) (by omega)
              refine lv_iinc (v := v239) (lv' := [(5, .int v239), (4, .int x222_5), (6, .int v227), (0, .ref (g 11 3)), (1, .int a), (2, .int b), (3, .int d)]) hx hb dX1_lastNaming_68 hl (k := 2) rfl (by rw [ev239]; rfl) (by decide) rfl (fun ls hl => ?_)
              refine lv_goto (tgt := 6) hx hb dX1_lastNaming_71 (by decide) ?_
              exact ih223 v239 x222_5 ⟨by omega, by omega⟩ ⟨by omega, by omega⟩ (by omega) ls (lv_sub hl [0, 1, 3, 4, 5, 6] rfl)
  exact lp223 13 0 (-1) ⟨by decide, by decide⟩ ⟨by decide, by decide⟩ (by first | decide | omega) ls (lv_sub hl [0, 1, 2, 3, 4, 5] rfl)
set_option maxHeartbeats 4000000 in
set_option maxRecDepth 100000 in
/-- X1_strikes -/
theorem c_X1_strikes (l : Launch) (dC : Nat → ClassId) (dI : Nat → Nat → Nat) (h : Nat) (g : Nat → Nat → Nat) (ca : Nat → Nat → ClassId) (iv : Nat → Nat → Int32) (lv : Nat → Nat → Int64) (fa : Nat → Nat → Nat → Int32) (la : Nat → Nat → Nat → Int64) (hI : IX iv fa) (a : Int32) (b : Int32) (h_a : 0 ≤ a.toInt ∧ a.toInt ≤ 7) : Met l yX1_strikes (wc yX1_strikes cX1_strikes 4 (some .boolean)) ({ frames := 0, cells := 0, slots := 0, locals := 0 } : Room) (pR (dC, dI) classes (WX h g ca iv lv fa la) (TX ca) [.ref (g 11 3), .int a, .int b]) (vp_Si (fun r => 0 ≤ r.toInt ∧ r.toInt ≤ 1)) 0 0 (fun _ => False) := by
  refine Met.ofW (cc := cX1_strikes) (maxL := 4) (ret := (some .boolean)) (by decide) rfl ?_
  intro p e s m args below meth c s₁ B hml hv
  obtain ⟨rfl, hP, hK⟩ := hv
  have hx := B.exec
  have hb := B.bytes
  have hr := B.returns
  have ht := tb_tl (atoms_spec (ws := wc yX1_strikes cX1_strikes 4 (some .boolean)) B.pre)
  have hown : s.vm.findClass RX1 = some m.cls := findClass_of_methodNamed B.named
  have hlocks := B.notSynchronized
  have hl := lv_entry [.ref (g 11 3), .int a, .int b] (n := 4) (Nat.le_of_ble_eq_true rfl)
  rw [lg_entry_eq]
  generalize (lg_sl [.ref (g 11 3), .int a, .int b] ++ List.replicate (4 - (lg_sl [.ref (g 11 3), .int a, .int b]).length) Slot.unset).toArray = ls at hl ⊢
  have hl : lv_has ls 4 [(0, .ref (g 11 3)), (1, .int a), (2, .int b)] := hl
  refine lv_iload_n hx hb dX1_strikes_0 rfl (lv_at hl 1 rfl) ?_
  refine lv_bipush (v := 12) hx hb dX1_strikes_1 (by decide) ?_
  refine lv_imul hx hb dX1_strikes_3 ?_
  refine lv_topi (fun v1 ev1 => ?_)
  have tv1 := z_mul ev1 (rfl : (a).toInt = _) (by decide : (12 : Int32).toInt = 12) (by omega) (by omega)
  refine lv_istore_n (lv' := [(3, .int v1), (0, .ref (g 11 3)), (1, .int a), (2, .int b)]) hx hb dX1_strikes_4 rfl hl (by decide) rfl (fun ls hl => ?_)
  have lp36 : ∀ (nn36 : Nat) (x35_3 : Int32), 0 ≤ x35_3.toInt ∧ x35_3.toInt ≤ 96 → 96 - x35_3.toInt < (nn36 : Int) → ∀ (ls : Array Slot), lv_has ls 4 [(3, .int x35_3), (0, .ref (g 11 3)), (1, .int a), (2, .int b)] → W p l e ({ frames := 0, cells := 0, slots := 0, locals := 0 } : Room) s m ([.ref (g 11 3), .int a, .int b] : List Value).toArray below meth c s.heap [] 0 0 (MQ below (vp_Si (fun r => 0 ≤ r.toInt ∧ r.toInt ≤ 1)) ([.ref (g 11 3), .int a, .int b] : List Value).toArray s 0 0 (fun _ => False)) (F0 m 5 ls []) := by
    intro nn36
    induction nn36 with
    | zero => intro x35_3 hx35_3 hm36; exfalso; omega
    | succ nn36 ih36 =>
      intro x35_3 hx35_3 hm36 ls hl
      refine lv_iload_n hx hb dX1_strikes_5 rfl (lv_at hl 0 rfl) ?_
      refine lv_iload_n hx hb dX1_strikes_6 rfl (lv_at hl 2 rfl) ?_
      refine lv_bipush (v := 12) hx hb dX1_strikes_7 (by decide) ?_
      refine lv_imul hx hb dX1_strikes_9 ?_
      refine lv_topi (fun v37 ev37 => ?_)
      obtain rfl : v1 = v37 := ev1.trans ev37.symm
      refine lv_aload_n hx hb dX1_strikes_10 rfl (lv_at hl 1 rfl) ?_
      refine gX_1_1 hx hb ht hown hK hP m_190 dX1_strikes_11 ?_
      refine lv_iload_n hx hb dX1_strikes_14 rfl (lv_at hl 2 rfl) ?_
      refine lX_1_1 hx hb hK hP (f := (fa 1 1)) rfl (vp_in_iff.mpr ⟨by omega, by omega⟩) dX1_strikes_15 ?_
      refine lv_topi (fun v38 ev38 => ?_)
      have tv38 : 0 ≤ v38.toInt ∧ v38.toInt ≤ 12 := by rw [ev38]; exact hI.2 1 1 _
      refine lv_iadd hx hb dX1_strikes_16 ?_
      refine lv_topi (fun v39 ev39 => ?_)
      have tv39 := z_add ev39 (rfl : (v1).toInt = _) (rfl : (v38).toInt = _) (by omega) (by omega)
      refine lv_icmp_ge (tgt := 49) hx hb dX1_strikes_17 (by decide) (fun c40 => ?_) (fun c40 => ?_)
      · have fc40 := z_le (rfl : (v39).toInt = _) (rfl : (x35_3).toInt = _) c40
        refine lv_iconst (v := 0) hx hb dX1_strikes_49 (by decide) ?_
        exact W.zret (v := 0) hx hb hr rfl (fun t ht9 hW => ⟨0, rfl, ⟨by decide, by decide⟩, ht9⟩) (fun q hq => by cases hq) dX1_strikes_50
      · have fc40 := z_nle (rfl : (v39).toInt = _) (rfl : (x35_3).toInt = _) c40
        refine lv_aload_n hx hb dX1_strikes_20 rfl (lv_at hl 1 rfl) ?_
        refine gX_1_2 hx hb ht hown hK hP m_191 dX1_strikes_21 ?_
        refine lv_iload_n hx hb dX1_strikes_24 rfl (lv_at hl 0 rfl) ?_
        refine lX_1_2 hx hb hK hP (f := (fa 1 2)) rfl (vp_in_iff.mpr ⟨by omega, by omega⟩) dX1_strikes_25 ?_
        refine lv_topi (fun v41 ev41 => ?_)
        refine lv_bipush (v := 7) hx hb dX1_strikes_26 (by decide) ?_
        refine lv_icmp_ne (tgt := 43) hx hb dX1_strikes_28 (by decide) (fun c42 => ?_) (fun c42 => ?_)
        · have fc42 := z_ne (rfl : (v41).toInt = _) (by decide : (7 : Int32).toInt = 7) c42
          obtain ⟨v43, ev43⟩ : ∃ y : Int32, y = x35_3 + 1 := ⟨_, rfl⟩
          have tv43 := z_add ev43 rfl (by decide : (1 : Int32).toInt = 1) (by omega) (by omega)
          refine lv_iinc (v := v43) (lv' := [(3, .int v43), (0, .ref (g 11 3)), (1, .int a), (2, .int b)]) hx hb dX1_strikes_43 hl (k := 0) rfl (by rw [ev43]; rfl) (by decide) rfl (fun ls hl => ?_)
          refine lv_goto (tgt := 5) hx hb dX1_strikes_46 (by decide) ?_
          exact ih36 v43 ⟨by omega, by omega⟩ (by omega) ls (lv_sub hl [0, 1, 2, 3] rfl)
        · have fc42 := z_eq (rfl : (v41).toInt = _) (by decide : (7 : Int32).toInt = 7) c42
          refine lv_aload_n hx hb dX1_strikes_31 rfl (lv_at hl 1 rfl) ?_
          refine gX_1_3 hx hb ht hown hK hP m_192 dX1_strikes_32 ?_
          refine lv_iload_n hx hb dX1_strikes_35 rfl (lv_at hl 0 rfl) ?_
          refine lX_1_3 hx hb hK hP (f := (fa 1 3)) rfl (vp_in_iff.mpr ⟨by omega, by omega⟩) dX1_strikes_36 ?_
          refine lv_topi (fun v44 ev44 => ?_)
          refine lv_iload_n hx hb dX1_strikes_37 rfl (lv_at hl 3 rfl) ?_
          refine lv_icmp_ne (tgt := 43) hx hb dX1_strikes_38 (by decide) (fun c45 => ?_) (fun c45 => ?_)
          · have fc45 := z_ne (rfl : (v44).toInt = _) (rfl : (b).toInt = _) c45
            obtain ⟨v46, ev46⟩ : ∃ y : Int32, y = x35_3 + 1 := ⟨_, rfl⟩
            have tv46 := z_add ev46 rfl (by decide : (1 : Int32).toInt = 1) (by omega) (by omega)
            refine lv_iinc (v := v46) (lv' := [(3, .int v46), (0, .ref (g 11 3)), (1, .int a), (2, .int b)]) hx hb dX1_strikes_43 hl (k := 0) rfl (by rw [ev46]; rfl) (by decide) rfl (fun ls hl => ?_)
            refine lv_goto (tgt := 5) hx hb dX1_strikes_46 (by decide) ?_
            exact ih36 v46 ⟨by omega, by omega⟩ (by omega) ls (lv_sub hl [0, 1, 2, 3] rfl)
          · have fc45 := z_eq (rfl : (v44).toInt = _) (rfl : (b).toInt = _) c45
            refine lv_iconst (v := 1) hx hb dX1_strikes_41 (by decide) ?_
            exact W.zret (v := 1) hx hb hr rfl (fun t ht9 hW => ⟨1, rfl, ⟨by decide, by decide⟩, ht9⟩) (fun q hq => by cases hq) dX1_strikes_42
  exact lp36 97 v1 ⟨by omega, by omega⟩ (by first | decide | omega) ls (lv_sub hl [0, 1, 2, 3] rfl)
set_option maxHeartbeats 4000000 in
set_option maxRecDepth 100000 in
/-- X1_isStruck -/
theorem c_X1_isStruck (l : Launch) (dC : Nat → ClassId) (dI : Nat → Nat → Nat) (h : Nat) (g : Nat → Nat → Nat) (ca : Nat → Nat → ClassId) (iv : Nat → Nat → Int32) (lv : Nat → Nat → Int64) (fa : Nat → Nat → Nat → Int32) (la : Nat → Nat → Nat → Int64) (hI : IX iv fa) (a : Int32) (h_a : 0 ≤ a.toInt ∧ a.toInt ≤ 7) : Met l yX1_isStruck (wc yX1_isStruck cX1_isStruck 3 (some .boolean)) ({ frames := 1, cells := 0, slots := 0, locals := 23 } : Room) (pR (dC, dI) classes (WX h g ca iv lv fa la) (TX ca) [.ref (g 11 3), .int a]) (vp_Si (fun r => 0 ≤ r.toInt ∧ r.toInt ≤ 1)) 0 0 (fun _ => False) := by
  refine Met.ofW (cc := cX1_isStruck) (maxL := 3) (ret := (some .boolean)) (by decide) rfl ?_
  intro p e s m args below meth c s₁ B hml hv
  obtain ⟨rfl, hP, hK⟩ := hv
  have hx := B.exec
  have hb := B.bytes
  have hr := B.returns
  have ht := tb_tl (atoms_spec (ws := wc yX1_isStruck cX1_isStruck 3 (some .boolean)) B.pre)
  have hown : s.vm.findClass RX1 = some m.cls := findClass_of_methodNamed B.named
  have hlocks := B.notSynchronized
  have hl := lv_entry [.ref (g 11 3), .int a] (n := 3) (Nat.le_of_ble_eq_true rfl)
  rw [lg_entry_eq]
  generalize (lg_sl [.ref (g 11 3), .int a] ++ List.replicate (3 - (lg_sl [.ref (g 11 3), .int a]).length) Slot.unset).toArray = ls at hl ⊢
  have hl : lv_has ls 3 [(0, .ref (g 11 3)), (1, .int a)] := hl
  refine lv_iload_n hx hb dX1_isStruck_0 rfl (lv_at hl 1 rfl) ?_
  refine lv_iconst (v := 1) hx hb dX1_isStruck_1 (by decide) ?_
  refine lv_iadd hx hb dX1_isStruck_2 ?_
  refine lv_topi (fun v1 ev1 => ?_)
  have tv1 := z_add ev1 (rfl : (a).toInt = _) (by decide : (1 : Int32).toInt = 1) (by omega) (by omega)
  refine lv_istore_n (lv' := [(2, .int v1), (0, .ref (g 11 3)), (1, .int a)]) hx hb dX1_isStruck_3 rfl hl (by decide) rfl (fun ls hl => ?_)
  have lp11 : ∀ (nn11 : Nat) (x10_2 : Int32), 1 ≤ x10_2.toInt ∧ x10_2.toInt ≤ 8 → 8 - x10_2.toInt < (nn11 : Int) → ∀ (ls : Array Slot), lv_has ls 3 [(2, .int x10_2), (0, .ref (g 11 3)), (1, .int a)] → W p l e ({ frames := 1, cells := 0, slots := 0, locals := 23 } : Room) s m ([.ref (g 11 3), .int a] : List Value).toArray below meth c s.heap [] 0 0 (MQ below (vp_Si (fun r => 0 ≤ r.toInt ∧ r.toInt ≤ 1)) ([.ref (g 11 3), .int a] : List Value).toArray s 0 0 (fun _ => False)) (F0 m 4 ls []) := by
    intro nn11
    induction nn11 with
    | zero => intro x10_2 hx10_2 hm11; exfalso; omega
    | succ nn11 ih11 =>
      intro x10_2 hx10_2 hm11 ls hl
      refine lv_iload_n hx hb dX1_isStruck_4 rfl (lv_at hl 0 rfl) ?_
      refine lv_aload_n hx hb dX1_isStruck_5 rfl (lv_at hl 1 rfl) ?_
      have i_1_7 : 0 ≤ (iv 1 7).toInt ∧ (iv 1 7).toInt ≤ 8 := hI.1 1 7
      refine gX_1_7 hx hb ht hown hK hP m_196 (v := (iv 1 7)) rfl dX1_isStruck_6 ?_
      refine lv_icmp_ge (tgt := 38) hx hb dX1_isStruck_9 (by decide) (fun c12 => ?_) (fun c12 => ?_)
      · have fc12 := z_le (rfl : ((iv 1 7)).toInt = _) (rfl : (x10_2).toInt = _) c12
        refine lv_iconst (v := 0) hx hb dX1_isStruck_38 (by decide) ?_
        exact W.zret (v := 0) hx hb hr rfl (fun t ht9 hW => ⟨0, rfl, ⟨by decide, by decide⟩, ht9⟩) (fun q hq => by cases hq) dX1_isStruck_39
      · have fc12 := z_nle (rfl : ((iv 1 7)).toInt = _) (rfl : (x10_2).toInt = _) c12
        refine lv_aload_n hx hb dX1_isStruck_12 rfl (lv_at hl 1 rfl) ?_
        refine gX_1_6 hx hb ht hown hK hP m_195 dX1_isStruck_13 ?_
        refine lv_iload_n hx hb dX1_isStruck_16 rfl (lv_at hl 0 rfl) ?_
        refine lX_1_6 hx hb hK hP (f := (fa 1 6)) rfl (vp_in_iff.mpr ⟨by omega, by omega⟩) dX1_isStruck_17 ?_
        refine lv_topi (fun v13 ev13 => ?_)
        have tv13 : 0 ≤ v13.toInt ∧ v13.toInt ≤ 1 := by rw [ev13]; exact hI.2 1 6 _
        refine lv_if_eq (tgt := 32) hx hb dX1_isStruck_18 (by decide) (fun c14 => ?_) (fun c14 => ?_)
        · have fc14 := z_eq (rfl : (v13).toInt = _) (by decide : (0 : Int32).toInt = 0) c14
          obtain ⟨v15, ev15⟩ : ∃ y : Int32, y = x10_2 + 1 := ⟨_, rfl⟩
          have tv15 := z_add ev15 rfl (by decide : (1 : Int32).toInt = 1) (by omega) (by omega)
          refine lv_iinc (v := v15) (lv' := [(2, .int v15), (0, .ref (g 11 3)), (1, .int a)]) hx hb dX1_isStruck_32 hl (k := 0) rfl (by rw [ev15]; rfl) (by decide) rfl (fun ls hl => ?_)
          refine lv_goto (tgt := 4) hx hb dX1_isStruck_35 (by decide) ?_
          exact ih11 v15 ⟨by omega, by omega⟩ (by omega) ls (lv_sub hl [0, 1, 2] rfl)
        · have fc14 := z_ne (rfl : (v13).toInt = _) (by decide : (0 : Int32).toInt = 0) c14
          refine lv_aload_n hx hb dX1_isStruck_21 rfl (lv_at hl 1 rfl) ?_
          refine lv_iload_n hx hb dX1_isStruck_22 rfl (lv_at hl 0 rfl) ?_
          refine lv_iload_n hx hb dX1_isStruck_23 rfl (lv_at hl 2 rfl) ?_
          refine vp_callSi (W.runV (As := [.int x10_2, .int a]) (rest := []) ⟨hx, hb, hml, hown, ht⟩ (c_X1_strikes l dC dI h g ca iv lv fa la hI x10_2 a ⟨by omega, by omega⟩) (kV 2 ht m_612 m_614 m_7 m_81 m_615 rfl rfl hd_X1_strikes_v ⟨Nat.le_of_ble_eq_true rfl, Nat.le_of_ble_eq_true rfl⟩) (vR hP hK (rX_1 hK hP)) rfl rfl hl.1 rfl (lv_room (Nat.le_of_ble_eq_true rfl)) dX1_isStruck_24 ⟨Nat.le_of_ble_eq_true rfl, Nat.le_of_ble_eq_true rfl⟩) (fun r16 hr16 => ?_)
          refine lv_if_eq (tgt := 32) hx hb dX1_isStruck_27 (by decide) (fun c17 => ?_) (fun c17 => ?_)
          · have fc17 := z_eq (rfl : (r16).toInt = _) (by decide : (0 : Int32).toInt = 0) c17
            obtain ⟨v18, ev18⟩ : ∃ y : Int32, y = x10_2 + 1 := ⟨_, rfl⟩
            have tv18 := z_add ev18 rfl (by decide : (1 : Int32).toInt = 1) (by omega) (by omega)
            refine lv_iinc (v := v18) (lv' := [(2, .int v18), (0, .ref (g 11 3)), (1, .int a)]) hx hb dX1_isStruck_32 hl (k := 0) rfl (by rw [ev18]; rfl) (by decide) rfl (fun ls hl => ?_)
            refine lv_goto (tgt := 4) hx hb dX1_isStruck_35 (by decide) ?_
            exact ih11 v18 ⟨by omega, by omega⟩ (by omega) ls (lv_sub hl [0, 1, 2] rfl)
          · have fc17 := z_ne (rfl : (r16).toInt = _) (by decide : (0 : Int32).toInt = 0) c17
            refine lv_iconst (v := 1) hx hb dX1_isStruck_30 (by decide) ?_
            exact W.zret (v := 1) hx hb hr rfl (fun t ht9 hW => ⟨1, rfl, ⟨by decide, by decide⟩, ht9⟩) (fun q hq => by cases hq) dX1_isStruck_31
  exact lp11 8 v1 ⟨by omega, by omega⟩ (by first | decide | omega) ls (lv_sub hl [0, 1, 2] rfl)
set_option maxHeartbeats 4000000 in
set_option maxRecDepth 100000 in
/-- X1_findCounting -/
theorem c_X1_findCounting (l : Launch) (dC : Nat → ClassId) (dI : Nat → Nat → Nat) (sz : Nat) (h : Nat) (g : Nat → Nat → Nat) (ca : Nat → Nat → ClassId) (iv : Nat → Nat → Int32) (lv : Nat → Nat → Int64) (fa : Nat → Nat → Nat → Int32) (la : Nat → Nat → Nat → Int64) (hI : IX iv fa) (a : Int32) : Met l yX1_findCounting (wc yX1_findCounting cX1_findCounting 3 none) ({ frames := 2, cells := 0, slots := 0, locals := 45 } : Room) (pW (dC, dI) classes (WX h g ca iv lv fa la) (TX ca) sz [.ref (g 11 3), .int a]) (va_Qv (fun (u : SS) => ∃ (na_1_6 : Nat → Int32), (∀ j, inb (bA 1 6 j) (na_1_6 j)) ∧ u = (iv, lv, (u2 fa 1 6 na_1_6), la)) (bX (dC, dI) h g ca (va_A (WX h g ca iv lv fa la) sz)) (va_A (WX h g ca iv lv fa la) sz)) 0 0 (va_A (WX h g ca iv lv fa la) sz) := by
  refine Met.ofW (cc := cX1_findCounting) (maxL := 3) (ret := none) (by decide) rfl ?_
  intro p e s m args below meth c s₁ B hml hv
  obtain ⟨rfl, hsz, hP, hK, hD0⟩ := hv
  have hx := B.exec
  have hb := B.bytes
  have hr := B.returns
  have ht := tb_tl (atoms_spec (ws := wc yX1_findCounting cX1_findCounting 3 none) B.pre)
  have hown : s.vm.findClass RX1 = some m.cls := findClass_of_methodNamed B.named
  have hlocks := B.notSynchronized
  subst hsz
  have hD := hD0.self (sz := s.heap.size)
  generalize hAe : va_A (WX h g ca iv lv fa la) s.heap.size = A at hD ⊢
  have hA : ∀ q : Nat, s.heap.size ≤ q → A q := fun q h => by rw [← hAe]; exact Or.inr h
  have hS : va_S A s.heap s.heap [] := va_S.rf
  have hl := lv_entry [.ref (g 11 3), .int a] (n := 3) (Nat.le_of_ble_eq_true rfl)
  rw [lg_entry_eq]
  generalize (lg_sl [.ref (g 11 3), .int a] ++ List.replicate (3 - (lg_sl [.ref (g 11 3), .int a]).length) Slot.unset).toArray = ls at hl ⊢
  have hl : lv_has ls 3 [(0, .ref (g 11 3)), (1, .int a)] := hl
  refine lv_aload_n hx hb dX1_findCounting_0 rfl (lv_at hl 0 rfl) ?_
  have i_1_7 : 0 ≤ (iv 1 7).toInt ∧ (iv 1 7).toInt ≤ 8 := hI.1 1 7
  refine gX_1_7 hx hb ht hown hK hP m_196 (v := (iv 1 7)) rfl dX1_findCounting_1 ?_
  refine lv_iconst (v := 1) hx hb dX1_findCounting_4 (by decide) ?_
  refine lv_isub hx hb dX1_findCounting_5 ?_
  refine lv_topi (fun v1 ev1 => ?_)
  have tv1 := z_sub ev1 (rfl : ((iv 1 7)).toInt = _) (by decide : (1 : Int32).toInt = 1) (by omega) (by omega)
  refine lv_istore_n (lv' := [(2, .int v1), (0, .ref (g 11 3)), (1, .int a)]) hx hb dX1_findCounting_6 rfl hl (by decide) rfl (fun ls hl => ?_)
  have lp27 : ∀ (nn27 : Nat) (x26_2 : Int32) (w26_a_1_6 : Nat → Int32), (-1) ≤ x26_2.toInt ∧ x26_2.toInt ≤ 7 → (∀ j, inb (bA 1 6 j) (w26_a_1_6 j)) → x26_2.toInt - (-1) < (nn27 : Int) → ∀ (H : Heap) (locs : List Loc), ∀ (ls : Array Slot), va_P (dC, dI) classes (WX h g ca iv lv (u2 fa 1 6 w26_a_1_6) la) H → va_D A (WX h g ca iv lv (u2 fa 1 6 w26_a_1_6) la) → va_S A s.heap H locs → lv_has ls 3 [(2, .int x26_2), (0, .ref (g 11 3)), (1, .int a)] → W p l e ({ frames := 2, cells := 0, slots := 0, locals := 45 } : Room) s m ([.ref (g 11 3), .int a] : List Value).toArray below meth c H locs 0 0 (MQ below (va_Qv (fun (u : SS) => ∃ (na_1_6 : Nat → Int32), (∀ j, inb (bA 1 6 j) (na_1_6 j)) ∧ u = (iv, lv, (u2 fa 1 6 na_1_6), la)) (bX (dC, dI) h g ca A) A) ([.ref (g 11 3), .int a] : List Value).toArray s 0 0 A) (F0 m 7 ls []) := by
    intro nn27
    induction nn27 with
    | zero => intro x26_2 w26_a_1_6 hx26_2 hw26_a_1_6 hm27; exfalso; omega
    | succ nn27 ih27 =>
      intro x26_2 w26_a_1_6 hx26_2 hw26_a_1_6 hm27 H locs ls hP hD hS hl
      refine lv_iload_n hx hb dX1_findCounting_7 rfl (lv_at hl 0 rfl) ?_
      refine lv_if_lt (tgt := 46) hx hb dX1_findCounting_8 (by decide) (fun c28 => ?_) (fun c28 => ?_)
      · have fc28 := z_lt (rfl : (x26_2).toInt = _) (by decide : (0 : Int32).toInt = 0) c28
        have hP9 : va_P (dC, dI) classes (WX h g ca iv lv (u2 fa 1 6 w26_a_1_6) la) H := hP
        have hD9 : va_D A (WX h g ca iv lv (u2 fa 1 6 w26_a_1_6) la) := hD
        exact W.vret hx hb hr (fun t ht9 hW => ⟨⟨(iv, lv, (u2 fa 1 6 w26_a_1_6), la), rfl, ⟨w26_a_1_6, hw26_a_1_6, rfl⟩, by rw [ht9]; exact hP9, hD9⟩, hS.F ht9⟩) hS.2.2 dX1_findCounting_46
      · have fc28 := z_nlt (rfl : (x26_2).toInt = _) (by decide : (0 : Int32).toInt = 0) c28
        refine lv_aload_n hx hb dX1_findCounting_11 rfl (lv_at hl 1 rfl) ?_
        refine gX_1_6 hx hb ht hown hK hP m_195 dX1_findCounting_12 ?_
        refine lv_iload_n hx hb dX1_findCounting_15 rfl (lv_at hl 0 rfl) ?_
        refine lv_aload_n hx hb dX1_findCounting_16 rfl (lv_at hl 1 rfl) ?_
        refine gX_1_0 hx hb ht hown hK hP m_189 dX1_findCounting_17 ?_
        refine lv_iload_n hx hb dX1_findCounting_20 rfl (lv_at hl 0 rfl) ?_
        refine lX_1_0 hx hb hK hP (f := (fa 1 0)) rfl (vp_in_iff.mpr ⟨by omega, by omega⟩) dX1_findCounting_21 ?_
        refine lv_topi (fun v29 ev29 => ?_)
        refine lv_iload_n hx hb dX1_findCounting_22 rfl (lv_at hl 2 rfl) ?_
        refine lv_icmp_gt (tgt := 38) hx hb dX1_findCounting_23 (by decide) (fun c30 => ?_) (fun c30 => ?_)
        · have fc30 := z_lt (rfl : (a).toInt = _) (rfl : (v29).toInt = _) c30
          refine lv_iconst (v := 0) hx hb dX1_findCounting_38 (by decide) ?_
          refine tX_1_6 hx hb hK hP hD hS (f0 := w26_a_1_6) rfl (i := x26_2) (x := 0) (vp_in_iff.mpr ⟨by omega, by omega⟩) dX1_findCounting_39 (fun f31 ef31 H locs hP hD hS => ?_)
          have hf31 : ∀ j, inb (bA 1 6 j) (f31 j) := by rw [ef31]; exact upd_b (b := bA 1 6) hw26_a_1_6 (show inb (0, 1) (vp_nar .boolean 0) from ⟨by decide, by decide⟩)
          have hP : va_P (dC, dI) classes (WX h g ca iv lv (u2 fa 1 6 f31) la) H := hP
          have hD : va_D A (WX h g ca iv lv (u2 fa 1 6 f31) la) := hD
          obtain ⟨v32, ev32⟩ : ∃ y : Int32, y = x26_2 + (-1) := ⟨_, rfl⟩
          have tv32 := z_add ev32 rfl (by decide : ((-1) : Int32).toInt = (-1)) (by omega) (by omega)
          refine lv_iinc (v := v32) (lv' := [(2, .int v32), (0, .ref (g 11 3)), (1, .int a)]) hx hb dX1_findCounting_40 hl (k := 0) rfl (by rw [ev32]; rfl) (by decide) rfl (fun ls hl => ?_)
          refine lv_goto (tgt := 7) hx hb dX1_findCounting_43 (by decide) ?_
          exact ih27 v32 f31 ⟨by omega, by omega⟩ hf31 (by omega) _ _ ls hP hD hS (lv_sub hl [0, 1, 2] rfl)
        · have fc30 := z_nlt (rfl : (a).toInt = _) (rfl : (v29).toInt = _) c30
          refine lv_aload_n hx hb dX1_findCounting_26 rfl (lv_at hl 1 rfl) ?_
          refine lv_iload_n hx hb dX1_findCounting_27 rfl (lv_at hl 0 rfl) ?_
          refine vp_callSi (W.runV (As := [.int x26_2]) (rest := [.int x26_2, .ref (g 1 6)]) ⟨hx, hb, hml, hown, ht⟩ (c_X1_isStruck l dC dI h g ca iv lv (u2 fa 1 6 w26_a_1_6) la (IX_a (c := 1) (k := 6) hI hw26_a_1_6) x26_2 ⟨by omega, by omega⟩) (kV 1 ht m_608 m_610 m_6 m_81 m_611 rfl rfl hd_X1_isStruck_v ⟨Nat.le_of_ble_eq_true rfl, Nat.le_of_ble_eq_true rfl⟩) (vR hP hK (rX_1 hK hP)) rfl rfl hl.1 rfl (lv_room (Nat.le_of_ble_eq_true rfl)) dX1_findCounting_28 ⟨Nat.le_of_ble_eq_true rfl, Nat.le_of_ble_eq_true rfl⟩) (fun r33 hr33 => ?_)
          refine lv_if_ne (tgt := 38) hx hb dX1_findCounting_31 (by decide) (fun c34 => ?_) (fun c34 => ?_)
          · have fc34 := z_ne (rfl : (r33).toInt = _) (by decide : (0 : Int32).toInt = 0) c34
            refine lv_iconst (v := 0) hx hb dX1_findCounting_38 (by decide) ?_
            refine tX_1_6 hx hb hK hP hD hS (f0 := w26_a_1_6) rfl (i := x26_2) (x := 0) (vp_in_iff.mpr ⟨by omega, by omega⟩) dX1_findCounting_39 (fun f35 ef35 H locs hP hD hS => ?_)
            have hf35 : ∀ j, inb (bA 1 6 j) (f35 j) := by rw [ef35]; exact upd_b (b := bA 1 6) hw26_a_1_6 (show inb (0, 1) (vp_nar .boolean 0) from ⟨by decide, by decide⟩)
            have hP : va_P (dC, dI) classes (WX h g ca iv lv (u2 fa 1 6 f35) la) H := hP
            have hD : va_D A (WX h g ca iv lv (u2 fa 1 6 f35) la) := hD
            obtain ⟨v36, ev36⟩ : ∃ y : Int32, y = x26_2 + (-1) := ⟨_, rfl⟩
            have tv36 := z_add ev36 rfl (by decide : ((-1) : Int32).toInt = (-1)) (by omega) (by omega)
            refine lv_iinc (v := v36) (lv' := [(2, .int v36), (0, .ref (g 11 3)), (1, .int a)]) hx hb dX1_findCounting_40 hl (k := 0) rfl (by rw [ev36]; rfl) (by decide) rfl (fun ls hl => ?_)
            refine lv_goto (tgt := 7) hx hb dX1_findCounting_43 (by decide) ?_
            exact ih27 v36 f35 ⟨by omega, by omega⟩ hf35 (by omega) _ _ ls hP hD hS (lv_sub hl [0, 1, 2] rfl)
          · have fc34 := z_eq (rfl : (r33).toInt = _) (by decide : (0 : Int32).toInt = 0) c34
            refine lv_iconst (v := 1) hx hb dX1_findCounting_34 (by decide) ?_
            refine lv_goto (tgt := 39) hx hb dX1_findCounting_35 (by decide) ?_
            refine tX_1_6 hx hb hK hP hD hS (f0 := w26_a_1_6) rfl (i := x26_2) (x := 1) (vp_in_iff.mpr ⟨by omega, by omega⟩) dX1_findCounting_39 (fun f37 ef37 H locs hP hD hS => ?_)
            have hf37 : ∀ j, inb (bA 1 6 j) (f37 j) := by rw [ef37]; exact upd_b (b := bA 1 6) hw26_a_1_6 (show inb (0, 1) (vp_nar .boolean 1) from ⟨by decide, by decide⟩)
            have hP : va_P (dC, dI) classes (WX h g ca iv lv (u2 fa 1 6 f37) la) H := hP
            have hD : va_D A (WX h g ca iv lv (u2 fa 1 6 f37) la) := hD
            obtain ⟨v38, ev38⟩ : ∃ y : Int32, y = x26_2 + (-1) := ⟨_, rfl⟩
            have tv38 := z_add ev38 rfl (by decide : ((-1) : Int32).toInt = (-1)) (by omega) (by omega)
            refine lv_iinc (v := v38) (lv' := [(2, .int v38), (0, .ref (g 11 3)), (1, .int a)]) hx hb dX1_findCounting_40 hl (k := 0) rfl (by rw [ev38]; rfl) (by decide) rfl (fun ls hl => ?_)
            refine lv_goto (tgt := 7) hx hb dX1_findCounting_43 (by decide) ?_
            exact ih27 v38 f37 ⟨by omega, by omega⟩ hf37 (by omega) _ _ ls hP hD hS (lv_sub hl [0, 1, 2] rfl)
  exact lp27 9 v1 (fa 1 6) ⟨by omega, by omega⟩ (hI.2 1 6) (by first | decide | omega) _ _ ls hP hD hS (lv_sub hl [0, 1, 2] rfl)
set_option maxHeartbeats 4000000 in
set_option maxRecDepth 100000 in
/-- X1_naming -/
theorem c_X1_naming (l : Launch) (dC : Nat → ClassId) (dI : Nat → Nat → Nat) (sz : Nat) (h : Nat) (g : Nat → Nat → Nat) (ca : Nat → Nat → ClassId) (iv : Nat → Nat → Int32) (lv : Nat → Nat → Int64) (fa : Nat → Nat → Nat → Int32) (la : Nat → Nat → Nat → Int64) (hI : IX iv fa) (a : Int32) (b : Int32) (d : Int32) : Met l yX1_naming (wc yX1_naming cX1_naming 8 (some .int)) ({ frames := 3, cells := 0, slots := 0, locals := 67 } : Room) (pW (dC, dI) classes (WX h g ca iv lv fa la) (TX ca) sz [.ref (g 11 3), .int a, .int b, .int d]) (va_Qi (fun r (u : SS) => ∃ (na_1_6 : Nat → Int32), (∀ j, inb (bA 1 6 j) (na_1_6 j)) ∧ ((-1) ≤ r.toInt ∧ r.toInt ≤ 767) ∧ u = (iv, lv, (u2 fa 1 6 na_1_6), la)) (bX (dC, dI) h g ca (va_A (WX h g ca iv lv fa la) sz)) (va_A (WX h g ca iv lv fa la) sz)) 0 0 (va_A (WX h g ca iv lv fa la) sz) := by
  refine Met.ofW (cc := cX1_naming) (maxL := 8) (ret := (some .int)) (by decide) rfl ?_
  intro p e s m args below meth c s₁ B hml hv
  obtain ⟨rfl, hsz, hP, hK, hD0⟩ := hv
  have hx := B.exec
  have hb := B.bytes
  have hr := B.returns
  have ht := tb_tl (atoms_spec (ws := wc yX1_naming cX1_naming 8 (some .int)) B.pre)
  have hown : s.vm.findClass RX1 = some m.cls := findClass_of_methodNamed B.named
  have hlocks := B.notSynchronized
  subst hsz
  have hD := hD0.self (sz := s.heap.size)
  generalize hAe : va_A (WX h g ca iv lv fa la) s.heap.size = A at hD ⊢
  have hA : ∀ q : Nat, s.heap.size ≤ q → A q := fun q h => by rw [← hAe]; exact Or.inr h
  have hS : va_S A s.heap s.heap [] := va_S.rf
  have hl := lv_entry [.ref (g 11 3), .int a, .int b, .int d] (n := 8) (Nat.le_of_ble_eq_true rfl)
  rw [lg_entry_eq]
  generalize (lg_sl [.ref (g 11 3), .int a, .int b, .int d] ++ List.replicate (8 - (lg_sl [.ref (g 11 3), .int a, .int b, .int d]).length) Slot.unset).toArray = ls at hl ⊢
  have hl : lv_has ls 8 [(0, .ref (g 11 3)), (1, .int a), (2, .int b), (3, .int d)] := hl
  refine lv_aload_n hx hb dX1_naming_0 rfl (lv_at hl 0 rfl) ?_
  refine lv_iload_n hx hb dX1_naming_1 rfl (lv_at hl 3 rfl) ?_
  have hFc := free_all hD hS hA
  refine va_callv (va_runV (As := [.int d]) (rest := []) ⟨hx, hb, hml, hown, ht⟩ (c_X1_findCounting l dC dI s.heap.size h g ca iv lv fa la hI d) (kV 1 ht m_604 m_606 m_5 m_81 m_607 rfl rfl hd_X1_findCounting_v ⟨Nat.le_of_ble_eq_true rfl, Nat.le_of_ble_eq_true rfl⟩) (vW hP hK hD (rX_1 hK hP)) rfl rfl hl.1 rfl (lv_room (Nat.le_of_ble_eq_true rfl)) dX1_naming_2 ⟨Nat.le_of_ble_eq_true rfl, Nat.le_of_ble_eq_true rfl⟩) hS (fun q _ h => hFc q h) hFc (fun u t H1 locs ht9 hvm hr1 hB hz1 hk1 hS => ?_)
  obtain ⟨n2, hn2, rfl⟩ := hr1
  obtain ⟨hP, hD⟩ := hB
  rw [ht9] at hP
  generalize H1 = H at hP hS ⊢
  have hP : va_P (dC, dI) classes (WX h g ca iv lv (u2 fa 1 6 n2) la) H := hP
  have hD : va_D A (WX h g ca iv lv (u2 fa 1 6 n2) la) := (show va_D _ (WX h g ca iv lv (u2 fa 1 6 n2) la) from hD).weaken (fun _ _ _ h => hFc _ h)
  refine lv_iconst (v := (-1)) hx hb dX1_naming_5 (by decide) ?_
  refine lv_istore (lv' := [(4, .int (-1)), (0, .ref (g 11 3)), (1, .int a), (2, .int b), (3, .int d)]) hx hb dX1_naming_6 hl (by decide) rfl (fun ls hl => ?_)
  refine lv_iconst (v := (-1)) hx hb dX1_naming_8 (by decide) ?_
  refine lv_istore (lv' := [(5, .int (-1)), (4, .int (-1)), (0, .ref (g 11 3)), (1, .int a), (2, .int b), (3, .int d)]) hx hb dX1_naming_9 hl (by decide) rfl (fun ls hl => ?_)
  refine lv_iconst (v := 0) hx hb dX1_naming_11 (by decide) ?_
  refine lv_istore (lv' := [(6, .int 0), (5, .int (-1)), (4, .int (-1)), (0, .ref (g 11 3)), (1, .int a), (2, .int b), (3, .int d)]) hx hb dX1_naming_12 hl (by decide) rfl (fun ls hl => ?_)
  have lp139 : ∀ (nn139 : Nat) (x138_6 : Int32) (x138_5 : Int32) (x138_4 : Int32), 0 ≤ x138_6.toInt ∧ x138_6.toInt ≤ 8 → (-1) ≤ x138_5.toInt → (-1) ≤ x138_4.toInt ∧ x138_4.toInt ≤ 767 → 8 - x138_6.toInt < (nn139 : Int) → ∀ (H : Heap) (locs : List Loc), ∀ (ls : Array Slot), va_P (dC, dI) classes (WX h g ca iv lv (u2 fa 1 6 n2) la) H → va_D A (WX h g ca iv lv (u2 fa 1 6 n2) la) → va_S A s.heap H locs → lv_has ls 8 [(6, .int x138_6), (5, .int x138_5), (4, .int x138_4), (0, .ref (g 11 3)), (1, .int a), (2, .int b), (3, .int d)] → W p l e ({ frames := 3, cells := 0, slots := 0, locals := 67 } : Room) s m ([.ref (g 11 3), .int a, .int b, .int d] : List Value).toArray below meth c H locs 0 0 (MQ below (va_Qi (fun r (u : SS) => ∃ (na_1_6 : Nat → Int32), (∀ j, inb (bA 1 6 j) (na_1_6 j)) ∧ ((-1) ≤ r.toInt ∧ r.toInt ≤ 767) ∧ u = (iv, lv, (u2 fa 1 6 na_1_6), la)) (bX (dC, dI) h g ca A) A) ([.ref (g 11 3), .int a, .int b, .int d] : List Value).toArray s 0 0 A) (F0 m 14 ls []) := by
    intro nn139
    induction nn139 with
    | zero => intro x138_6 x138_5 x138_4 hx138_6 hx138_5 hx138_4 hm139; exfalso; omega
    | succ nn139 ih139 =>
      intro x138_6 x138_5 x138_4 hx138_6 hx138_5 hx138_4 hm139 H locs ls hP hD hS hl
      refine lv_iload hx hb dX1_naming_14 (lv_at hl 0 rfl) ?_
      refine lv_aload_n hx hb dX1_naming_16 rfl (lv_at hl 3 rfl) ?_
      have i_1_7 : 0 ≤ (iv 1 7).toInt ∧ (iv 1 7).toInt ≤ 8 := hI.1 1 7
      refine gX_1_7 hx hb ht hown hK hP m_196 (v := (iv 1 7)) rfl dX1_naming_17 ?_
      refine lv_icmp_ge (tgt := 86) hx hb dX1_naming_20 (by decide) (fun c140 => ?_) (fun c140 => ?_)
      · have fc140 := z_le (rfl : ((iv 1 7)).toInt = _) (rfl : (x138_6).toInt = _) c140
        refine lv_iload hx hb dX1_naming_86 (lv_at hl 2 rfl) ?_
        have hP9 : va_P (dC, dI) classes (WX h g ca iv lv (u2 fa 1 6 n2) la) H := hP
        have hD9 : va_D A (WX h g ca iv lv (u2 fa 1 6 n2) la) := hD
        exact W.iret (v := x138_4) hx hb hr (fun t ht9 hW => ⟨⟨x138_4, (iv, lv, (u2 fa 1 6 n2), la), rfl, ⟨n2, hn2, ⟨by omega, by omega⟩, rfl⟩, by rw [ht9]; exact hP9, hD9⟩, hS.F ht9⟩) hS.2.2 dX1_naming_88
      · have fc140 := z_nle (rfl : ((iv 1 7)).toInt = _) (rfl : (x138_6).toInt = _) c140
        refine lv_aload_n hx hb dX1_naming_23 rfl (lv_at hl 3 rfl) ?_
        refine lv_iload hx hb dX1_naming_24 (lv_at hl 0 rfl) ?_
        refine lv_iload_n hx hb dX1_naming_26 rfl (lv_at hl 4 rfl) ?_
        refine lv_iload_n hx hb dX1_naming_27 rfl (lv_at hl 5 rfl) ?_
        refine vp_callSi (W.runV (As := [.int x138_6, .int a, .int b]) (rest := []) ⟨hx, hb, hml, hown, ht⟩ (c_X1_lastNaming l dC dI h g ca iv lv (u2 fa 1 6 n2) la (IX_a (c := 1) (k := 6) hI hn2) x138_6 a b ⟨by omega, by omega⟩) (kV 3 ht m_969 m_971 m_39 m_81 m_972 rfl rfl hd_X1_lastNaming_v ⟨Nat.le_of_ble_eq_true rfl, Nat.le_of_ble_eq_true rfl⟩) (vR hP hK (rX_1 hK hP)) rfl rfl hl.1 rfl (lv_room (Nat.le_of_ble_eq_true rfl)) dX1_naming_28 ⟨Nat.le_of_ble_eq_true rfl, Nat.le_of_ble_eq_true rfl⟩) (fun r141 hr141 => ?_)
        refine lv_istore (lv' := [(7, .int r141), (6, .int x138_6), (5, .int x138_5), (4, .int x138_4), (0, .ref (g 11 3)), (1, .int a), (2, .int b), (3, .int d)]) hx hb dX1_naming_31 hl (by decide) rfl (fun ls hl => ?_)
        refine lv_aload_n hx hb dX1_naming_33 rfl (lv_at hl 4 rfl) ?_
        refine gX_1_6 hx hb ht hown hK hP m_195 dX1_naming_34 ?_
        refine lv_iload hx hb dX1_naming_37 (lv_at hl 1 rfl) ?_
        refine lX_1_6 hx hb hK hP (f := n2) rfl (vp_in_iff.mpr ⟨by omega, by omega⟩) dX1_naming_39 ?_
        refine lv_topi (fun v142 ev142 => ?_)
        have tv142 : 0 ≤ v142.toInt ∧ v142.toInt ≤ 1 := by rw [ev142]; exact hn2 _
        refine lv_if_eq (tgt := 80) hx hb dX1_naming_40 (by decide) (fun c143 => ?_) (fun c143 => ?_)
        · have fc143 := z_eq (rfl : (v142).toInt = _) (by decide : (0 : Int32).toInt = 0) c143
          obtain ⟨v144, ev144⟩ : ∃ y : Int32, y = x138_6 + 1 := ⟨_, rfl⟩
          have tv144 := z_add ev144 rfl (by decide : (1 : Int32).toInt = 1) (by omega) (by omega)
          refine lv_iinc (v := v144) (lv' := [(6, .int v144), (7, .int r141), (5, .int x138_5), (4, .int x138_4), (0, .ref (g 11 3)), (1, .int a), (2, .int b), (3, .int d)]) hx hb dX1_naming_80 hl (k := 1) rfl (by rw [ev144]; rfl) (by decide) rfl (fun ls hl => ?_)
          refine lv_goto (tgt := 14) hx hb dX1_naming_83 (by decide) ?_
          exact ih139 v144 x138_5 x138_4 ⟨by omega, by omega⟩ (by omega) ⟨by omega, by omega⟩ (by omega) _ _ ls hP hD hS (lv_sub hl [0, 2, 3, 4, 5, 6, 7] rfl)
        · have fc143 := z_ne (rfl : (v142).toInt = _) (by decide : (0 : Int32).toInt = 0) c143
          refine lv_iload hx hb dX1_naming_43 (lv_at hl 0 rfl) ?_
          refine lv_iconst (v := (-1)) hx hb dX1_naming_45 (by decide) ?_
          refine lv_icmp_eq (tgt := 80) hx hb dX1_naming_46 (by decide) (fun c145 => ?_) (fun c145 => ?_)
          · have fc145 := z_eq (rfl : (r141).toInt = _) (by decide : ((-1) : Int32).toInt = (-1)) c145
            obtain ⟨v146, ev146⟩ : ∃ y : Int32, y = x138_6 + 1 := ⟨_, rfl⟩
            have tv146 := z_add ev146 rfl (by decide : (1 : Int32).toInt = 1) (by omega) (by omega)
            refine lv_iinc (v := v146) (lv' := [(6, .int v146), (7, .int r141), (5, .int x138_5), (4, .int x138_4), (0, .ref (g 11 3)), (1, .int a), (2, .int b), (3, .int d)]) hx hb dX1_naming_80 hl (k := 1) rfl (by rw [ev146]; rfl) (by decide) rfl (fun ls hl => ?_)
            refine lv_goto (tgt := 14) hx hb dX1_naming_83 (by decide) ?_
            exact ih139 v146 x138_5 x138_4 ⟨by omega, by omega⟩ (by omega) ⟨by omega, by omega⟩ (by omega) _ _ ls hP hD hS (lv_sub hl [0, 2, 3, 4, 5, 6, 7] rfl)
          · have fc145 := z_ne (rfl : (r141).toInt = _) (by decide : ((-1) : Int32).toInt = (-1)) c145
            refine lv_aload_n hx hb dX1_naming_49 rfl (lv_at hl 4 rfl) ?_
            refine gX_1_0 hx hb ht hown hK hP m_189 dX1_naming_50 ?_
            refine lv_iload hx hb dX1_naming_53 (lv_at hl 1 rfl) ?_
            refine lX_1_0 hx hb hK hP (f := (fa 1 0)) rfl (vp_in_iff.mpr ⟨by omega, by omega⟩) dX1_naming_55 ?_
            refine lv_topi (fun v147 ev147 => ?_)
            refine lv_iload hx hb dX1_naming_56 (lv_at hl 2 rfl) ?_
            refine lv_icmp_lt (tgt := 80) hx hb dX1_naming_58 (by decide) (fun c148 => ?_) (fun c148 => ?_)
            · have fc148 := z_lt (rfl : (v147).toInt = _) (rfl : (x138_5).toInt = _) c148
              obtain ⟨v149, ev149⟩ : ∃ y : Int32, y = x138_6 + 1 := ⟨_, rfl⟩
              have tv149 := z_add ev149 rfl (by decide : (1 : Int32).toInt = 1) (by omega) (by omega)
              refine lv_iinc (v := v149) (lv' := [(6, .int v149), (7, .int r141), (5, .int x138_5), (4, .int x138_4), (0, .ref (g 11 3)), (1, .int a), (2, .int b), (3, .int d)]) hx hb dX1_naming_80 hl (k := 1) rfl (by rw [ev149]; rfl) (by decide) rfl (fun ls hl => ?_)
              refine lv_goto (tgt := 14) hx hb dX1_naming_83 (by decide) ?_
              exact ih139 v149 x138_5 x138_4 ⟨by omega, by omega⟩ (by omega) ⟨by omega, by omega⟩ (by omega) _ _ ls hP hD hS (lv_sub hl [0, 2, 3, 4, 5, 6, 7] rfl)
            · have fc148 := z_nlt (rfl : (v147).toInt = _) (rfl : (x138_5).toInt = _) c148
              refine lv_iload hx hb dX1_naming_61 (lv_at hl 1 rfl) ?_
              refine lv_bipush (v := 100) hx hb dX1_naming_63 (by decide) ?_
              refine lv_imul hx hb dX1_naming_65 ?_
              refine lv_topi (fun v150 ev150 => ?_)
              have tv150 := z_mul ev150 (rfl : (x138_6).toInt = _) (by decide : (100 : Int32).toInt = 100) (by omega) (by omega)
              refine lv_iload hx hb dX1_naming_66 (lv_at hl 0 rfl) ?_
              refine lv_iadd hx hb dX1_naming_68 ?_
              refine lv_topi (fun v151 ev151 => ?_)
              have tv151 := z_add ev151 (rfl : (v150).toInt = _) (rfl : (r141).toInt = _) (by omega) (by omega)
              refine lv_istore (lv' := [(4, .int v151), (7, .int r141), (6, .int x138_6), (5, .int x138_5), (0, .ref (g 11 3)), (1, .int a), (2, .int b), (3, .int d)]) hx hb dX1_naming_69 hl (by decide) rfl (fun ls hl => ?_)
              refine lv_aload_n hx hb dX1_naming_71 rfl (lv_at hl 4 rfl) ?_
              refine gX_1_0 hx hb ht hown hK hP m_189 dX1_naming_72 ?_
              refine lv_iload hx hb dX1_naming_75 (lv_at hl 2 rfl) ?_
              refine lX_1_0 hx hb hK hP (f := (fa 1 0)) rfl (vp_in_iff.mpr ⟨by omega, by omega⟩) dX1_naming_77 ?_
              refine lv_topi (fun v152 ev152 => ?_)
              obtain rfl : v147 = v152 := ev147.trans ev152.symm
              refine lv_istore (lv' := [(5, .int v147), (4, .int v151), (7, .int r141), (6, .int x138_6), (0, .ref (g 11 3)), (1, .int a), (2, .int b), (3, .int d)]) hx hb dX1_naming_78 hl (by decide) rfl (fun ls hl => ?_)
              obtain ⟨v153, ev153⟩ : ∃ y : Int32, y = x138_6 + 1 := ⟨_, rfl⟩
              have tv153 := z_add ev153 rfl (by decide : (1 : Int32).toInt = 1) (by omega) (by omega)
              refine lv_iinc (v := v153) (lv' := [(6, .int v153), (5, .int v147), (4, .int v151), (7, .int r141), (0, .ref (g 11 3)), (1, .int a), (2, .int b), (3, .int d)]) hx hb dX1_naming_80 hl (k := 3) rfl (by rw [ev153]; rfl) (by decide) rfl (fun ls hl => ?_)
              refine lv_goto (tgt := 14) hx hb dX1_naming_83 (by decide) ?_
              exact ih139 v153 v147 v151 ⟨by omega, by omega⟩ (by omega) ⟨by omega, by omega⟩ (by omega) _ _ ls hP hD hS (lv_sub hl [0, 1, 2, 4, 5, 6, 7] rfl)
  exact lp139 9 0 (-1) (-1) ⟨by decide, by decide⟩ (by decide) ⟨by decide, by decide⟩ (by first | decide | omega) _ _ ls hP hD hS (lv_sub hl [0, 1, 2, 3, 4, 5, 6] rfl)
/-! ===== mtests ===== -/
theorem m_89 : Cond.initialized RX12 ∈ tb := mb_1_0 _ (List.mem_of_getElem? (i := 12) rfl)
theorem m_1139 : Cond.fieldLink RX12 171 "SilkHouseModel" "now" "I" ∈ tb := mb_5_4 _ (List.mem_of_getElem? (i := 4) rfl)
theorem m_1140 : Cond.fieldLink RX12 164 "SilkHouseModel" "bales" "I" ∈ tb := mb_5_4 _ (List.mem_of_getElem? (i := 5) rfl)
theorem m_1142 : Cond.fieldLink RX12 200 "SilkHouseModel" "skeins" "I" ∈ tb := mb_5_4 _ (List.mem_of_getElem? (i := 7) rfl)
theorem m_1206 : Cond.fieldLink RX12 429 "SilkHouseModel" "papers" "I" ∈ tb := mb_5_6 _ (List.mem_of_getElem? (i := 23) rfl)
theorem m_1370 : Cond.methodLink RX12 167 yX12_in ∈ tb := mb_6_0 _ (List.mem_of_getElem? (i := 5) rfl)
theorem m_1371 : Cond.static yX12_in ∈ tb := mb_6_0 _ (List.mem_of_getElem? (i := 6) rfl)
theorem m_1372 : Cond.code yX12_in cX12_in 6 (some .boolean) ∈ tb := mb_6_0 _ (List.mem_of_getElem? (i := 7) rfl)
theorem m_1393 : Cond.constantLong RX12 194 (9999) ∈ tb := mb_6_1 _ (List.mem_of_getElem? (i := 3) rfl)
theorem m_1425 : Cond.constantLong RX12 174 (3000) ∈ tb := mb_6_2 _ (List.mem_of_getElem? (i := 10) rfl)
theorem hd_X12_in_v : yX12_in.cls = RX12 ∧ yX12_in.cls ≠ "java/lang/invoke/MethodHandle" ∧ yX12_in.cls ≠ "java/lang/invoke/VarHandle" ∧ (parseMethodDescriptor yX12_in.desc).map (fun d => d.parameters.length) = some 3 := by decide +kernel
set_option maxRecDepth 100000 in
theorem dvX12_bit_0 : ([(0, .iload_n 0, 1), (1, .ifCond .eq 7, 3), (4, .iconst 1, 1), (5, .goto 4, 3), (8, .iconst 0, 1), (9, .ireturn, 1)] : List (Nat × Instr × Nat)).all (fun q => decide (decode cX12_bit q.1 = .ok (q.2.1, q.2.2))) = true := by decide +kernel
theorem dX12_bit_0 : decode cX12_bit 0 = .ok (.iload_n 0, 1) := all_at dvX12_bit_0 0 rfl
theorem dX12_bit_1 : decode cX12_bit 1 = .ok (.ifCond .eq 7, 3) := all_at dvX12_bit_0 1 rfl
theorem dX12_bit_4 : decode cX12_bit 4 = .ok (.iconst 1, 1) := all_at dvX12_bit_0 2 rfl
theorem dX12_bit_5 : decode cX12_bit 5 = .ok (.goto 4, 3) := all_at dvX12_bit_0 3 rfl
theorem dX12_bit_8 : decode cX12_bit 8 = .ok (.iconst 0, 1) := all_at dvX12_bit_0 4 rfl
theorem dX12_bit_9 : decode cX12_bit 9 = .ok (.ireturn, 1) := all_at dvX12_bit_0 5 rfl
set_option maxRecDepth 100000 in
theorem dvX12_in_0 : ([(0, .lload_n 0, 1), (1, .lload_n 2, 1), (2, .lcmp, 1), (3, .ifCond .lt 14, 3), (6, .lload_n 0, 1), (7, .lload 4, 2), (9, .lcmp, 1), (10, .ifCond .gt 7, 3), (13, .iconst 1, 1), (14, .goto 4, 3), (17, .iconst 0, 1), (18, .ireturn, 1)] : List (Nat × Instr × Nat)).all (fun q => decide (decode cX12_in q.1 = .ok (q.2.1, q.2.2))) = true := by decide +kernel
theorem dX12_in_0 : decode cX12_in 0 = .ok (.lload_n 0, 1) := all_at dvX12_in_0 0 rfl
theorem dX12_in_1 : decode cX12_in 1 = .ok (.lload_n 2, 1) := all_at dvX12_in_0 1 rfl
theorem dX12_in_2 : decode cX12_in 2 = .ok (.lcmp, 1) := all_at dvX12_in_0 2 rfl
theorem dX12_in_3 : decode cX12_in 3 = .ok (.ifCond .lt 14, 3) := all_at dvX12_in_0 3 rfl
theorem dX12_in_6 : decode cX12_in 6 = .ok (.lload_n 0, 1) := all_at dvX12_in_0 4 rfl
theorem dX12_in_7 : decode cX12_in 7 = .ok (.lload 4, 2) := all_at dvX12_in_0 5 rfl
theorem dX12_in_9 : decode cX12_in 9 = .ok (.lcmp, 1) := all_at dvX12_in_0 6 rfl
theorem dX12_in_10 : decode cX12_in 10 = .ok (.ifCond .gt 7, 3) := all_at dvX12_in_0 7 rfl
theorem dX12_in_13 : decode cX12_in 13 = .ok (.iconst 1, 1) := all_at dvX12_in_0 8 rfl
theorem dX12_in_14 : decode cX12_in 14 = .ok (.goto 4, 3) := all_at dvX12_in_0 9 rfl
theorem dX12_in_17 : decode cX12_in 17 = .ok (.iconst 0, 1) := all_at dvX12_in_0 10 rfl
theorem dX12_in_18 : decode cX12_in 18 = .ok (.ireturn, 1) := all_at dvX12_in_0 11 rfl
set_option maxRecDepth 100000 in
theorem dvX12_isDay_0 : ([(0, .iload_n 0, 1), (1, .i2l, 1), (2, .lconst 0, 1), (3, .ldc2_w 174, 3), (6, .invokestatic 167, 3), (9, .ireturn, 1)] : List (Nat × Instr × Nat)).all (fun q => decide (decode cX12_isDay q.1 = .ok (q.2.1, q.2.2))) = true := by decide +kernel
theorem dX12_isDay_0 : decode cX12_isDay 0 = .ok (.iload_n 0, 1) := all_at dvX12_isDay_0 0 rfl
theorem dX12_isDay_1 : decode cX12_isDay 1 = .ok (.i2l, 1) := all_at dvX12_isDay_0 1 rfl
theorem dX12_isDay_2 : decode cX12_isDay 2 = .ok (.lconst 0, 1) := all_at dvX12_isDay_0 2 rfl
theorem dX12_isDay_3 : decode cX12_isDay 3 = .ok (.ldc2_w 174, 3) := all_at dvX12_isDay_0 3 rfl
theorem dX12_isDay_6 : decode cX12_isDay 6 = .ok (.invokestatic 167, 3) := all_at dvX12_isDay_0 4 rfl
theorem dX12_isDay_9 : decode cX12_isDay 9 = .ok (.ireturn, 1) := all_at dvX12_isDay_0 5 rfl
set_option maxRecDepth 100000 in
theorem dvX12_isPast_0 : ([(0, .iload_n 1, 1), (1, .i2l, 1), (2, .lconst 0, 1), (3, .aload_n 0, 1), (4, .getfield 171, 3), (7, .i2l, 1), (8, .invokestatic 167, 3), (11, .ireturn, 1)] : List (Nat × Instr × Nat)).all (fun q => decide (decode cX12_isPast q.1 = .ok (q.2.1, q.2.2))) = true := by decide +kernel
theorem dX12_isPast_0 : decode cX12_isPast 0 = .ok (.iload_n 1, 1) := all_at dvX12_isPast_0 0 rfl
theorem dX12_isPast_1 : decode cX12_isPast 1 = .ok (.i2l, 1) := all_at dvX12_isPast_0 1 rfl
theorem dX12_isPast_2 : decode cX12_isPast 2 = .ok (.lconst 0, 1) := all_at dvX12_isPast_0 2 rfl
theorem dX12_isPast_3 : decode cX12_isPast 3 = .ok (.aload_n 0, 1) := all_at dvX12_isPast_0 3 rfl
theorem dX12_isPast_4 : decode cX12_isPast 4 = .ok (.getfield 171, 3) := all_at dvX12_isPast_0 4 rfl
theorem dX12_isPast_7 : decode cX12_isPast 7 = .ok (.i2l, 1) := all_at dvX12_isPast_0 5 rfl
theorem dX12_isPast_8 : decode cX12_isPast 8 = .ok (.invokestatic 167, 3) := all_at dvX12_isPast_0 6 rfl
theorem dX12_isPast_11 : decode cX12_isPast 11 = .ok (.ireturn, 1) := all_at dvX12_isPast_0 7 rfl
set_option maxRecDepth 100000 in
theorem dvX12_isWeight_0 : ([(0, .iload_n 0, 1), (1, .i2l, 1), (2, .lconst 1, 1), (3, .ldc2_w 194, 3), (6, .invokestatic 167, 3), (9, .ireturn, 1)] : List (Nat × Instr × Nat)).all (fun q => decide (decode cX12_isWeight q.1 = .ok (q.2.1, q.2.2))) = true := by decide +kernel
theorem dX12_isWeight_0 : decode cX12_isWeight 0 = .ok (.iload_n 0, 1) := all_at dvX12_isWeight_0 0 rfl
theorem dX12_isWeight_1 : decode cX12_isWeight 1 = .ok (.i2l, 1) := all_at dvX12_isWeight_0 1 rfl
theorem dX12_isWeight_2 : decode cX12_isWeight 2 = .ok (.lconst 1, 1) := all_at dvX12_isWeight_0 2 rfl
theorem dX12_isWeight_3 : decode cX12_isWeight 3 = .ok (.ldc2_w 194, 3) := all_at dvX12_isWeight_0 3 rfl
theorem dX12_isWeight_6 : decode cX12_isWeight 6 = .ok (.invokestatic 167, 3) := all_at dvX12_isWeight_0 4 rfl
theorem dX12_isWeight_9 : decode cX12_isWeight 9 = .ok (.ireturn, 1) := all_at dvX12_isWeight_0 5 rfl
set_option maxRecDepth 100000 in
theorem dvX12_noBale_0 : ([(0, .iload_n 1, 1), (1, .i2l, 1), (2, .lconst 0, 1), (3, .aload_n 0, 1), (4, .getfield 164, 3), (7, .iconst 1, 1), (8, .isub, 1), (9, .i2l, 1), (10, .invokestatic 167, 3), (13, .ifCond .ne 7, 3), (16, .iconst 1, 1), (17, .goto 4, 3), (20, .iconst 0, 1), (21, .ireturn, 1)] : List (Nat × Instr × Nat)).all (fun q => decide (decode cX12_noBale q.1 = .ok (q.2.1, q.2.2))) = true := by decide +kernel
theorem dX12_noBale_0 : decode cX12_noBale 0 = .ok (.iload_n 1, 1) := all_at dvX12_noBale_0 0 rfl
theorem dX12_noBale_1 : decode cX12_noBale 1 = .ok (.i2l, 1) := all_at dvX12_noBale_0 1 rfl
theorem dX12_noBale_2 : decode cX12_noBale 2 = .ok (.lconst 0, 1) := all_at dvX12_noBale_0 2 rfl
theorem dX12_noBale_3 : decode cX12_noBale 3 = .ok (.aload_n 0, 1) := all_at dvX12_noBale_0 3 rfl
theorem dX12_noBale_4 : decode cX12_noBale 4 = .ok (.getfield 164, 3) := all_at dvX12_noBale_0 4 rfl
theorem dX12_noBale_7 : decode cX12_noBale 7 = .ok (.iconst 1, 1) := all_at dvX12_noBale_0 5 rfl
theorem dX12_noBale_8 : decode cX12_noBale 8 = .ok (.isub, 1) := all_at dvX12_noBale_0 6 rfl
theorem dX12_noBale_9 : decode cX12_noBale 9 = .ok (.i2l, 1) := all_at dvX12_noBale_0 7 rfl
theorem dX12_noBale_10 : decode cX12_noBale 10 = .ok (.invokestatic 167, 3) := all_at dvX12_noBale_0 8 rfl
theorem dX12_noBale_13 : decode cX12_noBale 13 = .ok (.ifCond .ne 7, 3) := all_at dvX12_noBale_0 9 rfl
theorem dX12_noBale_16 : decode cX12_noBale 16 = .ok (.iconst 1, 1) := all_at dvX12_noBale_0 10 rfl
theorem dX12_noBale_17 : decode cX12_noBale 17 = .ok (.goto 4, 3) := all_at dvX12_noBale_0 11 rfl
theorem dX12_noBale_20 : decode cX12_noBale 20 = .ok (.iconst 0, 1) := all_at dvX12_noBale_0 12 rfl
theorem dX12_noBale_21 : decode cX12_noBale 21 = .ok (.ireturn, 1) := all_at dvX12_noBale_0 13 rfl
set_option maxRecDepth 100000 in
theorem dvX12_noPaper_0 : ([(0, .iload_n 1, 1), (1, .i2l, 1), (2, .lconst 0, 1), (3, .aload_n 0, 1), (4, .getfield 429, 3), (7, .iconst 1, 1), (8, .isub, 1), (9, .i2l, 1), (10, .invokestatic 167, 3), (13, .ifCond .ne 7, 3), (16, .iconst 1, 1), (17, .goto 4, 3), (20, .iconst 0, 1), (21, .ireturn, 1)] : List (Nat × Instr × Nat)).all (fun q => decide (decode cX12_noPaper q.1 = .ok (q.2.1, q.2.2))) = true := by decide +kernel
theorem dX12_noPaper_0 : decode cX12_noPaper 0 = .ok (.iload_n 1, 1) := all_at dvX12_noPaper_0 0 rfl
theorem dX12_noPaper_1 : decode cX12_noPaper 1 = .ok (.i2l, 1) := all_at dvX12_noPaper_0 1 rfl
theorem dX12_noPaper_2 : decode cX12_noPaper 2 = .ok (.lconst 0, 1) := all_at dvX12_noPaper_0 2 rfl
theorem dX12_noPaper_3 : decode cX12_noPaper 3 = .ok (.aload_n 0, 1) := all_at dvX12_noPaper_0 3 rfl
theorem dX12_noPaper_4 : decode cX12_noPaper 4 = .ok (.getfield 429, 3) := all_at dvX12_noPaper_0 4 rfl
theorem dX12_noPaper_7 : decode cX12_noPaper 7 = .ok (.iconst 1, 1) := all_at dvX12_noPaper_0 5 rfl
theorem dX12_noPaper_8 : decode cX12_noPaper 8 = .ok (.isub, 1) := all_at dvX12_noPaper_0 6 rfl
theorem dX12_noPaper_9 : decode cX12_noPaper 9 = .ok (.i2l, 1) := all_at dvX12_noPaper_0 7 rfl
theorem dX12_noPaper_10 : decode cX12_noPaper 10 = .ok (.invokestatic 167, 3) := all_at dvX12_noPaper_0 8 rfl
theorem dX12_noPaper_13 : decode cX12_noPaper 13 = .ok (.ifCond .ne 7, 3) := all_at dvX12_noPaper_0 9 rfl
theorem dX12_noPaper_16 : decode cX12_noPaper 16 = .ok (.iconst 1, 1) := all_at dvX12_noPaper_0 10 rfl
theorem dX12_noPaper_17 : decode cX12_noPaper 17 = .ok (.goto 4, 3) := all_at dvX12_noPaper_0 11 rfl
theorem dX12_noPaper_20 : decode cX12_noPaper 20 = .ok (.iconst 0, 1) := all_at dvX12_noPaper_0 12 rfl
theorem dX12_noPaper_21 : decode cX12_noPaper 21 = .ok (.ireturn, 1) := all_at dvX12_noPaper_0 13 rfl
set_option maxRecDepth 100000 in
theorem dvX12_noSkein_0 : ([(0, .iload_n 1, 1), (1, .i2l, 1), (2, .lconst 0, 1), (3, .aload_n 0, 1), (4, .getfield 200, 3), (7, .iconst 1, 1), (8, .isub, 1), (9, .i2l, 1), (10, .invokestatic 167, 3), (13, .ifCond .ne 7, 3), (16, .iconst 1, 1), (17, .goto 4, 3), (20, .iconst 0, 1), (21, .ireturn, 1)] : List (Nat × Instr × Nat)).all (fun q => decide (decode cX12_noSkein q.1 = .ok (q.2.1, q.2.2))) = true := by decide +kernel
theorem dX12_noSkein_0 : decode cX12_noSkein 0 = .ok (.iload_n 1, 1) := all_at dvX12_noSkein_0 0 rfl
theorem dX12_noSkein_1 : decode cX12_noSkein 1 = .ok (.i2l, 1) := all_at dvX12_noSkein_0 1 rfl
theorem dX12_noSkein_2 : decode cX12_noSkein 2 = .ok (.lconst 0, 1) := all_at dvX12_noSkein_0 2 rfl
theorem dX12_noSkein_3 : decode cX12_noSkein 3 = .ok (.aload_n 0, 1) := all_at dvX12_noSkein_0 3 rfl
theorem dX12_noSkein_4 : decode cX12_noSkein 4 = .ok (.getfield 200, 3) := all_at dvX12_noSkein_0 4 rfl
theorem dX12_noSkein_7 : decode cX12_noSkein 7 = .ok (.iconst 1, 1) := all_at dvX12_noSkein_0 5 rfl
theorem dX12_noSkein_8 : decode cX12_noSkein 8 = .ok (.isub, 1) := all_at dvX12_noSkein_0 6 rfl
theorem dX12_noSkein_9 : decode cX12_noSkein 9 = .ok (.i2l, 1) := all_at dvX12_noSkein_0 7 rfl
theorem dX12_noSkein_10 : decode cX12_noSkein 10 = .ok (.invokestatic 167, 3) := all_at dvX12_noSkein_0 8 rfl
theorem dX12_noSkein_13 : decode cX12_noSkein 13 = .ok (.ifCond .ne 7, 3) := all_at dvX12_noSkein_0 9 rfl
theorem dX12_noSkein_16 : decode cX12_noSkein 16 = .ok (.iconst 1, 1) := all_at dvX12_noSkein_0 10 rfl
theorem dX12_noSkein_17 : decode cX12_noSkein 17 = .ok (.goto 4, 3) := all_at dvX12_noSkein_0 11 rfl
theorem dX12_noSkein_20 : decode cX12_noSkein 20 = .ok (.iconst 0, 1) := all_at dvX12_noSkein_0 12 rfl
theorem dX12_noSkein_21 : decode cX12_noSkein 21 = .ok (.ireturn, 1) := all_at dvX12_noSkein_0 13 rfl
set_option maxRecDepth 100000 in
theorem dvX12_plain_0 : ([(0, .lload_n 0, 1), (1, .lconst 0, 1), (2, .lcmp, 1), (3, .ifCond .ge 9, 3), (6, .lconst 0, 1), (7, .lload_n 0, 1), (8, .lsub, 1), (9, .goto 4, 3), (12, .lload_n 0, 1), (13, .lreturn, 1)] : List (Nat × Instr × Nat)).all (fun q => decide (decode cX12_plain q.1 = .ok (q.2.1, q.2.2))) = true := by decide +kernel
theorem dX12_plain_0 : decode cX12_plain 0 = .ok (.lload_n 0, 1) := all_at dvX12_plain_0 0 rfl
theorem dX12_plain_1 : decode cX12_plain 1 = .ok (.lconst 0, 1) := all_at dvX12_plain_0 1 rfl
theorem dX12_plain_2 : decode cX12_plain 2 = .ok (.lcmp, 1) := all_at dvX12_plain_0 2 rfl
theorem dX12_plain_3 : decode cX12_plain 3 = .ok (.ifCond .ge 9, 3) := all_at dvX12_plain_0 3 rfl
theorem dX12_plain_6 : decode cX12_plain 6 = .ok (.lconst 0, 1) := all_at dvX12_plain_0 4 rfl
theorem dX12_plain_7 : decode cX12_plain 7 = .ok (.lload_n 0, 1) := all_at dvX12_plain_0 5 rfl
theorem dX12_plain_8 : decode cX12_plain 8 = .ok (.lsub, 1) := all_at dvX12_plain_0 6 rfl
theorem dX12_plain_9 : decode cX12_plain 9 = .ok (.goto 4, 3) := all_at dvX12_plain_0 7 rfl
theorem dX12_plain_12 : decode cX12_plain 12 = .ok (.lload_n 0, 1) := all_at dvX12_plain_0 8 rfl
theorem dX12_plain_13 : decode cX12_plain 13 = .ok (.lreturn, 1) := all_at dvX12_plain_0 9 rfl
set_option maxHeartbeats 4000000 in
set_option maxRecDepth 100000 in
/-- X12_in -/
theorem c_X12_in (l : Launch) (dC : Nat → ClassId) (dI : Nat → Nat → Nat) (n : Int64) (lo : Int64) (hi : Int64) (N L M : Int) (hn : n.toInt = N) (hlo : lo.toInt = L) (hhi : hi.toInt = M) : Met l yX12_in (wc yX12_in cX12_in 6 (some .boolean)) ({ frames := 0, cells := 0, slots := 0, locals := 0 } : Room) (pR (dC, dI) classes [] [] [.long n, .long lo, .long hi]) (vp_Si (fun r => (r = 1 ∧ (L ≤ N ∧ N ≤ M)) ∨ (r = 0 ∧ ¬ (L ≤ N ∧ N ≤ M)))) 0 0 (fun _ => False) := by
  refine Met.ofW (cc := cX12_in) (maxL := 6) (ret := (some .boolean)) (by decide) rfl ?_
  intro p e s m args below meth c s₁ B hml hv
  obtain ⟨rfl, hP, hK⟩ := hv
  have hx := B.exec
  have hb := B.bytes
  have hr := B.returns
  have ht := tb_tl (atoms_spec (ws := wc yX12_in cX12_in 6 (some .boolean)) B.pre)
  have hown : s.vm.findClass RX12 = some m.cls := findClass_of_methodNamed B.named
  have hlocks := B.notSynchronized
  have hl := lv_entry [.long n, .long lo, .long hi] (n := 6) (Nat.le_of_ble_eq_true rfl)
  rw [lg_entry_eq]
  generalize (lg_sl [.long n, .long lo, .long hi] ++ List.replicate (6 - (lg_sl [.long n, .long lo, .long hi]).length) Slot.unset).toArray = ls at hl ⊢
  have hl : lv_has ls 6 [(0, .long n), (2, .long lo), (4, .long hi)] := hl
  refine lv_lload_n hx hb dX12_in_0 rfl (lv_at hl 0 rfl) ?_
  refine lv_lload_n hx hb dX12_in_1 rfl (lv_at hl 1 rfl) ?_
  refine W.lcmp hx hb dX12_in_2 ?_
  refine lv_topi (fun v1 ev1 => ?_)
  refine lv_if_lt (tgt := 17) hx hb dX12_in_3 (by decide) (fun c2 => ?_) (fun c2 => ?_)
  · have fc2 := zc_lt ev1 hn hlo c2
    refine lv_iconst (v := 0) hx hb dX12_in_17 (by decide) ?_
    exact W.zret (v := 0) hx hb hr rfl (fun t ht9 hW => ⟨0, rfl, Or.inr ⟨rfl, by omega⟩, ht9⟩) (fun q hq => by cases hq) dX12_in_18
  · have fc2 := zc_nlt ev1 hn hlo c2
    refine lv_lload_n hx hb dX12_in_6 rfl (lv_at hl 0 rfl) ?_
    refine lv_lload hx hb dX12_in_7 (lv_at hl 2 rfl) ?_
    refine W.lcmp hx hb dX12_in_9 ?_
    refine lv_topi (fun v3 ev3 => ?_)
    refine lv_if_gt (tgt := 17) hx hb dX12_in_10 (by decide) (fun c4 => ?_) (fun c4 => ?_)
    · have fc4 := zc_gt ev3 hn hhi c4
      refine lv_iconst (v := 0) hx hb dX12_in_17 (by decide) ?_
      exact W.zret (v := 0) hx hb hr rfl (fun t ht9 hW => ⟨0, rfl, Or.inr ⟨rfl, by omega⟩, ht9⟩) (fun q hq => by cases hq) dX12_in_18
    · have fc4 := zc_ngt ev3 hn hhi c4
      refine lv_iconst (v := 1) hx hb dX12_in_13 (by decide) ?_
      refine lv_goto (tgt := 18) hx hb dX12_in_14 (by decide) ?_
      exact W.zret (v := 1) hx hb hr rfl (fun t ht9 hW => ⟨1, rfl, Or.inl ⟨rfl, by omega⟩, ht9⟩) (fun q hq => by cases hq) dX12_in_18
set_option maxHeartbeats 4000000 in
set_option maxRecDepth 100000 in
/-- X12_bit -/
theorem c_X12_bit (l : Launch) (dC : Nat → ClassId) (dI : Nat → Nat → Nat) (a : Int32) (h_a : 0 ≤ a.toInt ∧ a.toInt ≤ 1) : Met l yX12_bit (wc yX12_bit cX12_bit 1 (some .int)) ({ frames := 0, cells := 0, slots := 0, locals := 0 } : Room) (pR (dC, dI) classes [] [] [.int a]) (vp_Si (fun r => 0 ≤ r.toInt ∧ r.toInt ≤ 1)) 0 0 (fun _ => False) := by
  refine Met.ofW (cc := cX12_bit) (maxL := 1) (ret := (some .int)) (by decide) rfl ?_
  intro p e s m args below meth c s₁ B hml hv
  obtain ⟨rfl, hP, hK⟩ := hv
  have hx := B.exec
  have hb := B.bytes
  have hr := B.returns
  have ht := tb_tl (atoms_spec (ws := wc yX12_bit cX12_bit 1 (some .int)) B.pre)
  have hown : s.vm.findClass RX12 = some m.cls := findClass_of_methodNamed B.named
  have hlocks := B.notSynchronized
  have hl := lv_entry [.int a] (n := 1) (Nat.le_of_ble_eq_true rfl)
  rw [lg_entry_eq]
  generalize (lg_sl [.int a] ++ List.replicate (1 - (lg_sl [.int a]).length) Slot.unset).toArray = ls at hl ⊢
  have hl : lv_has ls 1 [(0, .int a)] := hl
  refine lv_iload_n hx hb dX12_bit_0 rfl (lv_at hl 0 rfl) ?_
  refine lv_if_eq (tgt := 8) hx hb dX12_bit_1 (by decide) (fun c1 => ?_) (fun c1 => ?_)
  · have fc1 := z_eq (rfl : (a).toInt = _) (by decide : (0 : Int32).toInt = 0) c1
    refine lv_iconst (v := 0) hx hb dX12_bit_8 (by decide) ?_
    exact W.iret (v := 0) hx hb hr (fun t ht9 hW => ⟨0, rfl, ⟨by decide, by decide⟩, ht9⟩) (fun q hq => by cases hq) dX12_bit_9
  · have fc1 := z_ne (rfl : (a).toInt = _) (by decide : (0 : Int32).toInt = 0) c1
    refine lv_iconst (v := 1) hx hb dX12_bit_4 (by decide) ?_
    refine lv_goto (tgt := 9) hx hb dX12_bit_5 (by decide) ?_
    exact W.iret (v := 1) hx hb hr (fun t ht9 hW => ⟨1, rfl, ⟨by decide, by decide⟩, ht9⟩) (fun q hq => by cases hq) dX12_bit_9
set_option maxHeartbeats 4000000 in
set_option maxRecDepth 100000 in
/-- X12_plain -/
theorem c_X12_plain (l : Launch) (dC : Nat → ClassId) (dI : Nat → Nat → Nat) (a : Int64) : Met l yX12_plain (wc yX12_plain cX12_plain 2 (some .long)) ({ frames := 0, cells := 0, slots := 0, locals := 0 } : Room) (pR (dC, dI) classes [] [] [.long a]) (vp_Sl (fun r => True)) 0 0 (fun _ => False) := by
  refine Met.ofW (cc := cX12_plain) (maxL := 2) (ret := (some .long)) (by decide) rfl ?_
  intro p e s m args below meth c s₁ B hml hv
  obtain ⟨rfl, hP, hK⟩ := hv
  have hx := B.exec
  have hb := B.bytes
  have hr := B.returns
  have ht := tb_tl (atoms_spec (ws := wc yX12_plain cX12_plain 2 (some .long)) B.pre)
  have hown : s.vm.findClass RX12 = some m.cls := findClass_of_methodNamed B.named
  have hlocks := B.notSynchronized
  have hl := lv_entry [.long a] (n := 2) (Nat.le_of_ble_eq_true rfl)
  rw [lg_entry_eq]
  generalize (lg_sl [.long a] ++ List.replicate (2 - (lg_sl [.long a]).length) Slot.unset).toArray = ls at hl ⊢
  have hl : lv_has ls 2 [(0, .long a)] := hl
  refine lv_lload_n hx hb dX12_plain_0 rfl (lv_at hl 0 rfl) ?_
  refine lv_lconst (v := 0) hx hb dX12_plain_1 (by decide) ?_
  refine W.lcmp hx hb dX12_plain_2 ?_
  refine lv_topi (fun v1 ev1 => ?_)
  refine lv_if_ge (tgt := 12) hx hb dX12_plain_3 (by decide) (fun c2 => ?_) (fun c2 => ?_)
  · have fc2 := zc_nlt ev1 (rfl : (a).toInt = _) (by decide : (0 : Int64).toInt = 0) (Int32.not_lt.mpr c2)
    refine lv_lload_n hx hb dX12_plain_12 rfl (lv_at hl 0 rfl) ?_
    exact W.lret (v := a) hx hb hr (fun t ht9 hW => ⟨a, rfl, trivial, ht9⟩) (fun q hq => by cases hq) dX12_plain_13
  · have fc2 := zc_lt ev1 (rfl : (a).toInt = _) (by decide : (0 : Int64).toInt = 0) (Int32.not_le.mp c2)
    refine lv_lconst (v := 0) hx hb dX12_plain_6 (by decide) ?_
    refine lv_lload_n hx hb dX12_plain_7 rfl (lv_at hl 0 rfl) ?_
    refine lv_lsub hx hb dX12_plain_8 ?_
    refine lv_topl (fun w3 ew3 => ?_)
    refine lv_goto (tgt := 13) hx hb dX12_plain_9 (by decide) ?_
    exact W.lret (v := w3) hx hb hr (fun t ht9 hW => ⟨w3, rfl, trivial, ht9⟩) (fun q hq => by cases hq) dX12_plain_13
set_option maxHeartbeats 4000000 in
set_option maxRecDepth 100000 in
/-- X12_noBale -/
theorem c_X12_noBale (l : Launch) (dC : Nat → ClassId) (dI : Nat → Nat → Nat) (h : Nat) (g : Nat → Nat → Nat) (ca : Nat → Nat → ClassId) (iv : Nat → Nat → Int32) (lv : Nat → Nat → Int64) (fa : Nat → Nat → Nat → Int32) (la : Nat → Nat → Nat → Int64) (hI : IX iv fa) (a : Int32) : Met l yX12_noBale (wc yX12_noBale cX12_noBale 2 (some .boolean)) ({ frames := 1, cells := 0, slots := 0, locals := 25 } : Room) (pR (dC, dI) classes (WM h g ca iv lv fa la) (TM ca) [.ref h, .int a]) (vp_Si (fun r => (r = 1 ∧ (¬ (0 ≤ a.toInt ∧ a.toInt < (iv 12 1).toInt))) ∨ (r = 0 ∧ ¬ (¬ (0 ≤ a.toInt ∧ a.toInt < (iv 12 1).toInt))))) 0 0 (fun _ => False) := by
  refine Met.ofW (cc := cX12_noBale) (maxL := 2) (ret := (some .boolean)) (by decide) rfl ?_
  intro p e s m args below meth c s₁ B hml hv
  obtain ⟨rfl, hP, hK⟩ := hv
  have hx := B.exec
  have hb := B.bytes
  have hr := B.returns
  have ht := tb_tl (atoms_spec (ws := wc yX12_noBale cX12_noBale 2 (some .boolean)) B.pre)
  have hown : s.vm.findClass RX12 = some m.cls := findClass_of_methodNamed B.named
  have hlocks := B.notSynchronized
  have hl := lv_entry [.ref h, .int a] (n := 2) (Nat.le_of_ble_eq_true rfl)
  rw [lg_entry_eq]
  generalize (lg_sl [.ref h, .int a] ++ List.replicate (2 - (lg_sl [.ref h, .int a]).length) Slot.unset).toArray = ls at hl ⊢
  have hl : lv_has ls 2 [(0, .ref h), (1, .int a)] := hl
  refine lv_iload_n hx hb dX12_noBale_0 rfl (lv_at hl 1 rfl) ?_
  refine lv_i2l (v := (a.toInt64)) hx hb dX12_noBale_1 rfl ?_
  refine lv_lconst (v := 0) hx hb dX12_noBale_2 (by decide) ?_
  refine lv_aload_n hx hb dX12_noBale_3 rfl (lv_at hl 0 rfl) ?_
  have i_12_1 : 0 ≤ (iv 12 1).toInt ∧ (iv 12 1).toInt ≤ 10 := hI.1 12 1
  refine gM_12_1 hx hb ht hown hK hP m_1140 (v := (iv 12 1)) rfl dX12_noBale_4 ?_
  refine lv_iconst (v := 1) hx hb dX12_noBale_7 (by decide) ?_
  refine lv_isub hx hb dX12_noBale_8 ?_
  refine lv_topi (fun v1 ev1 => ?_)
  have tv1 := z_sub ev1 (rfl : ((iv 12 1)).toInt = _) (by decide : (1 : Int32).toInt = 1) (by omega) (by omega)
  refine lv_i2l (v := (v1.toInt64)) hx hb dX12_noBale_9 rfl ?_
  refine vp_callSi (W.runS (As := [.long (a.toInt64), .long 0, .long (v1.toInt64)]) (rest := []) ⟨hx, hb, hml, hown, ht⟩ (c_X12_in l dC dI (a.toInt64) 0 (v1.toInt64) (a.toInt) (0) (v1.toInt) ((Int32.toInt_toInt64 a).trans rfl) (by decide : (0 : Int64).toInt = 0) ((Int32.toInt_toInt64 v1).trans rfl)) (kS 3 ht m_1370 m_1371 m_89 m_1372 rfl rfl hd_X12_in_v ⟨Nat.le_of_ble_eq_true rfl, Nat.le_of_ble_eq_true rfl⟩) (sR noP (hK.sub (tys' := []) [] rfl)) rfl rfl hl.1 rfl (lv_room (Nat.le_of_ble_eq_true rfl)) dX12_noBale_10 ⟨Nat.le_of_ble_eq_true rfl, Nat.le_of_ble_eq_true rfl⟩) (fun r2 hr2 => ?_)
  rcases hr2 with ⟨rfl, fr2⟩ | ⟨rfl, fr2⟩
  · skip
    refine lv_if_ne (tgt := 20) hx hb dX12_noBale_13 (by decide) (fun c3 => ?_) (fun c3 => ?_)
    · skip
      refine lv_iconst (v := 0) hx hb dX12_noBale_20 (by decide) ?_
      exact W.zret (v := 0) hx hb hr rfl (fun t ht9 hW => ⟨0, rfl, Or.inr ⟨rfl, by omega⟩, ht9⟩) (fun q hq => by cases hq) dX12_noBale_21
    · exact absurd c3 (by decide)
  · skip
    refine lv_if_ne (tgt := 20) hx hb dX12_noBale_13 (by decide) (fun c4 => ?_) (fun c4 => ?_)
    · exact absurd rfl c4
    · skip
      refine lv_iconst (v := 1) hx hb dX12_noBale_16 (by decide) ?_
      refine lv_goto (tgt := 21) hx hb dX12_noBale_17 (by decide) ?_
      exact W.zret (v := 1) hx hb hr rfl (fun t ht9 hW => ⟨1, rfl, Or.inl ⟨rfl, by omega⟩, ht9⟩) (fun q hq => by cases hq) dX12_noBale_21
set_option maxHeartbeats 4000000 in
set_option maxRecDepth 100000 in
/-- X12_noSkein -/
theorem c_X12_noSkein (l : Launch) (dC : Nat → ClassId) (dI : Nat → Nat → Nat) (h : Nat) (g : Nat → Nat → Nat) (ca : Nat → Nat → ClassId) (iv : Nat → Nat → Int32) (lv : Nat → Nat → Int64) (fa : Nat → Nat → Nat → Int32) (la : Nat → Nat → Nat → Int64) (hI : IX iv fa) (a : Int32) : Met l yX12_noSkein (wc yX12_noSkein cX12_noSkein 2 (some .boolean)) ({ frames := 1, cells := 0, slots := 0, locals := 25 } : Room) (pR (dC, dI) classes (WM h g ca iv lv fa la) (TM ca) [.ref h, .int a]) (vp_Si (fun r => (r = 1 ∧ (¬ (0 ≤ a.toInt ∧ a.toInt < (iv 12 3).toInt))) ∨ (r = 0 ∧ ¬ (¬ (0 ≤ a.toInt ∧ a.toInt < (iv 12 3).toInt))))) 0 0 (fun _ => False) := by
  refine Met.ofW (cc := cX12_noSkein) (maxL := 2) (ret := (some .boolean)) (by decide) rfl ?_
  intro p e s m args below meth c s₁ B hml hv
  obtain ⟨rfl, hP, hK⟩ := hv
  have hx := B.exec
  have hb := B.bytes
  have hr := B.returns
  have ht := tb_tl (atoms_spec (ws := wc yX12_noSkein cX12_noSkein 2 (some .boolean)) B.pre)
  have hown : s.vm.findClass RX12 = some m.cls := findClass_of_methodNamed B.named
  have hlocks := B.notSynchronized
  have hl := lv_entry [.ref h, .int a] (n := 2) (Nat.le_of_ble_eq_true rfl)
  rw [lg_entry_eq]
  generalize (lg_sl [.ref h, .int a] ++ List.replicate (2 - (lg_sl [.ref h, .int a]).length) Slot.unset).toArray = ls at hl ⊢
  have hl : lv_has ls 2 [(0, .ref h), (1, .int a)] := hl
  refine lv_iload_n hx hb dX12_noSkein_0 rfl (lv_at hl 1 rfl) ?_
  refine lv_i2l (v := (a.toInt64)) hx hb dX12_noSkein_1 rfl ?_
  refine lv_lconst (v := 0) hx hb dX12_noSkein_2 (by decide) ?_
  refine lv_aload_n hx hb dX12_noSkein_3 rfl (lv_at hl 0 rfl) ?_
  have i_12_3 : 0 ≤ (iv 12 3).toInt ∧ (iv 12 3).toInt ≤ 60 := hI.1 12 3
  refine gM_12_3 hx hb ht hown hK hP m_1142 (v := (iv 12 3)) rfl dX12_noSkein_4 ?_
  refine lv_iconst (v := 1) hx hb dX12_noSkein_7 (by decide) ?_
  refine lv_isub hx hb dX12_noSkein_8 ?_
  refine lv_topi (fun v1 ev1 => ?_)
  have tv1 := z_sub ev1 (rfl : ((iv 12 3)).toInt = _) (by decide : (1 : Int32).toInt = 1) (by omega) (by omega)
  refine lv_i2l (v := (v1.toInt64)) hx hb dX12_noSkein_9 rfl ?_
  refine vp_callSi (W.runS (As := [.long (a.toInt64), .long 0, .long (v1.toInt64)]) (rest := []) ⟨hx, hb, hml, hown, ht⟩ (c_X12_in l dC dI (a.toInt64) 0 (v1.toInt64) (a.toInt) (0) (v1.toInt) ((Int32.toInt_toInt64 a).trans rfl) (by decide : (0 : Int64).toInt = 0) ((Int32.toInt_toInt64 v1).trans rfl)) (kS 3 ht m_1370 m_1371 m_89 m_1372 rfl rfl hd_X12_in_v ⟨Nat.le_of_ble_eq_true rfl, Nat.le_of_ble_eq_true rfl⟩) (sR noP (hK.sub (tys' := []) [] rfl)) rfl rfl hl.1 rfl (lv_room (Nat.le_of_ble_eq_true rfl)) dX12_noSkein_10 ⟨Nat.le_of_ble_eq_true rfl, Nat.le_of_ble_eq_true rfl⟩) (fun r2 hr2 => ?_)
  rcases hr2 with ⟨rfl, fr2⟩ | ⟨rfl, fr2⟩
  · skip
    refine lv_if_ne (tgt := 20) hx hb dX12_noSkein_13 (by decide) (fun c3 => ?_) (fun c3 => ?_)
    · skip
      refine lv_iconst (v := 0) hx hb dX12_noSkein_20 (by decide) ?_
      exact W.zret (v := 0) hx hb hr rfl (fun t ht9 hW => ⟨0, rfl, Or.inr ⟨rfl, by omega⟩, ht9⟩) (fun q hq => by cases hq) dX12_noSkein_21
    · exact absurd c3 (by decide)
  · skip
    refine lv_if_ne (tgt := 20) hx hb dX12_noSkein_13 (by decide) (fun c4 => ?_) (fun c4 => ?_)
    · exact absurd rfl c4
    · skip
      refine lv_iconst (v := 1) hx hb dX12_noSkein_16 (by decide) ?_
      refine lv_goto (tgt := 21) hx hb dX12_noSkein_17 (by decide) ?_
      exact W.zret (v := 1) hx hb hr rfl (fun t ht9 hW => ⟨1, rfl, Or.inl ⟨rfl, by omega⟩, ht9⟩) (fun q hq => by cases hq) dX12_noSkein_21
set_option maxHeartbeats 4000000 in
set_option maxRecDepth 100000 in
/-- X12_noPaper -/
theorem c_X12_noPaper (l : Launch) (dC : Nat → ClassId) (dI : Nat → Nat → Nat) (h : Nat) (g : Nat → Nat → Nat) (ca : Nat → Nat → ClassId) (iv : Nat → Nat → Int32) (lv : Nat → Nat → Int64) (fa : Nat → Nat → Nat → Int32) (la : Nat → Nat → Nat → Int64) (hI : IX iv fa) (a : Int32) : Met l yX12_noPaper (wc yX12_noPaper cX12_noPaper 2 (some .boolean)) ({ frames := 1, cells := 0, slots := 0, locals := 25 } : Room) (pR (dC, dI) classes (WM h g ca iv lv fa la) (TM ca) [.ref h, .int a]) (vp_Si (fun r => (r = 1 ∧ (¬ (0 ≤ a.toInt ∧ a.toInt < (iv 12 67).toInt))) ∨ (r = 0 ∧ ¬ (¬ (0 ≤ a.toInt ∧ a.toInt < (iv 12 67).toInt))))) 0 0 (fun _ => False) := by
  refine Met.ofW (cc := cX12_noPaper) (maxL := 2) (ret := (some .boolean)) (by decide) rfl ?_
  intro p e s m args below meth c s₁ B hml hv
  obtain ⟨rfl, hP, hK⟩ := hv
  have hx := B.exec
  have hb := B.bytes
  have hr := B.returns
  have ht := tb_tl (atoms_spec (ws := wc yX12_noPaper cX12_noPaper 2 (some .boolean)) B.pre)
  have hown : s.vm.findClass RX12 = some m.cls := findClass_of_methodNamed B.named
  have hlocks := B.notSynchronized
  have hl := lv_entry [.ref h, .int a] (n := 2) (Nat.le_of_ble_eq_true rfl)
  rw [lg_entry_eq]
  generalize (lg_sl [.ref h, .int a] ++ List.replicate (2 - (lg_sl [.ref h, .int a]).length) Slot.unset).toArray = ls at hl ⊢
  have hl : lv_has ls 2 [(0, .ref h), (1, .int a)] := hl
  refine lv_iload_n hx hb dX12_noPaper_0 rfl (lv_at hl 1 rfl) ?_
  refine lv_i2l (v := (a.toInt64)) hx hb dX12_noPaper_1 rfl ?_
  refine lv_lconst (v := 0) hx hb dX12_noPaper_2 (by decide) ?_
  refine lv_aload_n hx hb dX12_noPaper_3 rfl (lv_at hl 0 rfl) ?_
  have i_12_67 : 0 ≤ (iv 12 67).toInt ∧ (iv 12 67).toInt ≤ 40 := hI.1 12 67
  refine gM_12_67 hx hb ht hown hK hP m_1206 (v := (iv 12 67)) rfl dX12_noPaper_4 ?_
  refine lv_iconst (v := 1) hx hb dX12_noPaper_7 (by decide) ?_
  refine lv_isub hx hb dX12_noPaper_8 ?_
  refine lv_topi (fun v1 ev1 => ?_)
  have tv1 := z_sub ev1 (rfl : ((iv 12 67)).toInt = _) (by decide : (1 : Int32).toInt = 1) (by omega) (by omega)
  refine lv_i2l (v := (v1.toInt64)) hx hb dX12_noPaper_9 rfl ?_
  refine vp_callSi (W.runS (As := [.long (a.toInt64), .long 0, .long (v1.toInt64)]) (rest := []) ⟨hx, hb, hml, hown, ht⟩ (c_X12_in l dC dI (a.toInt64) 0 (v1.toInt64) (a.toInt) (0) (v1.toInt) ((Int32.toInt_toInt64 a).trans rfl) (by decide : (0 : Int64).toInt = 0) ((Int32.toInt_toInt64 v1).trans rfl)) (kS 3 ht m_1370 m_1371 m_89 m_1372 rfl rfl hd_X12_in_v ⟨Nat.le_of_ble_eq_true rfl, Nat.le_of_ble_eq_true rfl⟩) (sR noP (hK.sub (tys' := []) [] rfl)) rfl rfl hl.1 rfl (lv_room (Nat.le_of_ble_eq_true rfl)) dX12_noPaper_10 ⟨Nat.le_of_ble_eq_true rfl, Nat.le_of_ble_eq_true rfl⟩) (fun r2 hr2 => ?_)
  rcases hr2 with ⟨rfl, fr2⟩ | ⟨rfl, fr2⟩
  · skip
    refine lv_if_ne (tgt := 20) hx hb dX12_noPaper_13 (by decide) (fun c3 => ?_) (fun c3 => ?_)
    · skip
      refine lv_iconst (v := 0) hx hb dX12_noPaper_20 (by decide) ?_
      exact W.zret (v := 0) hx hb hr rfl (fun t ht9 hW => ⟨0, rfl, Or.inr ⟨rfl, by omega⟩, ht9⟩) (fun q hq => by cases hq) dX12_noPaper_21
    · exact absurd c3 (by decide)
  · skip
    refine lv_if_ne (tgt := 20) hx hb dX12_noPaper_13 (by decide) (fun c4 => ?_) (fun c4 => ?_)
    · exact absurd rfl c4
    · skip
      refine lv_iconst (v := 1) hx hb dX12_noPaper_16 (by decide) ?_
      refine lv_goto (tgt := 21) hx hb dX12_noPaper_17 (by decide) ?_
      exact W.zret (v := 1) hx hb hr rfl (fun t ht9 hW => ⟨1, rfl, Or.inl ⟨rfl, by omega⟩, ht9⟩) (fun q hq => by cases hq) dX12_noPaper_21
set_option maxHeartbeats 4000000 in
set_option maxRecDepth 100000 in
/-- X12_isPast -/
theorem c_X12_isPast (l : Launch) (dC : Nat → ClassId) (dI : Nat → Nat → Nat) (h : Nat) (g : Nat → Nat → Nat) (ca : Nat → Nat → ClassId) (iv : Nat → Nat → Int32) (lv : Nat → Nat → Int64) (fa : Nat → Nat → Nat → Int32) (la : Nat → Nat → Nat → Int64) (hI : IX iv fa) (a : Int32) : Met l yX12_isPast (wc yX12_isPast cX12_isPast 2 (some .boolean)) ({ frames := 1, cells := 0, slots := 0, locals := 25 } : Room) (pR (dC, dI) classes (WM h g ca iv lv fa la) (TM ca) [.ref h, .int a]) (vp_Si (fun r => (r = 1 ∧ (0 ≤ a.toInt ∧ a.toInt ≤ (iv 12 0).toInt)) ∨ (r = 0 ∧ ¬ (0 ≤ a.toInt ∧ a.toInt ≤ (iv 12 0).toInt)))) 0 0 (fun _ => False) := by
  refine Met.ofW (cc := cX12_isPast) (maxL := 2) (ret := (some .boolean)) (by decide) rfl ?_
  intro p e s m args below meth c s₁ B hml hv
  obtain ⟨rfl, hP, hK⟩ := hv
  have hx := B.exec
  have hb := B.bytes
  have hr := B.returns
  have ht := tb_tl (atoms_spec (ws := wc yX12_isPast cX12_isPast 2 (some .boolean)) B.pre)
  have hown : s.vm.findClass RX12 = some m.cls := findClass_of_methodNamed B.named
  have hlocks := B.notSynchronized
  have hl := lv_entry [.ref h, .int a] (n := 2) (Nat.le_of_ble_eq_true rfl)
  rw [lg_entry_eq]
  generalize (lg_sl [.ref h, .int a] ++ List.replicate (2 - (lg_sl [.ref h, .int a]).length) Slot.unset).toArray = ls at hl ⊢
  have hl : lv_has ls 2 [(0, .ref h), (1, .int a)] := hl
  refine lv_iload_n hx hb dX12_isPast_0 rfl (lv_at hl 1 rfl) ?_
  refine lv_i2l (v := (a.toInt64)) hx hb dX12_isPast_1 rfl ?_
  refine lv_lconst (v := 0) hx hb dX12_isPast_2 (by decide) ?_
  refine lv_aload_n hx hb dX12_isPast_3 rfl (lv_at hl 0 rfl) ?_
  have i_12_0 : 0 ≤ (iv 12 0).toInt ∧ (iv 12 0).toInt ≤ 3000 := hI.1 12 0
  refine gM_12_0 hx hb ht hown hK hP m_1139 (v := (iv 12 0)) rfl dX12_isPast_4 ?_
  refine lv_i2l (v := ((iv 12 0).toInt64)) hx hb dX12_isPast_7 rfl ?_
  refine vp_callSi (W.runS (As := [.long (a.toInt64), .long 0, .long ((iv 12 0).toInt64)]) (rest := []) ⟨hx, hb, hml, hown, ht⟩ (c_X12_in l dC dI (a.toInt64) 0 ((iv 12 0).toInt64) (a.toInt) (0) ((iv 12 0).toInt) ((Int32.toInt_toInt64 a).trans rfl) (by decide : (0 : Int64).toInt = 0) ((Int32.toInt_toInt64 (iv 12 0)).trans rfl)) (kS 3 ht m_1370 m_1371 m_89 m_1372 rfl rfl hd_X12_in_v ⟨Nat.le_of_ble_eq_true rfl, Nat.le_of_ble_eq_true rfl⟩) (sR noP (hK.sub (tys' := []) [] rfl)) rfl rfl hl.1 rfl (lv_room (Nat.le_of_ble_eq_true rfl)) dX12_isPast_8 ⟨Nat.le_of_ble_eq_true rfl, Nat.le_of_ble_eq_true rfl⟩) (fun r1 hr1 => ?_)
  rcases hr1 with ⟨rfl, fr1⟩ | ⟨rfl, fr1⟩
  · skip
    exact W.zret (v := 1) hx hb hr rfl (fun t ht9 hW => ⟨1, rfl, Or.inl ⟨rfl, by omega⟩, ht9⟩) (fun q hq => by cases hq) dX12_isPast_11
  · skip
    exact W.zret (v := 0) hx hb hr rfl (fun t ht9 hW => ⟨0, rfl, Or.inr ⟨rfl, by omega⟩, ht9⟩) (fun q hq => by cases hq) dX12_isPast_11
set_option maxHeartbeats 4000000 in
set_option maxRecDepth 100000 in
/-- X12_isDay -/
theorem c_X12_isDay (l : Launch) (dC : Nat → ClassId) (dI : Nat → Nat → Nat) (a : Int32) : Met l yX12_isDay (wc yX12_isDay cX12_isDay 1 (some .boolean)) ({ frames := 1, cells := 0, slots := 0, locals := 25 } : Room) (pR (dC, dI) classes [] [] [.int a]) (vp_Si (fun r => (r = 1 ∧ (0 ≤ a.toInt ∧ a.toInt ≤ 3000)) ∨ (r = 0 ∧ ¬ (0 ≤ a.toInt ∧ a.toInt ≤ 3000)))) 0 0 (fun _ => False) := by
  refine Met.ofW (cc := cX12_isDay) (maxL := 1) (ret := (some .boolean)) (by decide) rfl ?_
  intro p e s m args below meth c s₁ B hml hv
  obtain ⟨rfl, hP, hK⟩ := hv
  have hx := B.exec
  have hb := B.bytes
  have hr := B.returns
  have ht := tb_tl (atoms_spec (ws := wc yX12_isDay cX12_isDay 1 (some .boolean)) B.pre)
  have hown : s.vm.findClass RX12 = some m.cls := findClass_of_methodNamed B.named
  have hlocks := B.notSynchronized
  have hl := lv_entry [.int a] (n := 1) (Nat.le_of_ble_eq_true rfl)
  rw [lg_entry_eq]
  generalize (lg_sl [.int a] ++ List.replicate (1 - (lg_sl [.int a]).length) Slot.unset).toArray = ls at hl ⊢
  have hl : lv_has ls 1 [(0, .int a)] := hl
  refine lv_iload_n hx hb dX12_isDay_0 rfl (lv_at hl 0 rfl) ?_
  refine lv_i2l (v := (a.toInt64)) hx hb dX12_isDay_1 rfl ?_
  refine lv_lconst (v := 0) hx hb dX12_isDay_2 (by decide) ?_
  refine lv_ldc2 hx hb hown (ht _ m_1425) dX12_isDay_3 ?_
  refine vp_callSi (W.runS (As := [.long (a.toInt64), .long 0, .long 3000]) (rest := []) ⟨hx, hb, hml, hown, ht⟩ (c_X12_in l dC dI (a.toInt64) 0 3000 (a.toInt) (0) (3000) ((Int32.toInt_toInt64 a).trans rfl) (by decide : (0 : Int64).toInt = 0) (by decide : (3000 : Int64).toInt = 3000)) (kS 3 ht m_1370 m_1371 m_89 m_1372 rfl rfl hd_X12_in_v ⟨Nat.le_of_ble_eq_true rfl, Nat.le_of_ble_eq_true rfl⟩) (sR noP (hK.sub (tys' := []) [] rfl)) rfl rfl hl.1 rfl (lv_room (Nat.le_of_ble_eq_true rfl)) dX12_isDay_6 ⟨Nat.le_of_ble_eq_true rfl, Nat.le_of_ble_eq_true rfl⟩) (fun r1 hr1 => ?_)
  rcases hr1 with ⟨rfl, fr1⟩ | ⟨rfl, fr1⟩
  · skip
    exact W.zret (v := 1) hx hb hr rfl (fun t ht9 hW => ⟨1, rfl, Or.inl ⟨rfl, by omega⟩, ht9⟩) (fun q hq => by cases hq) dX12_isDay_9
  · skip
    exact W.zret (v := 0) hx hb hr rfl (fun t ht9 hW => ⟨0, rfl, Or.inr ⟨rfl, by omega⟩, ht9⟩) (fun q hq => by cases hq) dX12_isDay_9
set_option maxHeartbeats 4000000 in
set_option maxRecDepth 100000 in
/-- X12_isWeight -/
theorem c_X12_isWeight (l : Launch) (dC : Nat → ClassId) (dI : Nat → Nat → Nat) (a : Int32) : Met l yX12_isWeight (wc yX12_isWeight cX12_isWeight 1 (some .boolean)) ({ frames := 1, cells := 0, slots := 0, locals := 25 } : Room) (pR (dC, dI) classes [] [] [.int a]) (vp_Si (fun r => (r = 1 ∧ (1 ≤ a.toInt ∧ a.toInt ≤ 9999)) ∨ (r = 0 ∧ ¬ (1 ≤ a.toInt ∧ a.toInt ≤ 9999)))) 0 0 (fun _ => False) := by
  refine Met.ofW (cc := cX12_isWeight) (maxL := 1) (ret := (some .boolean)) (by decide) rfl ?_
  intro p e s m args below meth c s₁ B hml hv
  obtain ⟨rfl, hP, hK⟩ := hv
  have hx := B.exec
  have hb := B.bytes
  have hr := B.returns
  have ht := tb_tl (atoms_spec (ws := wc yX12_isWeight cX12_isWeight 1 (some .boolean)) B.pre)
  have hown : s.vm.findClass RX12 = some m.cls := findClass_of_methodNamed B.named
  have hlocks := B.notSynchronized
  have hl := lv_entry [.int a] (n := 1) (Nat.le_of_ble_eq_true rfl)
  rw [lg_entry_eq]
  generalize (lg_sl [.int a] ++ List.replicate (1 - (lg_sl [.int a]).length) Slot.unset).toArray = ls at hl ⊢
  have hl : lv_has ls 1 [(0, .int a)] := hl
  refine lv_iload_n hx hb dX12_isWeight_0 rfl (lv_at hl 0 rfl) ?_
  refine lv_i2l (v := (a.toInt64)) hx hb dX12_isWeight_1 rfl ?_
  refine lv_lconst (v := 1) hx hb dX12_isWeight_2 (by decide) ?_
  refine lv_ldc2 hx hb hown (ht _ m_1393) dX12_isWeight_3 ?_
  refine vp_callSi (W.runS (As := [.long (a.toInt64), .long 1, .long 9999]) (rest := []) ⟨hx, hb, hml, hown, ht⟩ (c_X12_in l dC dI (a.toInt64) 1 9999 (a.toInt) (1) (9999) ((Int32.toInt_toInt64 a).trans rfl) (by decide : (1 : Int64).toInt = 1) (by decide : (9999 : Int64).toInt = 9999)) (kS 3 ht m_1370 m_1371 m_89 m_1372 rfl rfl hd_X12_in_v ⟨Nat.le_of_ble_eq_true rfl, Nat.le_of_ble_eq_true rfl⟩) (sR noP (hK.sub (tys' := []) [] rfl)) rfl rfl hl.1 rfl (lv_room (Nat.le_of_ble_eq_true rfl)) dX12_isWeight_6 ⟨Nat.le_of_ble_eq_true rfl, Nat.le_of_ble_eq_true rfl⟩) (fun r1 hr1 => ?_)
  rcases hr1 with ⟨rfl, fr1⟩ | ⟨rfl, fr1⟩
  · skip
    exact W.zret (v := 1) hx hb hr rfl (fun t ht9 hW => ⟨1, rfl, Or.inl ⟨rfl, by omega⟩, ht9⟩) (fun q hq => by cases hq) dX12_isWeight_9
  · skip
    exact W.zret (v := 0) hx hb hr rfl (fun t ht9 hW => ⟨0, rfl, Or.inr ⟨rfl, by omega⟩, ht9⟩) (fun q hq => by cases hq) dX12_isWeight_9
/-! ===== m1 ===== -/
set_option maxRecDepth 100000 in
theorem m_42 : Cond.selects RX12 yX12_noBale yX12_noBale ∈ tb := tb_in 42 (by decide +kernel) rfl
set_option maxRecDepth 100000 in
theorem m_43 : Cond.selects RX12 yX12_noSkein yX12_noSkein ∈ tb := tb_in 43 (by decide +kernel) rfl
theorem m_1141 : Cond.fieldLink RX12 7 "SilkHouseModel" "gross" "[I" ∈ tb := mb_5_4 _ (List.mem_of_getElem? (i := 6) rfl)
theorem m_1143 : Cond.fieldLink RX12 13 "SilkHouseModel" "ofBale" "[I" ∈ tb := mb_5_4 _ (List.mem_of_getElem? (i := 8) rfl)
theorem m_1144 : Cond.fieldLink RX12 16 "SilkHouseModel" "ofLook" "[I" ∈ tb := mb_5_4 _ (List.mem_of_getElem? (i := 9) rfl)
theorem m_1145 : Cond.fieldLink RX12 19 "SilkHouseModel" "scaleOf" "[I" ∈ tb := mb_5_4 _ (List.mem_of_getElem? (i := 10) rfl)
theorem m_1146 : Cond.fieldLink RX12 22 "SilkHouseModel" "raw" "[I" ∈ tb := mb_5_4 _ (List.mem_of_getElem? (i := 11) rfl)
theorem m_1147 : Cond.fieldLink RX12 25 "SilkHouseModel" "dry" "[I" ∈ tb := mb_5_4 _ (List.mem_of_getElem? (i := 12) rfl)
theorem m_1148 : Cond.fieldLink RX12 28 "SilkHouseModel" "oven" "[I" ∈ tb := mb_5_4 _ (List.mem_of_getElem? (i := 13) rfl)
theorem m_1149 : Cond.fieldLink RX12 31 "SilkHouseModel" "hand" "[I" ∈ tb := mb_5_4 _ (List.mem_of_getElem? (i := 14) rfl)
theorem m_1150 : Cond.fieldLink RX12 34 "SilkHouseModel" "dayOf" "[I" ∈ tb := mb_5_4 _ (List.mem_of_getElem? (i := 15) rfl)
theorem m_1151 : Cond.fieldLink RX12 37 "SilkHouseModel" "lostOn" "[I" ∈ tb := mb_5_4 _ (List.mem_of_getElem? (i := 16) rfl)
theorem m_1152 : Cond.fieldLink RX12 213 "SilkHouseModel" "tests" "I" ∈ tb := mb_5_4 _ (List.mem_of_getElem? (i := 17) rfl)
theorem m_1153 : Cond.fieldLink RX12 40 "SilkHouseModel" "testScale" "[I" ∈ tb := mb_5_4 _ (List.mem_of_getElem? (i := 18) rfl)
theorem m_1154 : Cond.fieldLink RX12 43 "SilkHouseModel" "testError" "[I" ∈ tb := mb_5_4 _ (List.mem_of_getElem? (i := 19) rfl)
theorem m_1155 : Cond.fieldLink RX12 46 "SilkHouseModel" "testDay" "[I" ∈ tb := mb_5_4 _ (List.mem_of_getElem? (i := 20) rfl)
theorem m_1190 : Cond.fieldLink RX12 109 "SilkHouseModel" "threads" "[I" ∈ tb := mb_5_6 _ (List.mem_of_getElem? (i := 7) rfl)
theorem m_1192 : Cond.fieldLink RX12 115 "SilkHouseModel" "countMany" "[I" ∈ tb := mb_5_6 _ (List.mem_of_getElem? (i := 9) rfl)
theorem m_1369 : Cond.constantLong RX12 176 (999) ∈ tb := mb_6_0 _ (List.mem_of_getElem? (i := 4) rfl)
theorem m_1373 : Cond.constant RX12 178 (-100002) ∈ tb := mb_6_0 _ (List.mem_of_getElem? (i := 8) rfl)
theorem m_1374 : Cond.constant RX12 179 (-100003) ∈ tb := mb_6_0 _ (List.mem_of_getElem? (i := 9) rfl)
theorem m_1379 : Cond.constantLong RX12 180 (99999) ∈ tb := mb_6_0 _ (List.mem_of_getElem? (i := 14) rfl)
theorem m_1380 : Cond.constant RX12 182 (-100004) ∈ tb := mb_6_0 _ (List.mem_of_getElem? (i := 15) rfl)
theorem m_1385 : Cond.methodLink RX12 183 yX12_noBale ∈ tb := mb_6_0 _ (List.mem_of_getElem? (i := 20) rfl)
theorem m_1387 : Cond.instanceMethod yX12_noBale ∈ tb := mb_6_0 _ (List.mem_of_getElem? (i := 21) rfl)
theorem m_1388 : Cond.code yX12_noBale cX12_noBale 2 (some .boolean) ∈ tb := mb_6_0 _ (List.mem_of_getElem? (i := 22) rfl)
theorem m_1389 : Cond.constant RX12 187 (-100001) ∈ tb := mb_6_0 _ (List.mem_of_getElem? (i := 23) rfl)
theorem m_1390 : Cond.constantLong RX12 188 (2) ∈ tb := mb_6_1 _ (List.mem_of_getElem? (i := 0) rfl)
theorem m_1391 : Cond.constantLong RX12 190 (3) ∈ tb := mb_6_1 _ (List.mem_of_getElem? (i := 1) rfl)
theorem m_1392 : Cond.constantLong RX12 192 (100) ∈ tb := mb_6_1 _ (List.mem_of_getElem? (i := 2) rfl)
theorem m_1394 : Cond.constantLong RX12 196 (50) ∈ tb := mb_6_1 _ (List.mem_of_getElem? (i := 4) rfl)
theorem m_1395 : Cond.constantLong RX12 198 (7) ∈ tb := mb_6_1 _ (List.mem_of_getElem? (i := 5) rfl)
theorem m_1396 : Cond.methodLink RX12 203 yX12_bit ∈ tb := mb_6_1 _ (List.mem_of_getElem? (i := 6) rfl)
theorem m_1397 : Cond.static yX12_bit ∈ tb := mb_6_1 _ (List.mem_of_getElem? (i := 7) rfl)
theorem m_1398 : Cond.code yX12_bit cX12_bit 1 (some .int) ∈ tb := mb_6_1 _ (List.mem_of_getElem? (i := 8) rfl)
theorem m_1403 : Cond.methodLink RX12 207 yX12_noSkein ∈ tb := mb_6_1 _ (List.mem_of_getElem? (i := 13) rfl)
theorem m_1405 : Cond.instanceMethod yX12_noSkein ∈ tb := mb_6_1 _ (List.mem_of_getElem? (i := 14) rfl)
theorem m_1406 : Cond.code yX12_noSkein cX12_noSkein 2 (some .boolean) ∈ tb := mb_6_1 _ (List.mem_of_getElem? (i := 15) rfl)
theorem m_1415 : Cond.methodLink RX12 210 yX12_isWeight ∈ tb := mb_6_2 _ (List.mem_of_getElem? (i := 0) rfl)
theorem m_1416 : Cond.static yX12_isWeight ∈ tb := mb_6_2 _ (List.mem_of_getElem? (i := 1) rfl)
theorem m_1417 : Cond.code yX12_isWeight cX12_isWeight 1 (some .boolean) ∈ tb := mb_6_2 _ (List.mem_of_getElem? (i := 2) rfl)
theorem hd_X12_bit_v : yX12_bit.cls = RX12 ∧ yX12_bit.cls ≠ "java/lang/invoke/MethodHandle" ∧ yX12_bit.cls ≠ "java/lang/invoke/VarHandle" ∧ (parseMethodDescriptor yX12_bit.desc).map (fun d => d.parameters.length) = some 1 := by decide +kernel
theorem hd_X12_isWeight_v : yX12_isWeight.cls = RX12 ∧ yX12_isWeight.cls ≠ "java/lang/invoke/MethodHandle" ∧ yX12_isWeight.cls ≠ "java/lang/invoke/VarHandle" ∧ (parseMethodDescriptor yX12_isWeight.desc).map (fun d => d.parameters.length) = some 1 := by decide +kernel
theorem hd_X12_noBale_v : yX12_noBale.cls = RX12 ∧ yX12_noBale.cls ≠ "java/lang/invoke/MethodHandle" ∧ yX12_noBale.cls ≠ "java/lang/invoke/VarHandle" ∧ (parseMethodDescriptor yX12_noBale.desc).map (fun d => d.parameters.length) = some 1 := by decide +kernel
theorem hd_X12_noSkein_v : yX12_noSkein.cls = RX12 ∧ yX12_noSkein.cls ≠ "java/lang/invoke/MethodHandle" ∧ yX12_noSkein.cls ≠ "java/lang/invoke/VarHandle" ∧ (parseMethodDescriptor yX12_noSkein.desc).map (fun d => d.parameters.length) = some 1 := by decide +kernel
set_option maxRecDepth 100000 in
theorem dvX12_bale_0 : ([(0, .iload_n 1, 1), (1, .i2l, 1), (2, .lconst 1, 1), (3, .ldc2_w 180, 3), (6, .invokestatic 167, 3), (9, .ifCond .ne 6, 3), (12, .ldc 178, 2), (14, .ireturn, 1), (15, .aload_n 0, 1), (16, .getfield 164, 3), (19, .bipush 10, 2), (21, .if_icmp .ne 6, 3), (24, .ldc 182, 2), (26, .ireturn, 1), (27, .aload_n 0, 1), (28, .getfield 7, 3), (31, .aload_n 0, 1), (32, .getfield 164, 3), (35, .iload_n 1, 1), (36, .iastore, 1), (37, .aload_n 0, 1), (38, .getfield 109, 3), (41, .aload_n 0, 1), (42, .getfield 164, 3)] : List (Nat × Instr × Nat)).all (fun q => decide (decode cX12_bale q.1 = .ok (q.2.1, q.2.2))) = true := by decide +kernel
theorem dX12_bale_0 : decode cX12_bale 0 = .ok (.iload_n 1, 1) := all_at dvX12_bale_0 0 rfl
theorem dX12_bale_1 : decode cX12_bale 1 = .ok (.i2l, 1) := all_at dvX12_bale_0 1 rfl
theorem dX12_bale_2 : decode cX12_bale 2 = .ok (.lconst 1, 1) := all_at dvX12_bale_0 2 rfl
theorem dX12_bale_3 : decode cX12_bale 3 = .ok (.ldc2_w 180, 3) := all_at dvX12_bale_0 3 rfl
theorem dX12_bale_6 : decode cX12_bale 6 = .ok (.invokestatic 167, 3) := all_at dvX12_bale_0 4 rfl
theorem dX12_bale_9 : decode cX12_bale 9 = .ok (.ifCond .ne 6, 3) := all_at dvX12_bale_0 5 rfl
theorem dX12_bale_12 : decode cX12_bale 12 = .ok (.ldc 178, 2) := all_at dvX12_bale_0 6 rfl
theorem dX12_bale_14 : decode cX12_bale 14 = .ok (.ireturn, 1) := all_at dvX12_bale_0 7 rfl
theorem dX12_bale_15 : decode cX12_bale 15 = .ok (.aload_n 0, 1) := all_at dvX12_bale_0 8 rfl
theorem dX12_bale_16 : decode cX12_bale 16 = .ok (.getfield 164, 3) := all_at dvX12_bale_0 9 rfl
theorem dX12_bale_19 : decode cX12_bale 19 = .ok (.bipush 10, 2) := all_at dvX12_bale_0 10 rfl
theorem dX12_bale_21 : decode cX12_bale 21 = .ok (.if_icmp .ne 6, 3) := all_at dvX12_bale_0 11 rfl
theorem dX12_bale_24 : decode cX12_bale 24 = .ok (.ldc 182, 2) := all_at dvX12_bale_0 12 rfl
theorem dX12_bale_26 : decode cX12_bale 26 = .ok (.ireturn, 1) := all_at dvX12_bale_0 13 rfl
theorem dX12_bale_27 : decode cX12_bale 27 = .ok (.aload_n 0, 1) := all_at dvX12_bale_0 14 rfl
theorem dX12_bale_28 : decode cX12_bale 28 = .ok (.getfield 7, 3) := all_at dvX12_bale_0 15 rfl
theorem dX12_bale_31 : decode cX12_bale 31 = .ok (.aload_n 0, 1) := all_at dvX12_bale_0 16 rfl
theorem dX12_bale_32 : decode cX12_bale 32 = .ok (.getfield 164, 3) := all_at dvX12_bale_0 17 rfl
theorem dX12_bale_35 : decode cX12_bale 35 = .ok (.iload_n 1, 1) := all_at dvX12_bale_0 18 rfl
theorem dX12_bale_36 : decode cX12_bale 36 = .ok (.iastore, 1) := all_at dvX12_bale_0 19 rfl
theorem dX12_bale_37 : decode cX12_bale 37 = .ok (.aload_n 0, 1) := all_at dvX12_bale_0 20 rfl
theorem dX12_bale_38 : decode cX12_bale 38 = .ok (.getfield 109, 3) := all_at dvX12_bale_0 21 rfl
theorem dX12_bale_41 : decode cX12_bale 41 = .ok (.aload_n 0, 1) := all_at dvX12_bale_0 22 rfl
theorem dX12_bale_42 : decode cX12_bale 42 = .ok (.getfield 164, 3) := all_at dvX12_bale_0 23 rfl
set_option maxRecDepth 100000 in
theorem dvX12_bale_45 : ([(45, .iconst 0, 1), (46, .iastore, 1), (47, .aload_n 0, 1), (48, .getfield 115, 3), (51, .aload_n 0, 1), (52, .getfield 164, 3), (55, .iconst 0, 1), (56, .iastore, 1), (57, .aload_n 0, 1), (58, .dup, 1), (59, .getfield 164, 3), (62, .iconst 1, 1), (63, .iadd, 1), (64, .putfield 164, 3), (67, .aload_n 0, 1), (68, .getfield 164, 3), (71, .iconst 1, 1), (72, .isub, 1), (73, .ireturn, 1)] : List (Nat × Instr × Nat)).all (fun q => decide (decode cX12_bale q.1 = .ok (q.2.1, q.2.2))) = true := by decide +kernel
theorem dX12_bale_45 : decode cX12_bale 45 = .ok (.iconst 0, 1) := all_at dvX12_bale_45 0 rfl
theorem dX12_bale_46 : decode cX12_bale 46 = .ok (.iastore, 1) := all_at dvX12_bale_45 1 rfl
theorem dX12_bale_47 : decode cX12_bale 47 = .ok (.aload_n 0, 1) := all_at dvX12_bale_45 2 rfl
theorem dX12_bale_48 : decode cX12_bale 48 = .ok (.getfield 115, 3) := all_at dvX12_bale_45 3 rfl
theorem dX12_bale_51 : decode cX12_bale 51 = .ok (.aload_n 0, 1) := all_at dvX12_bale_45 4 rfl
theorem dX12_bale_52 : decode cX12_bale 52 = .ok (.getfield 164, 3) := all_at dvX12_bale_45 5 rfl
theorem dX12_bale_55 : decode cX12_bale 55 = .ok (.iconst 0, 1) := all_at dvX12_bale_45 6 rfl
theorem dX12_bale_56 : decode cX12_bale 56 = .ok (.iastore, 1) := all_at dvX12_bale_45 7 rfl
theorem dX12_bale_57 : decode cX12_bale 57 = .ok (.aload_n 0, 1) := all_at dvX12_bale_45 8 rfl
theorem dX12_bale_58 : decode cX12_bale 58 = .ok (.dup, 1) := all_at dvX12_bale_45 9 rfl
theorem dX12_bale_59 : decode cX12_bale 59 = .ok (.getfield 164, 3) := all_at dvX12_bale_45 10 rfl
theorem dX12_bale_62 : decode cX12_bale 62 = .ok (.iconst 1, 1) := all_at dvX12_bale_45 11 rfl
theorem dX12_bale_63 : decode cX12_bale 63 = .ok (.iadd, 1) := all_at dvX12_bale_45 12 rfl
theorem dX12_bale_64 : decode cX12_bale 64 = .ok (.putfield 164, 3) := all_at dvX12_bale_45 13 rfl
theorem dX12_bale_67 : decode cX12_bale 67 = .ok (.aload_n 0, 1) := all_at dvX12_bale_45 14 rfl
theorem dX12_bale_68 : decode cX12_bale 68 = .ok (.getfield 164, 3) := all_at dvX12_bale_45 15 rfl
theorem dX12_bale_71 : decode cX12_bale 71 = .ok (.iconst 1, 1) := all_at dvX12_bale_45 16 rfl
theorem dX12_bale_72 : decode cX12_bale 72 = .ok (.isub, 1) := all_at dvX12_bale_45 17 rfl
theorem dX12_bale_73 : decode cX12_bale 73 = .ok (.ireturn, 1) := all_at dvX12_bale_45 18 rfl
set_option maxRecDepth 100000 in
theorem dvX12_go_0 : ([(0, .iload_n 1, 1), (1, .i2l, 1), (2, .lconst 0, 1), (3, .ldc2_w 176, 3), (6, .invokestatic 167, 3), (9, .ifCond .ne 6, 3), (12, .ldc 178, 2), (14, .ireturn, 1), (15, .aload_n 0, 1), (16, .getfield 171, 3), (19, .iload_n 1, 1), (20, .iadd, 1), (21, .sipush 3000, 3), (24, .if_icmp .le 6, 3), (27, .ldc 179, 2), (29, .ireturn, 1), (30, .aload_n 0, 1), (31, .dup, 1), (32, .getfield 171, 3), (35, .iload_n 1, 1), (36, .iadd, 1), (37, .putfield 171, 3), (40, .aload_n 0, 1), (41, .getfield 171, 3)] : List (Nat × Instr × Nat)).all (fun q => decide (decode cX12_go q.1 = .ok (q.2.1, q.2.2))) = true := by decide +kernel
theorem dX12_go_0 : decode cX12_go 0 = .ok (.iload_n 1, 1) := all_at dvX12_go_0 0 rfl
theorem dX12_go_1 : decode cX12_go 1 = .ok (.i2l, 1) := all_at dvX12_go_0 1 rfl
theorem dX12_go_2 : decode cX12_go 2 = .ok (.lconst 0, 1) := all_at dvX12_go_0 2 rfl
theorem dX12_go_3 : decode cX12_go 3 = .ok (.ldc2_w 176, 3) := all_at dvX12_go_0 3 rfl
theorem dX12_go_6 : decode cX12_go 6 = .ok (.invokestatic 167, 3) := all_at dvX12_go_0 4 rfl
theorem dX12_go_9 : decode cX12_go 9 = .ok (.ifCond .ne 6, 3) := all_at dvX12_go_0 5 rfl
theorem dX12_go_12 : decode cX12_go 12 = .ok (.ldc 178, 2) := all_at dvX12_go_0 6 rfl
theorem dX12_go_14 : decode cX12_go 14 = .ok (.ireturn, 1) := all_at dvX12_go_0 7 rfl
theorem dX12_go_15 : decode cX12_go 15 = .ok (.aload_n 0, 1) := all_at dvX12_go_0 8 rfl
theorem dX12_go_16 : decode cX12_go 16 = .ok (.getfield 171, 3) := all_at dvX12_go_0 9 rfl
theorem dX12_go_19 : decode cX12_go 19 = .ok (.iload_n 1, 1) := all_at dvX12_go_0 10 rfl
theorem dX12_go_20 : decode cX12_go 20 = .ok (.iadd, 1) := all_at dvX12_go_0 11 rfl
theorem dX12_go_21 : decode cX12_go 21 = .ok (.sipush 3000, 3) := all_at dvX12_go_0 12 rfl
theorem dX12_go_24 : decode cX12_go 24 = .ok (.if_icmp .le 6, 3) := all_at dvX12_go_0 13 rfl
theorem dX12_go_27 : decode cX12_go 27 = .ok (.ldc 179, 2) := all_at dvX12_go_0 14 rfl
theorem dX12_go_29 : decode cX12_go 29 = .ok (.ireturn, 1) := all_at dvX12_go_0 15 rfl
theorem dX12_go_30 : decode cX12_go 30 = .ok (.aload_n 0, 1) := all_at dvX12_go_0 16 rfl
theorem dX12_go_31 : decode cX12_go 31 = .ok (.dup, 1) := all_at dvX12_go_0 17 rfl
theorem dX12_go_32 : decode cX12_go 32 = .ok (.getfield 171, 3) := all_at dvX12_go_0 18 rfl
theorem dX12_go_35 : decode cX12_go 35 = .ok (.iload_n 1, 1) := all_at dvX12_go_0 19 rfl
theorem dX12_go_36 : decode cX12_go 36 = .ok (.iadd, 1) := all_at dvX12_go_0 20 rfl
theorem dX12_go_37 : decode cX12_go 37 = .ok (.putfield 171, 3) := all_at dvX12_go_0 21 rfl
theorem dX12_go_40 : decode cX12_go 40 = .ok (.aload_n 0, 1) := all_at dvX12_go_0 22 rfl
theorem dX12_go_41 : decode cX12_go 41 = .ok (.getfield 171, 3) := all_at dvX12_go_0 23 rfl
theorem dX12_go_44 : decode cX12_go 44 = .ok (.ireturn, 1) := by decide +kernel
set_option maxRecDepth 100000 in
theorem dvX12_lose_0 : ([(0, .aload_n 0, 1), (1, .iload_n 1, 1), (2, .invokevirtual 207, 3), (5, .ifCond .eq 6, 3), (8, .ldc 187, 2), (10, .ireturn, 1), (11, .aload_n 0, 1), (12, .getfield 37, 3), (15, .iload_n 1, 1), (16, .iaload, 1), (17, .ifCond .lt 6, 3), (20, .ldc 179, 2), (22, .ireturn, 1), (23, .aload_n 0, 1), (24, .getfield 37, 3), (27, .iload_n 1, 1), (28, .aload_n 0, 1), (29, .getfield 171, 3), (32, .iastore, 1), (33, .iconst 1, 1), (34, .ireturn, 1)] : List (Nat × Instr × Nat)).all (fun q => decide (decode cX12_lose q.1 = .ok (q.2.1, q.2.2))) = true := by decide +kernel
theorem dX12_lose_0 : decode cX12_lose 0 = .ok (.aload_n 0, 1) := all_at dvX12_lose_0 0 rfl
theorem dX12_lose_1 : decode cX12_lose 1 = .ok (.iload_n 1, 1) := all_at dvX12_lose_0 1 rfl
theorem dX12_lose_2 : decode cX12_lose 2 = .ok (.invokevirtual 207, 3) := all_at dvX12_lose_0 2 rfl
theorem dX12_lose_5 : decode cX12_lose 5 = .ok (.ifCond .eq 6, 3) := all_at dvX12_lose_0 3 rfl
theorem dX12_lose_8 : decode cX12_lose 8 = .ok (.ldc 187, 2) := all_at dvX12_lose_0 4 rfl
theorem dX12_lose_10 : decode cX12_lose 10 = .ok (.ireturn, 1) := all_at dvX12_lose_0 5 rfl
theorem dX12_lose_11 : decode cX12_lose 11 = .ok (.aload_n 0, 1) := all_at dvX12_lose_0 6 rfl
theorem dX12_lose_12 : decode cX12_lose 12 = .ok (.getfield 37, 3) := all_at dvX12_lose_0 7 rfl
theorem dX12_lose_15 : decode cX12_lose 15 = .ok (.iload_n 1, 1) := all_at dvX12_lose_0 8 rfl
theorem dX12_lose_16 : decode cX12_lose 16 = .ok (.iaload, 1) := all_at dvX12_lose_0 9 rfl
theorem dX12_lose_17 : decode cX12_lose 17 = .ok (.ifCond .lt 6, 3) := all_at dvX12_lose_0 10 rfl
theorem dX12_lose_20 : decode cX12_lose 20 = .ok (.ldc 179, 2) := all_at dvX12_lose_0 11 rfl
theorem dX12_lose_22 : decode cX12_lose 22 = .ok (.ireturn, 1) := all_at dvX12_lose_0 12 rfl
theorem dX12_lose_23 : decode cX12_lose 23 = .ok (.aload_n 0, 1) := all_at dvX12_lose_0 13 rfl
theorem dX12_lose_24 : decode cX12_lose 24 = .ok (.getfield 37, 3) := all_at dvX12_lose_0 14 rfl
theorem dX12_lose_27 : decode cX12_lose 27 = .ok (.iload_n 1, 1) := all_at dvX12_lose_0 15 rfl
theorem dX12_lose_28 : decode cX12_lose 28 = .ok (.aload_n 0, 1) := all_at dvX12_lose_0 16 rfl
theorem dX12_lose_29 : decode cX12_lose 29 = .ok (.getfield 171, 3) := all_at dvX12_lose_0 17 rfl
theorem dX12_lose_32 : decode cX12_lose 32 = .ok (.iastore, 1) := all_at dvX12_lose_0 18 rfl
theorem dX12_lose_33 : decode cX12_lose 33 = .ok (.iconst 1, 1) := all_at dvX12_lose_0 19 rfl
theorem dX12_lose_34 : decode cX12_lose 34 = .ok (.ireturn, 1) := all_at dvX12_lose_0 20 rfl
set_option maxRecDepth 100000 in
theorem dvX12_skein_0 : ([(0, .aload_n 0, 1), (1, .iload_n 1, 1), (2, .invokevirtual 183, 3), (5, .ifCond .eq 6, 3), (8, .ldc 187, 2), (10, .ireturn, 1), (11, .iload_n 2, 1), (12, .i2l, 1), (13, .lconst 0, 1), (14, .ldc2_w 188, 3), (17, .invokestatic 167, 3), (20, .ifCond .eq 71, 3), (23, .iload_n 3, 1), (24, .i2l, 1), (25, .lconst 0, 1), (26, .ldc2_w 190, 3), (29, .invokestatic 167, 3), (32, .ifCond .eq 59, 3), (35, .iload 4, 2), (37, .i2l, 1), (38, .ldc2_w 192, 3), (41, .ldc2_w 194, 3), (44, .invokestatic 167, 3), (47, .ifCond .eq 44, 3)] : List (Nat × Instr × Nat)).all (fun q => decide (decode cX12_skein q.1 = .ok (q.2.1, q.2.2))) = true := by decide +kernel
theorem dX12_skein_0 : decode cX12_skein 0 = .ok (.aload_n 0, 1) := all_at dvX12_skein_0 0 rfl
theorem dX12_skein_1 : decode cX12_skein 1 = .ok (.iload_n 1, 1) := all_at dvX12_skein_0 1 rfl
theorem dX12_skein_2 : decode cX12_skein 2 = .ok (.invokevirtual 183, 3) := all_at dvX12_skein_0 2 rfl
theorem dX12_skein_5 : decode cX12_skein 5 = .ok (.ifCond .eq 6, 3) := all_at dvX12_skein_0 3 rfl
theorem dX12_skein_8 : decode cX12_skein 8 = .ok (.ldc 187, 2) := all_at dvX12_skein_0 4 rfl
theorem dX12_skein_10 : decode cX12_skein 10 = .ok (.ireturn, 1) := all_at dvX12_skein_0 5 rfl
theorem dX12_skein_11 : decode cX12_skein 11 = .ok (.iload_n 2, 1) := all_at dvX12_skein_0 6 rfl
theorem dX12_skein_12 : decode cX12_skein 12 = .ok (.i2l, 1) := all_at dvX12_skein_0 7 rfl
theorem dX12_skein_13 : decode cX12_skein 13 = .ok (.lconst 0, 1) := all_at dvX12_skein_0 8 rfl
theorem dX12_skein_14 : decode cX12_skein 14 = .ok (.ldc2_w 188, 3) := all_at dvX12_skein_0 9 rfl
theorem dX12_skein_17 : decode cX12_skein 17 = .ok (.invokestatic 167, 3) := all_at dvX12_skein_0 10 rfl
theorem dX12_skein_20 : decode cX12_skein 20 = .ok (.ifCond .eq 71, 3) := all_at dvX12_skein_0 11 rfl
theorem dX12_skein_23 : decode cX12_skein 23 = .ok (.iload_n 3, 1) := all_at dvX12_skein_0 12 rfl
theorem dX12_skein_24 : decode cX12_skein 24 = .ok (.i2l, 1) := all_at dvX12_skein_0 13 rfl
theorem dX12_skein_25 : decode cX12_skein 25 = .ok (.lconst 0, 1) := all_at dvX12_skein_0 14 rfl
theorem dX12_skein_26 : decode cX12_skein 26 = .ok (.ldc2_w 190, 3) := all_at dvX12_skein_0 15 rfl
theorem dX12_skein_29 : decode cX12_skein 29 = .ok (.invokestatic 167, 3) := all_at dvX12_skein_0 16 rfl
theorem dX12_skein_32 : decode cX12_skein 32 = .ok (.ifCond .eq 59, 3) := all_at dvX12_skein_0 17 rfl
theorem dX12_skein_35 : decode cX12_skein 35 = .ok (.iload 4, 2) := all_at dvX12_skein_0 18 rfl
theorem dX12_skein_37 : decode cX12_skein 37 = .ok (.i2l, 1) := all_at dvX12_skein_0 19 rfl
theorem dX12_skein_38 : decode cX12_skein 38 = .ok (.ldc2_w 192, 3) := all_at dvX12_skein_0 20 rfl
theorem dX12_skein_41 : decode cX12_skein 41 = .ok (.ldc2_w 194, 3) := all_at dvX12_skein_0 21 rfl
theorem dX12_skein_44 : decode cX12_skein 44 = .ok (.invokestatic 167, 3) := all_at dvX12_skein_0 22 rfl
theorem dX12_skein_47 : decode cX12_skein 47 = .ok (.ifCond .eq 44, 3) := all_at dvX12_skein_0 23 rfl
set_option maxRecDepth 100000 in
theorem dvX12_skein_50 : ([(50, .iload 5, 2), (52, .i2l, 1), (53, .ldc2_w 196, 3), (56, .iload 4, 2), (58, .i2l, 1), (59, .invokestatic 167, 3), (62, .ifCond .eq 29, 3), (65, .iload 6, 2), (67, .i2l, 1), (68, .lconst 0, 1), (69, .ldc2_w 190, 3), (72, .invokestatic 167, 3), (75, .ifCond .eq 16, 3), (78, .iload 7, 2), (80, .i2l, 1), (81, .lconst 0, 1), (82, .ldc2_w 198, 3), (85, .invokestatic 167, 3), (88, .ifCond .ne 6, 3), (91, .ldc 178, 2), (93, .ireturn, 1), (94, .iconst 0, 1), (95, .istore 8, 2), (97, .iconst 0, 1)] : List (Nat × Instr × Nat)).all (fun q => decide (decode cX12_skein q.1 = .ok (q.2.1, q.2.2))) = true := by decide +kernel
theorem dX12_skein_50 : decode cX12_skein 50 = .ok (.iload 5, 2) := all_at dvX12_skein_50 0 rfl
theorem dX12_skein_52 : decode cX12_skein 52 = .ok (.i2l, 1) := all_at dvX12_skein_50 1 rfl
theorem dX12_skein_53 : decode cX12_skein 53 = .ok (.ldc2_w 196, 3) := all_at dvX12_skein_50 2 rfl
theorem dX12_skein_56 : decode cX12_skein 56 = .ok (.iload 4, 2) := all_at dvX12_skein_50 3 rfl
theorem dX12_skein_58 : decode cX12_skein 58 = .ok (.i2l, 1) := all_at dvX12_skein_50 4 rfl
theorem dX12_skein_59 : decode cX12_skein 59 = .ok (.invokestatic 167, 3) := all_at dvX12_skein_50 5 rfl
theorem dX12_skein_62 : decode cX12_skein 62 = .ok (.ifCond .eq 29, 3) := all_at dvX12_skein_50 6 rfl
theorem dX12_skein_65 : decode cX12_skein 65 = .ok (.iload 6, 2) := all_at dvX12_skein_50 7 rfl
theorem dX12_skein_67 : decode cX12_skein 67 = .ok (.i2l, 1) := all_at dvX12_skein_50 8 rfl
theorem dX12_skein_68 : decode cX12_skein 68 = .ok (.lconst 0, 1) := all_at dvX12_skein_50 9 rfl
theorem dX12_skein_69 : decode cX12_skein 69 = .ok (.ldc2_w 190, 3) := all_at dvX12_skein_50 10 rfl
theorem dX12_skein_72 : decode cX12_skein 72 = .ok (.invokestatic 167, 3) := all_at dvX12_skein_50 11 rfl
theorem dX12_skein_75 : decode cX12_skein 75 = .ok (.ifCond .eq 16, 3) := all_at dvX12_skein_50 12 rfl
theorem dX12_skein_78 : decode cX12_skein 78 = .ok (.iload 7, 2) := all_at dvX12_skein_50 13 rfl
theorem dX12_skein_80 : decode cX12_skein 80 = .ok (.i2l, 1) := all_at dvX12_skein_50 14 rfl
theorem dX12_skein_81 : decode cX12_skein 81 = .ok (.lconst 0, 1) := all_at dvX12_skein_50 15 rfl
theorem dX12_skein_82 : decode cX12_skein 82 = .ok (.ldc2_w 198, 3) := all_at dvX12_skein_50 16 rfl
theorem dX12_skein_85 : decode cX12_skein 85 = .ok (.invokestatic 167, 3) := all_at dvX12_skein_50 17 rfl
theorem dX12_skein_88 : decode cX12_skein 88 = .ok (.ifCond .ne 6, 3) := all_at dvX12_skein_50 18 rfl
theorem dX12_skein_91 : decode cX12_skein 91 = .ok (.ldc 178, 2) := all_at dvX12_skein_50 19 rfl
theorem dX12_skein_93 : decode cX12_skein 93 = .ok (.ireturn, 1) := all_at dvX12_skein_50 20 rfl
theorem dX12_skein_94 : decode cX12_skein 94 = .ok (.iconst 0, 1) := all_at dvX12_skein_50 21 rfl
theorem dX12_skein_95 : decode cX12_skein 95 = .ok (.istore 8, 2) := all_at dvX12_skein_50 22 rfl
theorem dX12_skein_97 : decode cX12_skein 97 = .ok (.iconst 0, 1) := all_at dvX12_skein_50 23 rfl
set_option maxRecDepth 100000 in
theorem dvX12_skein_98 : ([(98, .istore 9, 2), (100, .iload 9, 2), (102, .aload_n 0, 1), (103, .getfield 200, 3), (106, .if_icmp .ge 44, 3), (109, .iload 8, 2), (111, .aload_n 0, 1), (112, .getfield 13, 3), (115, .iload 9, 2), (117, .iaload, 1), (118, .iload_n 1, 1), (119, .if_icmp .ne 18, 3), (122, .aload_n 0, 1), (123, .getfield 16, 3), (126, .iload 9, 2), (128, .iaload, 1), (129, .iload_n 2, 1), (130, .if_icmp .ne 7, 3), (133, .iconst 1, 1), (134, .goto 4, 3), (137, .iconst 0, 1), (138, .invokestatic 203, 3), (141, .iadd, 1), (142, .istore 8, 2)] : List (Nat × Instr × Nat)).all (fun q => decide (decode cX12_skein q.1 = .ok (q.2.1, q.2.2))) = true := by decide +kernel
theorem dX12_skein_98 : decode cX12_skein 98 = .ok (.istore 9, 2) := all_at dvX12_skein_98 0 rfl
theorem dX12_skein_100 : decode cX12_skein 100 = .ok (.iload 9, 2) := all_at dvX12_skein_98 1 rfl
theorem dX12_skein_102 : decode cX12_skein 102 = .ok (.aload_n 0, 1) := all_at dvX12_skein_98 2 rfl
theorem dX12_skein_103 : decode cX12_skein 103 = .ok (.getfield 200, 3) := all_at dvX12_skein_98 3 rfl
theorem dX12_skein_106 : decode cX12_skein 106 = .ok (.if_icmp .ge 44, 3) := all_at dvX12_skein_98 4 rfl
theorem dX12_skein_109 : decode cX12_skein 109 = .ok (.iload 8, 2) := all_at dvX12_skein_98 5 rfl
theorem dX12_skein_111 : decode cX12_skein 111 = .ok (.aload_n 0, 1) := all_at dvX12_skein_98 6 rfl
theorem dX12_skein_112 : decode cX12_skein 112 = .ok (.getfield 13, 3) := all_at dvX12_skein_98 7 rfl
theorem dX12_skein_115 : decode cX12_skein 115 = .ok (.iload 9, 2) := all_at dvX12_skein_98 8 rfl
theorem dX12_skein_117 : decode cX12_skein 117 = .ok (.iaload, 1) := all_at dvX12_skein_98 9 rfl
theorem dX12_skein_118 : decode cX12_skein 118 = .ok (.iload_n 1, 1) := all_at dvX12_skein_98 10 rfl
theorem dX12_skein_119 : decode cX12_skein 119 = .ok (.if_icmp .ne 18, 3) := all_at dvX12_skein_98 11 rfl
theorem dX12_skein_122 : decode cX12_skein 122 = .ok (.aload_n 0, 1) := all_at dvX12_skein_98 12 rfl
theorem dX12_skein_123 : decode cX12_skein 123 = .ok (.getfield 16, 3) := all_at dvX12_skein_98 13 rfl
theorem dX12_skein_126 : decode cX12_skein 126 = .ok (.iload 9, 2) := all_at dvX12_skein_98 14 rfl
theorem dX12_skein_128 : decode cX12_skein 128 = .ok (.iaload, 1) := all_at dvX12_skein_98 15 rfl
theorem dX12_skein_129 : decode cX12_skein 129 = .ok (.iload_n 2, 1) := all_at dvX12_skein_98 16 rfl
theorem dX12_skein_130 : decode cX12_skein 130 = .ok (.if_icmp .ne 7, 3) := all_at dvX12_skein_98 17 rfl
theorem dX12_skein_133 : decode cX12_skein 133 = .ok (.iconst 1, 1) := all_at dvX12_skein_98 18 rfl
theorem dX12_skein_134 : decode cX12_skein 134 = .ok (.goto 4, 3) := all_at dvX12_skein_98 19 rfl
theorem dX12_skein_137 : decode cX12_skein 137 = .ok (.iconst 0, 1) := all_at dvX12_skein_98 20 rfl
theorem dX12_skein_138 : decode cX12_skein 138 = .ok (.invokestatic 203, 3) := all_at dvX12_skein_98 21 rfl
theorem dX12_skein_141 : decode cX12_skein 141 = .ok (.iadd, 1) := all_at dvX12_skein_98 22 rfl
theorem dX12_skein_142 : decode cX12_skein 142 = .ok (.istore 8, 2) := all_at dvX12_skein_98 23 rfl
set_option maxRecDepth 100000 in
theorem dvX12_skein_144 : ([(144, .iinc 9 1, 3), (147, .goto (-47), 3), (150, .aload_n 0, 1), (151, .getfield 200, 3), (154, .bipush 60, 2), (156, .if_icmp .eq 10, 3), (159, .iload 8, 2), (161, .bipush 12, 2), (163, .if_icmp .ne 6, 3), (166, .ldc 182, 2), (168, .ireturn, 1), (169, .aload_n 0, 1), (170, .getfield 13, 3), (173, .aload_n 0, 1), (174, .getfield 200, 3), (177, .iload_n 1, 1), (178, .iastore, 1), (179, .aload_n 0, 1), (180, .getfield 16, 3), (183, .aload_n 0, 1), (184, .getfield 200, 3), (187, .iload_n 2, 1), (188, .iastore, 1), (189, .aload_n 0, 1)] : List (Nat × Instr × Nat)).all (fun q => decide (decode cX12_skein q.1 = .ok (q.2.1, q.2.2))) = true := by decide +kernel
theorem dX12_skein_144 : decode cX12_skein 144 = .ok (.iinc 9 1, 3) := all_at dvX12_skein_144 0 rfl
theorem dX12_skein_147 : decode cX12_skein 147 = .ok (.goto (-47), 3) := all_at dvX12_skein_144 1 rfl
theorem dX12_skein_150 : decode cX12_skein 150 = .ok (.aload_n 0, 1) := all_at dvX12_skein_144 2 rfl
theorem dX12_skein_151 : decode cX12_skein 151 = .ok (.getfield 200, 3) := all_at dvX12_skein_144 3 rfl
theorem dX12_skein_154 : decode cX12_skein 154 = .ok (.bipush 60, 2) := all_at dvX12_skein_144 4 rfl
theorem dX12_skein_156 : decode cX12_skein 156 = .ok (.if_icmp .eq 10, 3) := all_at dvX12_skein_144 5 rfl
theorem dX12_skein_159 : decode cX12_skein 159 = .ok (.iload 8, 2) := all_at dvX12_skein_144 6 rfl
theorem dX12_skein_161 : decode cX12_skein 161 = .ok (.bipush 12, 2) := all_at dvX12_skein_144 7 rfl
theorem dX12_skein_163 : decode cX12_skein 163 = .ok (.if_icmp .ne 6, 3) := all_at dvX12_skein_144 8 rfl
theorem dX12_skein_166 : decode cX12_skein 166 = .ok (.ldc 182, 2) := all_at dvX12_skein_144 9 rfl
theorem dX12_skein_168 : decode cX12_skein 168 = .ok (.ireturn, 1) := all_at dvX12_skein_144 10 rfl
theorem dX12_skein_169 : decode cX12_skein 169 = .ok (.aload_n 0, 1) := all_at dvX12_skein_144 11 rfl
theorem dX12_skein_170 : decode cX12_skein 170 = .ok (.getfield 13, 3) := all_at dvX12_skein_144 12 rfl
theorem dX12_skein_173 : decode cX12_skein 173 = .ok (.aload_n 0, 1) := all_at dvX12_skein_144 13 rfl
theorem dX12_skein_174 : decode cX12_skein 174 = .ok (.getfield 200, 3) := all_at dvX12_skein_144 14 rfl
theorem dX12_skein_177 : decode cX12_skein 177 = .ok (.iload_n 1, 1) := all_at dvX12_skein_144 15 rfl
theorem dX12_skein_178 : decode cX12_skein 178 = .ok (.iastore, 1) := all_at dvX12_skein_144 16 rfl
theorem dX12_skein_179 : decode cX12_skein 179 = .ok (.aload_n 0, 1) := all_at dvX12_skein_144 17 rfl
theorem dX12_skein_180 : decode cX12_skein 180 = .ok (.getfield 16, 3) := all_at dvX12_skein_144 18 rfl
theorem dX12_skein_183 : decode cX12_skein 183 = .ok (.aload_n 0, 1) := all_at dvX12_skein_144 19 rfl
theorem dX12_skein_184 : decode cX12_skein 184 = .ok (.getfield 200, 3) := all_at dvX12_skein_144 20 rfl
theorem dX12_skein_187 : decode cX12_skein 187 = .ok (.iload_n 2, 1) := all_at dvX12_skein_144 21 rfl
theorem dX12_skein_188 : decode cX12_skein 188 = .ok (.iastore, 1) := all_at dvX12_skein_144 22 rfl
theorem dX12_skein_189 : decode cX12_skein 189 = .ok (.aload_n 0, 1) := all_at dvX12_skein_144 23 rfl
set_option maxRecDepth 100000 in
theorem dvX12_skein_190 : ([(190, .getfield 19, 3), (193, .aload_n 0, 1), (194, .getfield 200, 3), (197, .iload_n 3, 1), (198, .iastore, 1), (199, .aload_n 0, 1), (200, .getfield 22, 3), (203, .aload_n 0, 1), (204, .getfield 200, 3), (207, .iload 4, 2), (209, .iastore, 1), (210, .aload_n 0, 1), (211, .getfield 25, 3), (214, .aload_n 0, 1), (215, .getfield 200, 3), (218, .iload 5, 2), (220, .iastore, 1), (221, .aload_n 0, 1), (222, .getfield 28, 3), (225, .aload_n 0, 1), (226, .getfield 200, 3), (229, .iload 6, 2), (231, .iastore, 1), (232, .aload_n 0, 1)] : List (Nat × Instr × Nat)).all (fun q => decide (decode cX12_skein q.1 = .ok (q.2.1, q.2.2))) = true := by decide +kernel
theorem dX12_skein_190 : decode cX12_skein 190 = .ok (.getfield 19, 3) := all_at dvX12_skein_190 0 rfl
theorem dX12_skein_193 : decode cX12_skein 193 = .ok (.aload_n 0, 1) := all_at dvX12_skein_190 1 rfl
theorem dX12_skein_194 : decode cX12_skein 194 = .ok (.getfield 200, 3) := all_at dvX12_skein_190 2 rfl
theorem dX12_skein_197 : decode cX12_skein 197 = .ok (.iload_n 3, 1) := all_at dvX12_skein_190 3 rfl
theorem dX12_skein_198 : decode cX12_skein 198 = .ok (.iastore, 1) := all_at dvX12_skein_190 4 rfl
theorem dX12_skein_199 : decode cX12_skein 199 = .ok (.aload_n 0, 1) := all_at dvX12_skein_190 5 rfl
theorem dX12_skein_200 : decode cX12_skein 200 = .ok (.getfield 22, 3) := all_at dvX12_skein_190 6 rfl
theorem dX12_skein_203 : decode cX12_skein 203 = .ok (.aload_n 0, 1) := all_at dvX12_skein_190 7 rfl
theorem dX12_skein_204 : decode cX12_skein 204 = .ok (.getfield 200, 3) := all_at dvX12_skein_190 8 rfl
theorem dX12_skein_207 : decode cX12_skein 207 = .ok (.iload 4, 2) := all_at dvX12_skein_190 9 rfl
theorem dX12_skein_209 : decode cX12_skein 209 = .ok (.iastore, 1) := all_at dvX12_skein_190 10 rfl
theorem dX12_skein_210 : decode cX12_skein 210 = .ok (.aload_n 0, 1) := all_at dvX12_skein_190 11 rfl
theorem dX12_skein_211 : decode cX12_skein 211 = .ok (.getfield 25, 3) := all_at dvX12_skein_190 12 rfl
theorem dX12_skein_214 : decode cX12_skein 214 = .ok (.aload_n 0, 1) := all_at dvX12_skein_190 13 rfl
theorem dX12_skein_215 : decode cX12_skein 215 = .ok (.getfield 200, 3) := all_at dvX12_skein_190 14 rfl
theorem dX12_skein_218 : decode cX12_skein 218 = .ok (.iload 5, 2) := all_at dvX12_skein_190 15 rfl
theorem dX12_skein_220 : decode cX12_skein 220 = .ok (.iastore, 1) := all_at dvX12_skein_190 16 rfl
theorem dX12_skein_221 : decode cX12_skein 221 = .ok (.aload_n 0, 1) := all_at dvX12_skein_190 17 rfl
theorem dX12_skein_222 : decode cX12_skein 222 = .ok (.getfield 28, 3) := all_at dvX12_skein_190 18 rfl
theorem dX12_skein_225 : decode cX12_skein 225 = .ok (.aload_n 0, 1) := all_at dvX12_skein_190 19 rfl
theorem dX12_skein_226 : decode cX12_skein 226 = .ok (.getfield 200, 3) := all_at dvX12_skein_190 20 rfl
theorem dX12_skein_229 : decode cX12_skein 229 = .ok (.iload 6, 2) := all_at dvX12_skein_190 21 rfl
theorem dX12_skein_231 : decode cX12_skein 231 = .ok (.iastore, 1) := all_at dvX12_skein_190 22 rfl
theorem dX12_skein_232 : decode cX12_skein 232 = .ok (.aload_n 0, 1) := all_at dvX12_skein_190 23 rfl
set_option maxRecDepth 100000 in
theorem dvX12_skein_233 : ([(233, .getfield 31, 3), (236, .aload_n 0, 1), (237, .getfield 200, 3), (240, .iload 7, 2), (242, .iastore, 1), (243, .aload_n 0, 1), (244, .getfield 34, 3), (247, .aload_n 0, 1), (248, .getfield 200, 3), (251, .aload_n 0, 1), (252, .getfield 171, 3), (255, .iastore, 1), (256, .aload_n 0, 1), (257, .getfield 37, 3), (260, .aload_n 0, 1), (261, .getfield 200, 3), (264, .iconst (-1), 1), (265, .iastore, 1), (266, .aload_n 0, 1), (267, .dup, 1), (268, .getfield 200, 3), (271, .iconst 1, 1), (272, .iadd, 1), (273, .putfield 200, 3)] : List (Nat × Instr × Nat)).all (fun q => decide (decode cX12_skein q.1 = .ok (q.2.1, q.2.2))) = true := by decide +kernel
theorem dX12_skein_233 : decode cX12_skein 233 = .ok (.getfield 31, 3) := all_at dvX12_skein_233 0 rfl
theorem dX12_skein_236 : decode cX12_skein 236 = .ok (.aload_n 0, 1) := all_at dvX12_skein_233 1 rfl
theorem dX12_skein_237 : decode cX12_skein 237 = .ok (.getfield 200, 3) := all_at dvX12_skein_233 2 rfl
theorem dX12_skein_240 : decode cX12_skein 240 = .ok (.iload 7, 2) := all_at dvX12_skein_233 3 rfl
theorem dX12_skein_242 : decode cX12_skein 242 = .ok (.iastore, 1) := all_at dvX12_skein_233 4 rfl
theorem dX12_skein_243 : decode cX12_skein 243 = .ok (.aload_n 0, 1) := all_at dvX12_skein_233 5 rfl
theorem dX12_skein_244 : decode cX12_skein 244 = .ok (.getfield 34, 3) := all_at dvX12_skein_233 6 rfl
theorem dX12_skein_247 : decode cX12_skein 247 = .ok (.aload_n 0, 1) := all_at dvX12_skein_233 7 rfl
theorem dX12_skein_248 : decode cX12_skein 248 = .ok (.getfield 200, 3) := all_at dvX12_skein_233 8 rfl
theorem dX12_skein_251 : decode cX12_skein 251 = .ok (.aload_n 0, 1) := all_at dvX12_skein_233 9 rfl
theorem dX12_skein_252 : decode cX12_skein 252 = .ok (.getfield 171, 3) := all_at dvX12_skein_233 10 rfl
theorem dX12_skein_255 : decode cX12_skein 255 = .ok (.iastore, 1) := all_at dvX12_skein_233 11 rfl
theorem dX12_skein_256 : decode cX12_skein 256 = .ok (.aload_n 0, 1) := all_at dvX12_skein_233 12 rfl
theorem dX12_skein_257 : decode cX12_skein 257 = .ok (.getfield 37, 3) := all_at dvX12_skein_233 13 rfl
theorem dX12_skein_260 : decode cX12_skein 260 = .ok (.aload_n 0, 1) := all_at dvX12_skein_233 14 rfl
theorem dX12_skein_261 : decode cX12_skein 261 = .ok (.getfield 200, 3) := all_at dvX12_skein_233 15 rfl
theorem dX12_skein_264 : decode cX12_skein 264 = .ok (.iconst (-1), 1) := all_at dvX12_skein_233 16 rfl
theorem dX12_skein_265 : decode cX12_skein 265 = .ok (.iastore, 1) := all_at dvX12_skein_233 17 rfl
theorem dX12_skein_266 : decode cX12_skein 266 = .ok (.aload_n 0, 1) := all_at dvX12_skein_233 18 rfl
theorem dX12_skein_267 : decode cX12_skein 267 = .ok (.dup, 1) := all_at dvX12_skein_233 19 rfl
theorem dX12_skein_268 : decode cX12_skein 268 = .ok (.getfield 200, 3) := all_at dvX12_skein_233 20 rfl
theorem dX12_skein_271 : decode cX12_skein 271 = .ok (.iconst 1, 1) := all_at dvX12_skein_233 21 rfl
theorem dX12_skein_272 : decode cX12_skein 272 = .ok (.iadd, 1) := all_at dvX12_skein_233 22 rfl
theorem dX12_skein_273 : decode cX12_skein 273 = .ok (.putfield 200, 3) := all_at dvX12_skein_233 23 rfl
set_option maxRecDepth 100000 in
theorem dvX12_skein_276 : ([(276, .aload_n 0, 1), (277, .getfield 200, 3), (280, .iconst 1, 1), (281, .isub, 1), (282, .ireturn, 1)] : List (Nat × Instr × Nat)).all (fun q => decide (decode cX12_skein q.1 = .ok (q.2.1, q.2.2))) = true := by decide +kernel
theorem dX12_skein_276 : decode cX12_skein 276 = .ok (.aload_n 0, 1) := all_at dvX12_skein_276 0 rfl
theorem dX12_skein_277 : decode cX12_skein 277 = .ok (.getfield 200, 3) := all_at dvX12_skein_276 1 rfl
theorem dX12_skein_280 : decode cX12_skein 280 = .ok (.iconst 1, 1) := all_at dvX12_skein_276 2 rfl
theorem dX12_skein_281 : decode cX12_skein 281 = .ok (.isub, 1) := all_at dvX12_skein_276 3 rfl
theorem dX12_skein_282 : decode cX12_skein 282 = .ok (.ireturn, 1) := all_at dvX12_skein_276 4 rfl
set_option maxRecDepth 100000 in
theorem dvX12_test_0 : ([(0, .iload_n 1, 1), (1, .i2l, 1), (2, .lconst 0, 1), (3, .ldc2_w 190, 3), (6, .invokestatic 167, 3), (9, .ifCond .eq 17, 3), (12, .iload_n 2, 1), (13, .invokestatic 210, 3), (16, .ifCond .eq 10, 3), (19, .iload_n 3, 1), (20, .invokestatic 210, 3), (23, .ifCond .ne 6, 3), (26, .ldc 178, 2), (28, .ireturn, 1), (29, .aload_n 0, 1), (30, .getfield 213, 3), (33, .bipush 30, 2), (35, .if_icmp .ne 6, 3), (38, .ldc 182, 2), (40, .ireturn, 1), (41, .aload_n 0, 1), (42, .getfield 40, 3), (45, .aload_n 0, 1), (46, .getfield 213, 3)] : List (Nat × Instr × Nat)).all (fun q => decide (decode cX12_test q.1 = .ok (q.2.1, q.2.2))) = true := by decide +kernel
theorem dX12_test_0 : decode cX12_test 0 = .ok (.iload_n 1, 1) := all_at dvX12_test_0 0 rfl
theorem dX12_test_1 : decode cX12_test 1 = .ok (.i2l, 1) := all_at dvX12_test_0 1 rfl
theorem dX12_test_2 : decode cX12_test 2 = .ok (.lconst 0, 1) := all_at dvX12_test_0 2 rfl
theorem dX12_test_3 : decode cX12_test 3 = .ok (.ldc2_w 190, 3) := all_at dvX12_test_0 3 rfl
theorem dX12_test_6 : decode cX12_test 6 = .ok (.invokestatic 167, 3) := all_at dvX12_test_0 4 rfl
theorem dX12_test_9 : decode cX12_test 9 = .ok (.ifCond .eq 17, 3) := all_at dvX12_test_0 5 rfl
theorem dX12_test_12 : decode cX12_test 12 = .ok (.iload_n 2, 1) := all_at dvX12_test_0 6 rfl
theorem dX12_test_13 : decode cX12_test 13 = .ok (.invokestatic 210, 3) := all_at dvX12_test_0 7 rfl
theorem dX12_test_16 : decode cX12_test 16 = .ok (.ifCond .eq 10, 3) := all_at dvX12_test_0 8 rfl
theorem dX12_test_19 : decode cX12_test 19 = .ok (.iload_n 3, 1) := all_at dvX12_test_0 9 rfl
theorem dX12_test_20 : decode cX12_test 20 = .ok (.invokestatic 210, 3) := all_at dvX12_test_0 10 rfl
theorem dX12_test_23 : decode cX12_test 23 = .ok (.ifCond .ne 6, 3) := all_at dvX12_test_0 11 rfl
theorem dX12_test_26 : decode cX12_test 26 = .ok (.ldc 178, 2) := all_at dvX12_test_0 12 rfl
theorem dX12_test_28 : decode cX12_test 28 = .ok (.ireturn, 1) := all_at dvX12_test_0 13 rfl
theorem dX12_test_29 : decode cX12_test 29 = .ok (.aload_n 0, 1) := all_at dvX12_test_0 14 rfl
theorem dX12_test_30 : decode cX12_test 30 = .ok (.getfield 213, 3) := all_at dvX12_test_0 15 rfl
theorem dX12_test_33 : decode cX12_test 33 = .ok (.bipush 30, 2) := all_at dvX12_test_0 16 rfl
theorem dX12_test_35 : decode cX12_test 35 = .ok (.if_icmp .ne 6, 3) := all_at dvX12_test_0 17 rfl
theorem dX12_test_38 : decode cX12_test 38 = .ok (.ldc 182, 2) := all_at dvX12_test_0 18 rfl
theorem dX12_test_40 : decode cX12_test 40 = .ok (.ireturn, 1) := all_at dvX12_test_0 19 rfl
theorem dX12_test_41 : decode cX12_test 41 = .ok (.aload_n 0, 1) := all_at dvX12_test_0 20 rfl
theorem dX12_test_42 : decode cX12_test 42 = .ok (.getfield 40, 3) := all_at dvX12_test_0 21 rfl
theorem dX12_test_45 : decode cX12_test 45 = .ok (.aload_n 0, 1) := all_at dvX12_test_0 22 rfl
theorem dX12_test_46 : decode cX12_test 46 = .ok (.getfield 213, 3) := all_at dvX12_test_0 23 rfl
set_option maxRecDepth 100000 in
theorem dvX12_test_49 : ([(49, .iload_n 1, 1), (50, .iastore, 1), (51, .aload_n 0, 1), (52, .getfield 43, 3), (55, .aload_n 0, 1), (56, .getfield 213, 3), (59, .iload_n 2, 1), (60, .iload_n 3, 1), (61, .isub, 1), (62, .iastore, 1), (63, .aload_n 0, 1), (64, .getfield 46, 3), (67, .aload_n 0, 1), (68, .getfield 213, 3), (71, .aload_n 0, 1), (72, .getfield 171, 3), (75, .iastore, 1), (76, .aload_n 0, 1), (77, .dup, 1), (78, .getfield 213, 3), (81, .iconst 1, 1), (82, .iadd, 1), (83, .putfield 213, 3), (86, .aload_n 0, 1)] : List (Nat × Instr × Nat)).all (fun q => decide (decode cX12_test q.1 = .ok (q.2.1, q.2.2))) = true := by decide +kernel
theorem dX12_test_49 : decode cX12_test 49 = .ok (.iload_n 1, 1) := all_at dvX12_test_49 0 rfl
theorem dX12_test_50 : decode cX12_test 50 = .ok (.iastore, 1) := all_at dvX12_test_49 1 rfl
theorem dX12_test_51 : decode cX12_test 51 = .ok (.aload_n 0, 1) := all_at dvX12_test_49 2 rfl
theorem dX12_test_52 : decode cX12_test 52 = .ok (.getfield 43, 3) := all_at dvX12_test_49 3 rfl
theorem dX12_test_55 : decode cX12_test 55 = .ok (.aload_n 0, 1) := all_at dvX12_test_49 4 rfl
theorem dX12_test_56 : decode cX12_test 56 = .ok (.getfield 213, 3) := all_at dvX12_test_49 5 rfl
theorem dX12_test_59 : decode cX12_test 59 = .ok (.iload_n 2, 1) := all_at dvX12_test_49 6 rfl
theorem dX12_test_60 : decode cX12_test 60 = .ok (.iload_n 3, 1) := all_at dvX12_test_49 7 rfl
theorem dX12_test_61 : decode cX12_test 61 = .ok (.isub, 1) := all_at dvX12_test_49 8 rfl
theorem dX12_test_62 : decode cX12_test 62 = .ok (.iastore, 1) := all_at dvX12_test_49 9 rfl
theorem dX12_test_63 : decode cX12_test 63 = .ok (.aload_n 0, 1) := all_at dvX12_test_49 10 rfl
theorem dX12_test_64 : decode cX12_test 64 = .ok (.getfield 46, 3) := all_at dvX12_test_49 11 rfl
theorem dX12_test_67 : decode cX12_test 67 = .ok (.aload_n 0, 1) := all_at dvX12_test_49 12 rfl
theorem dX12_test_68 : decode cX12_test 68 = .ok (.getfield 213, 3) := all_at dvX12_test_49 13 rfl
theorem dX12_test_71 : decode cX12_test 71 = .ok (.aload_n 0, 1) := all_at dvX12_test_49 14 rfl
theorem dX12_test_72 : decode cX12_test 72 = .ok (.getfield 171, 3) := all_at dvX12_test_49 15 rfl
theorem dX12_test_75 : decode cX12_test 75 = .ok (.iastore, 1) := all_at dvX12_test_49 16 rfl
theorem dX12_test_76 : decode cX12_test 76 = .ok (.aload_n 0, 1) := all_at dvX12_test_49 17 rfl
theorem dX12_test_77 : decode cX12_test 77 = .ok (.dup, 1) := all_at dvX12_test_49 18 rfl
theorem dX12_test_78 : decode cX12_test 78 = .ok (.getfield 213, 3) := all_at dvX12_test_49 19 rfl
theorem dX12_test_81 : decode cX12_test 81 = .ok (.iconst 1, 1) := all_at dvX12_test_49 20 rfl
theorem dX12_test_82 : decode cX12_test 82 = .ok (.iadd, 1) := all_at dvX12_test_49 21 rfl
theorem dX12_test_83 : decode cX12_test 83 = .ok (.putfield 213, 3) := all_at dvX12_test_49 22 rfl
theorem dX12_test_86 : decode cX12_test 86 = .ok (.aload_n 0, 1) := all_at dvX12_test_49 23 rfl
theorem dX12_test_87 : decode cX12_test 87 = .ok (.getfield 213, 3) := by decide +kernel
theorem dX12_test_90 : decode cX12_test 90 = .ok (.ireturn, 1) := by decide +kernel
set_option maxRecDepth 100000 in
theorem dvX12_told_0 : ([(0, .aload_n 0, 1), (1, .iload_n 1, 1), (2, .invokevirtual 207, 3), (5, .ifCond .eq 6, 3), (8, .ldc 187, 2), (10, .ireturn, 1), (11, .iload_n 2, 1), (12, .tableswitch 115 0 8 #[52, 59, 66, 73, 80, 87, 94, 101, 108], 52), (64, .aload_n 0, 1), (65, .getfield 13, 3), (68, .iload_n 1, 1), (69, .iaload, 1), (70, .ireturn, 1), (71, .aload_n 0, 1), (72, .getfield 16, 3), (75, .iload_n 1, 1), (76, .iaload, 1), (77, .ireturn, 1), (78, .aload_n 0, 1), (79, .getfield 19, 3), (82, .iload_n 1, 1), (83, .iaload, 1), (84, .ireturn, 1), (85, .aload_n 0, 1)] : List (Nat × Instr × Nat)).all (fun q => decide (decode cX12_told q.1 = .ok (q.2.1, q.2.2))) = true := by decide +kernel
theorem dX12_told_0 : decode cX12_told 0 = .ok (.aload_n 0, 1) := all_at dvX12_told_0 0 rfl
theorem dX12_told_1 : decode cX12_told 1 = .ok (.iload_n 1, 1) := all_at dvX12_told_0 1 rfl
theorem dX12_told_2 : decode cX12_told 2 = .ok (.invokevirtual 207, 3) := all_at dvX12_told_0 2 rfl
theorem dX12_told_5 : decode cX12_told 5 = .ok (.ifCond .eq 6, 3) := all_at dvX12_told_0 3 rfl
theorem dX12_told_8 : decode cX12_told 8 = .ok (.ldc 187, 2) := all_at dvX12_told_0 4 rfl
theorem dX12_told_10 : decode cX12_told 10 = .ok (.ireturn, 1) := all_at dvX12_told_0 5 rfl
theorem dX12_told_11 : decode cX12_told 11 = .ok (.iload_n 2, 1) := all_at dvX12_told_0 6 rfl
theorem dX12_told_12 : decode cX12_told 12 = .ok (.tableswitch 115 0 8 #[52, 59, 66, 73, 80, 87, 94, 101, 108], 52) := all_at dvX12_told_0 7 rfl
theorem dX12_told_64 : decode cX12_told 64 = .ok (.aload_n 0, 1) := all_at dvX12_told_0 8 rfl
theorem dX12_told_65 : decode cX12_told 65 = .ok (.getfield 13, 3) := all_at dvX12_told_0 9 rfl
theorem dX12_told_68 : decode cX12_told 68 = .ok (.iload_n 1, 1) := all_at dvX12_told_0 10 rfl
theorem dX12_told_69 : decode cX12_told 69 = .ok (.iaload, 1) := all_at dvX12_told_0 11 rfl
theorem dX12_told_70 : decode cX12_told 70 = .ok (.ireturn, 1) := all_at dvX12_told_0 12 rfl
theorem dX12_told_71 : decode cX12_told 71 = .ok (.aload_n 0, 1) := all_at dvX12_told_0 13 rfl
theorem dX12_told_72 : decode cX12_told 72 = .ok (.getfield 16, 3) := all_at dvX12_told_0 14 rfl
theorem dX12_told_75 : decode cX12_told 75 = .ok (.iload_n 1, 1) := all_at dvX12_told_0 15 rfl
theorem dX12_told_76 : decode cX12_told 76 = .ok (.iaload, 1) := all_at dvX12_told_0 16 rfl
theorem dX12_told_77 : decode cX12_told 77 = .ok (.ireturn, 1) := all_at dvX12_told_0 17 rfl
theorem dX12_told_78 : decode cX12_told 78 = .ok (.aload_n 0, 1) := all_at dvX12_told_0 18 rfl
theorem dX12_told_79 : decode cX12_told 79 = .ok (.getfield 19, 3) := all_at dvX12_told_0 19 rfl
theorem dX12_told_82 : decode cX12_told 82 = .ok (.iload_n 1, 1) := all_at dvX12_told_0 20 rfl
theorem dX12_told_83 : decode cX12_told 83 = .ok (.iaload, 1) := all_at dvX12_told_0 21 rfl
theorem dX12_told_84 : decode cX12_told 84 = .ok (.ireturn, 1) := all_at dvX12_told_0 22 rfl
theorem dX12_told_85 : decode cX12_told 85 = .ok (.aload_n 0, 1) := all_at dvX12_told_0 23 rfl
set_option maxRecDepth 100000 in
theorem dvX12_told_86 : ([(86, .getfield 22, 3), (89, .iload_n 1, 1), (90, .iaload, 1), (91, .ireturn, 1), (92, .aload_n 0, 1), (93, .getfield 25, 3), (96, .iload_n 1, 1), (97, .iaload, 1), (98, .ireturn, 1), (99, .aload_n 0, 1), (100, .getfield 28, 3), (103, .iload_n 1, 1), (104, .iaload, 1), (105, .ireturn, 1), (106, .aload_n 0, 1), (107, .getfield 31, 3), (110, .iload_n 1, 1), (111, .iaload, 1), (112, .ireturn, 1), (113, .aload_n 0, 1), (114, .getfield 34, 3), (117, .iload_n 1, 1), (118, .iaload, 1), (119, .ireturn, 1)] : List (Nat × Instr × Nat)).all (fun q => decide (decode cX12_told q.1 = .ok (q.2.1, q.2.2))) = true := by decide +kernel
theorem dX12_told_86 : decode cX12_told 86 = .ok (.getfield 22, 3) := all_at dvX12_told_86 0 rfl
theorem dX12_told_89 : decode cX12_told 89 = .ok (.iload_n 1, 1) := all_at dvX12_told_86 1 rfl
theorem dX12_told_90 : decode cX12_told 90 = .ok (.iaload, 1) := all_at dvX12_told_86 2 rfl
theorem dX12_told_91 : decode cX12_told 91 = .ok (.ireturn, 1) := all_at dvX12_told_86 3 rfl
theorem dX12_told_92 : decode cX12_told 92 = .ok (.aload_n 0, 1) := all_at dvX12_told_86 4 rfl
theorem dX12_told_93 : decode cX12_told 93 = .ok (.getfield 25, 3) := all_at dvX12_told_86 5 rfl
theorem dX12_told_96 : decode cX12_told 96 = .ok (.iload_n 1, 1) := all_at dvX12_told_86 6 rfl
theorem dX12_told_97 : decode cX12_told 97 = .ok (.iaload, 1) := all_at dvX12_told_86 7 rfl
theorem dX12_told_98 : decode cX12_told 98 = .ok (.ireturn, 1) := all_at dvX12_told_86 8 rfl
theorem dX12_told_99 : decode cX12_told 99 = .ok (.aload_n 0, 1) := all_at dvX12_told_86 9 rfl
theorem dX12_told_100 : decode cX12_told 100 = .ok (.getfield 28, 3) := all_at dvX12_told_86 10 rfl
theorem dX12_told_103 : decode cX12_told 103 = .ok (.iload_n 1, 1) := all_at dvX12_told_86 11 rfl
theorem dX12_told_104 : decode cX12_told 104 = .ok (.iaload, 1) := all_at dvX12_told_86 12 rfl
theorem dX12_told_105 : decode cX12_told 105 = .ok (.ireturn, 1) := all_at dvX12_told_86 13 rfl
theorem dX12_told_106 : decode cX12_told 106 = .ok (.aload_n 0, 1) := all_at dvX12_told_86 14 rfl
theorem dX12_told_107 : decode cX12_told 107 = .ok (.getfield 31, 3) := all_at dvX12_told_86 15 rfl
theorem dX12_told_110 : decode cX12_told 110 = .ok (.iload_n 1, 1) := all_at dvX12_told_86 16 rfl
theorem dX12_told_111 : decode cX12_told 111 = .ok (.iaload, 1) := all_at dvX12_told_86 17 rfl
theorem dX12_told_112 : decode cX12_told 112 = .ok (.ireturn, 1) := all_at dvX12_told_86 18 rfl
theorem dX12_told_113 : decode cX12_told 113 = .ok (.aload_n 0, 1) := all_at dvX12_told_86 19 rfl
theorem dX12_told_114 : decode cX12_told 114 = .ok (.getfield 34, 3) := all_at dvX12_told_86 20 rfl
theorem dX12_told_117 : decode cX12_told 117 = .ok (.iload_n 1, 1) := all_at dvX12_told_86 21 rfl
theorem dX12_told_118 : decode cX12_told 118 = .ok (.iaload, 1) := all_at dvX12_told_86 22 rfl
theorem dX12_told_119 : decode cX12_told 119 = .ok (.ireturn, 1) := all_at dvX12_told_86 23 rfl
set_option maxRecDepth 100000 in
theorem dvX12_told_120 : ([(120, .aload_n 0, 1), (121, .getfield 37, 3), (124, .iload_n 1, 1), (125, .iaload, 1), (126, .ireturn, 1), (127, .ldc 178, 2), (129, .ireturn, 1)] : List (Nat × Instr × Nat)).all (fun q => decide (decode cX12_told q.1 = .ok (q.2.1, q.2.2))) = true := by decide +kernel
theorem dX12_told_120 : decode cX12_told 120 = .ok (.aload_n 0, 1) := all_at dvX12_told_120 0 rfl
theorem dX12_told_121 : decode cX12_told 121 = .ok (.getfield 37, 3) := all_at dvX12_told_120 1 rfl
theorem dX12_told_124 : decode cX12_told 124 = .ok (.iload_n 1, 1) := all_at dvX12_told_120 2 rfl
theorem dX12_told_125 : decode cX12_told 125 = .ok (.iaload, 1) := all_at dvX12_told_120 3 rfl
theorem dX12_told_126 : decode cX12_told 126 = .ok (.ireturn, 1) := all_at dvX12_told_120 4 rfl
theorem dX12_told_127 : decode cX12_told 127 = .ok (.ldc 178, 2) := all_at dvX12_told_120 5 rfl
theorem dX12_told_129 : decode cX12_told 129 = .ok (.ireturn, 1) := all_at dvX12_told_120 6 rfl
theorem sw_0_8 (x : Int32) : (x.toInt < 0 ∨ 8 < x.toInt) ∨ x = 0 ∨ x = 1 ∨ x = 2 ∨ x = 3 ∨ x = 4 ∨ x = 5 ∨ x = 6 ∨ x = 7 ∨ x = 8 := by
  by_cases h : x.toInt < 0 ∨ 8 < x.toInt
  · exact Or.inl h
  · right
    have h2 : x.toInt = 0 ∨ x.toInt = 1 ∨ x.toInt = 2 ∨ x.toInt = 3 ∨ x.toInt = 4 ∨ x.toInt = 5 ∨ x.toInt = 6 ∨ x.toInt = 7 ∨ x.toInt = 8 := by omega
    rcases h2 with h2 | h2 | h2 | h2 | h2 | h2 | h2 | h2 | h2
    · exact Or.inl (z_of (by decide) h2)
    · exact Or.inr (Or.inl (z_of (by decide) h2))
    · exact Or.inr (Or.inr (Or.inl (z_of (by decide) h2)))
    · exact Or.inr (Or.inr (Or.inr (Or.inl (z_of (by decide) h2))))
    · exact Or.inr (Or.inr (Or.inr (Or.inr (Or.inl (z_of (by decide) h2)))))
    · exact Or.inr (Or.inr (Or.inr (Or.inr (Or.inr (Or.inl (z_of (by decide) h2))))))
    · exact Or.inr (Or.inr (Or.inr (Or.inr (Or.inr (Or.inr (Or.inl (z_of (by decide) h2)))))))
    · exact Or.inr (Or.inr (Or.inr (Or.inr (Or.inr (Or.inr (Or.inr (Or.inl (z_of (by decide) h2))))))))
    · exact Or.inr (Or.inr (Or.inr (Or.inr (Or.inr (Or.inr (Or.inr (Or.inr (z_of (by decide) h2))))))))
/-! ===== m2 ===== -/
set_option maxRecDepth 100000 in
theorem m_44 : Cond.selects RX12 yX12_errorOf yX12_errorOf ∈ tb := tb_in 44 (by decide +kernel) rfl
set_option maxRecDepth 100000 in
theorem m_46 : Cond.selects RX12 yX12_isThere yX12_isThere ∈ tb := tb_in 46 (by decide +kernel) rfl
theorem m_1156 : Cond.fieldLink RX12 223 "SilkHouseModel" "sumDry" "J" ∈ tb := mb_5_4 _ (List.mem_of_getElem? (i := 21) rfl)
theorem m_1157 : Cond.fieldLink RX12 227 "SilkHouseModel" "sumRaw" "J" ∈ tb := mb_5_4 _ (List.mem_of_getElem? (i := 22) rfl)
theorem m_1158 : Cond.fieldLink RX12 230 "SilkHouseModel" "counted" "I" ∈ tb := mb_5_4 _ (List.mem_of_getElem? (i := 23) rfl)
theorem m_1159 : Cond.fieldLink RX12 49 "SilkHouseModel" "outOven" "I" ∈ tb := mb_5_5 _ (List.mem_of_getElem? (i := 0) rfl)
theorem m_1160 : Cond.fieldLink RX12 53 "SilkHouseModel" "outHand" "I" ∈ tb := mb_5_5 _ (List.mem_of_getElem? (i := 1) rfl)
theorem m_1161 : Cond.fieldLink RX12 56 "SilkHouseModel" "outSkein" "I" ∈ tb := mb_5_5 _ (List.mem_of_getElem? (i := 2) rfl)
theorem m_1422 : Cond.methodLink RX12 216 yX12_isDay ∈ tb := mb_6_2 _ (List.mem_of_getElem? (i := 7) rfl)
theorem m_1423 : Cond.static yX12_isDay ∈ tb := mb_6_2 _ (List.mem_of_getElem? (i := 8) rfl)
theorem m_1424 : Cond.code yX12_isDay cX12_isDay 1 (some .boolean) ∈ tb := mb_6_2 _ (List.mem_of_getElem? (i := 9) rfl)
theorem m_1426 : Cond.methodLink RX12 219 yX12_errorOf ∈ tb := mb_6_2 _ (List.mem_of_getElem? (i := 11) rfl)
theorem m_1428 : Cond.instanceMethod yX12_errorOf ∈ tb := mb_6_2 _ (List.mem_of_getElem? (i := 12) rfl)
theorem m_1429 : Cond.code yX12_errorOf cX12_errorOf 8 (some .int) ∈ tb := mb_6_2 _ (List.mem_of_getElem? (i := 13) rfl)
theorem m_1438 : Cond.methodLink RX12 233 yX12_isThere ∈ tb := mb_6_2 _ (List.mem_of_getElem? (i := 21) rfl)
theorem m_1440 : Cond.instanceMethod yX12_isThere ∈ tb := mb_6_2 _ (List.mem_of_getElem? (i := 22) rfl)
theorem m_1441 : Cond.code yX12_isThere cX12_isThere 3 (some .boolean) ∈ tb := mb_6_2 _ (List.mem_of_getElem? (i := 23) rfl)
theorem m_1445 : Cond.methodLink RX12 160 yX12_plain ∈ tb := mb_6_3 _ (List.mem_of_getElem? (i := 3) rfl)
theorem m_1446 : Cond.static yX12_plain ∈ tb := mb_6_3 _ (List.mem_of_getElem? (i := 4) rfl)
theorem m_1447 : Cond.code yX12_plain cX12_plain 2 (some .long) ∈ tb := mb_6_3 _ (List.mem_of_getElem? (i := 5) rfl)
theorem m_1543 : Cond.constantLong RX12 245 (1000) ∈ tb := mb_7_1 _ (List.mem_of_getElem? (i := 0) rfl)
theorem hd_X12_errorOf_v : yX12_errorOf.cls = RX12 ∧ yX12_errorOf.cls ≠ "java/lang/invoke/MethodHandle" ∧ yX12_errorOf.cls ≠ "java/lang/invoke/VarHandle" ∧ (parseMethodDescriptor yX12_errorOf.desc).map (fun d => d.parameters.length) = some 3 := by decide +kernel
theorem hd_X12_isDay_v : yX12_isDay.cls = RX12 ∧ yX12_isDay.cls ≠ "java/lang/invoke/MethodHandle" ∧ yX12_isDay.cls ≠ "java/lang/invoke/VarHandle" ∧ (parseMethodDescriptor yX12_isDay.desc).map (fun d => d.parameters.length) = some 1 := by decide +kernel
theorem hd_X12_isThere_v : yX12_isThere.cls = RX12 ∧ yX12_isThere.cls ≠ "java/lang/invoke/MethodHandle" ∧ yX12_isThere.cls ≠ "java/lang/invoke/VarHandle" ∧ (parseMethodDescriptor yX12_isThere.desc).map (fun d => d.parameters.length) = some 2 := by decide +kernel
theorem hd_X12_plain_v : yX12_plain.cls = RX12 ∧ yX12_plain.cls ≠ "java/lang/invoke/MethodHandle" ∧ yX12_plain.cls ≠ "java/lang/invoke/VarHandle" ∧ (parseMethodDescriptor yX12_plain.desc).map (fun d => d.parameters.length) = some 1 := by decide +kernel
set_option maxRecDepth 100000 in
theorem dvX12_doPart_0 : ([(0, .ldc2_w 245, 3), (3, .lload_n 0, 1), (4, .lload 6, 2), (6, .lmul, 1), (7, .lload 4, 2), (9, .lload_n 2, 1), (10, .lmul, 1), (11, .lsub, 1), (12, .invokestatic 160, 3), (15, .lmul, 1), (16, .iload 8, 2), (18, .i2l, 1), (19, .lload_n 2, 1), (20, .lmul, 1), (21, .lload 6, 2), (23, .lmul, 1), (24, .lcmp, 1), (25, .ifCond .le 7, 3), (28, .iconst 1, 1), (29, .goto 4, 3), (32, .iconst 0, 1), (33, .ireturn, 1)] : List (Nat × Instr × Nat)).all (fun q => decide (decode cX12_doPart q.1 = .ok (q.2.1, q.2.2))) = true := by decide +kernel
theorem dX12_doPart_0 : decode cX12_doPart 0 = .ok (.ldc2_w 245, 3) := all_at dvX12_doPart_0 0 rfl
theorem dX12_doPart_3 : decode cX12_doPart 3 = .ok (.lload_n 0, 1) := all_at dvX12_doPart_0 1 rfl
theorem dX12_doPart_4 : decode cX12_doPart 4 = .ok (.lload 6, 2) := all_at dvX12_doPart_0 2 rfl
theorem dX12_doPart_6 : decode cX12_doPart 6 = .ok (.lmul, 1) := all_at dvX12_doPart_0 3 rfl
theorem dX12_doPart_7 : decode cX12_doPart 7 = .ok (.lload 4, 2) := all_at dvX12_doPart_0 4 rfl
theorem dX12_doPart_9 : decode cX12_doPart 9 = .ok (.lload_n 2, 1) := all_at dvX12_doPart_0 5 rfl
theorem dX12_doPart_10 : decode cX12_doPart 10 = .ok (.lmul, 1) := all_at dvX12_doPart_0 6 rfl
theorem dX12_doPart_11 : decode cX12_doPart 11 = .ok (.lsub, 1) := all_at dvX12_doPart_0 7 rfl
theorem dX12_doPart_12 : decode cX12_doPart 12 = .ok (.invokestatic 160, 3) := all_at dvX12_doPart_0 8 rfl
theorem dX12_doPart_15 : decode cX12_doPart 15 = .ok (.lmul, 1) := all_at dvX12_doPart_0 9 rfl
theorem dX12_doPart_16 : decode cX12_doPart 16 = .ok (.iload 8, 2) := all_at dvX12_doPart_0 10 rfl
theorem dX12_doPart_18 : decode cX12_doPart 18 = .ok (.i2l, 1) := all_at dvX12_doPart_0 11 rfl
theorem dX12_doPart_19 : decode cX12_doPart 19 = .ok (.lload_n 2, 1) := all_at dvX12_doPart_0 12 rfl
theorem dX12_doPart_20 : decode cX12_doPart 20 = .ok (.lmul, 1) := all_at dvX12_doPart_0 13 rfl
theorem dX12_doPart_21 : decode cX12_doPart 21 = .ok (.lload 6, 2) := all_at dvX12_doPart_0 14 rfl
theorem dX12_doPart_23 : decode cX12_doPart 23 = .ok (.lmul, 1) := all_at dvX12_doPart_0 15 rfl
theorem dX12_doPart_24 : decode cX12_doPart 24 = .ok (.lcmp, 1) := all_at dvX12_doPart_0 16 rfl
theorem dX12_doPart_25 : decode cX12_doPart 25 = .ok (.ifCond .le 7, 3) := all_at dvX12_doPart_0 17 rfl
theorem dX12_doPart_28 : decode cX12_doPart 28 = .ok (.iconst 1, 1) := all_at dvX12_doPart_0 18 rfl
theorem dX12_doPart_29 : decode cX12_doPart 29 = .ok (.goto 4, 3) := all_at dvX12_doPart_0 19 rfl
theorem dX12_doPart_32 : decode cX12_doPart 32 = .ok (.iconst 0, 1) := all_at dvX12_doPart_0 20 rfl
theorem dX12_doPart_33 : decode cX12_doPart 33 = .ok (.ireturn, 1) := all_at dvX12_doPart_0 21 rfl
set_option maxRecDepth 100000 in
theorem dvX12_error_0 : ([(0, .iload_n 1, 1), (1, .i2l, 1), (2, .lconst 0, 1), (3, .ldc2_w 190, 3), (6, .invokestatic 167, 3), (9, .ifCond .eq 20, 3), (12, .iload_n 2, 1), (13, .invokestatic 216, 3), (16, .ifCond .eq 13, 3), (19, .iload_n 3, 1), (20, .i2l, 1), (21, .lconst 0, 1), (22, .lconst 1, 1), (23, .invokestatic 167, 3), (26, .ifCond .ne 6, 3), (29, .ldc 178, 2), (31, .ireturn, 1), (32, .aload_n 0, 1), (33, .iload_n 1, 1), (34, .iload_n 2, 1), (35, .iload_n 3, 1), (36, .iconst 1, 1), (37, .if_icmp .ne 7, 3), (40, .iconst 1, 1)] : List (Nat × Instr × Nat)).all (fun q => decide (decode cX12_error q.1 = .ok (q.2.1, q.2.2))) = true := by decide +kernel
theorem dX12_error_0 : decode cX12_error 0 = .ok (.iload_n 1, 1) := all_at dvX12_error_0 0 rfl
theorem dX12_error_1 : decode cX12_error 1 = .ok (.i2l, 1) := all_at dvX12_error_0 1 rfl
theorem dX12_error_2 : decode cX12_error 2 = .ok (.lconst 0, 1) := all_at dvX12_error_0 2 rfl
theorem dX12_error_3 : decode cX12_error 3 = .ok (.ldc2_w 190, 3) := all_at dvX12_error_0 3 rfl
theorem dX12_error_6 : decode cX12_error 6 = .ok (.invokestatic 167, 3) := all_at dvX12_error_0 4 rfl
theorem dX12_error_9 : decode cX12_error 9 = .ok (.ifCond .eq 20, 3) := all_at dvX12_error_0 5 rfl
theorem dX12_error_12 : decode cX12_error 12 = .ok (.iload_n 2, 1) := all_at dvX12_error_0 6 rfl
theorem dX12_error_13 : decode cX12_error 13 = .ok (.invokestatic 216, 3) := all_at dvX12_error_0 7 rfl
theorem dX12_error_16 : decode cX12_error 16 = .ok (.ifCond .eq 13, 3) := all_at dvX12_error_0 8 rfl
theorem dX12_error_19 : decode cX12_error 19 = .ok (.iload_n 3, 1) := all_at dvX12_error_0 9 rfl
theorem dX12_error_20 : decode cX12_error 20 = .ok (.i2l, 1) := all_at dvX12_error_0 10 rfl
theorem dX12_error_21 : decode cX12_error 21 = .ok (.lconst 0, 1) := all_at dvX12_error_0 11 rfl
theorem dX12_error_22 : decode cX12_error 22 = .ok (.lconst 1, 1) := all_at dvX12_error_0 12 rfl
theorem dX12_error_23 : decode cX12_error 23 = .ok (.invokestatic 167, 3) := all_at dvX12_error_0 13 rfl
theorem dX12_error_26 : decode cX12_error 26 = .ok (.ifCond .ne 6, 3) := all_at dvX12_error_0 14 rfl
theorem dX12_error_29 : decode cX12_error 29 = .ok (.ldc 178, 2) := all_at dvX12_error_0 15 rfl
theorem dX12_error_31 : decode cX12_error 31 = .ok (.ireturn, 1) := all_at dvX12_error_0 16 rfl
theorem dX12_error_32 : decode cX12_error 32 = .ok (.aload_n 0, 1) := all_at dvX12_error_0 17 rfl
theorem dX12_error_33 : decode cX12_error 33 = .ok (.iload_n 1, 1) := all_at dvX12_error_0 18 rfl
theorem dX12_error_34 : decode cX12_error 34 = .ok (.iload_n 2, 1) := all_at dvX12_error_0 19 rfl
theorem dX12_error_35 : decode cX12_error 35 = .ok (.iload_n 3, 1) := all_at dvX12_error_0 20 rfl
theorem dX12_error_36 : decode cX12_error 36 = .ok (.iconst 1, 1) := all_at dvX12_error_0 21 rfl
theorem dX12_error_37 : decode cX12_error 37 = .ok (.if_icmp .ne 7, 3) := all_at dvX12_error_0 22 rfl
theorem dX12_error_40 : decode cX12_error 40 = .ok (.iconst 1, 1) := all_at dvX12_error_0 23 rfl
set_option maxRecDepth 100000 in
theorem dvX12_error_41 : ([(41, .goto 4, 3), (44, .iconst 0, 1), (45, .invokevirtual 219, 3), (48, .ireturn, 1)] : List (Nat × Instr × Nat)).all (fun q => decide (decode cX12_error q.1 = .ok (q.2.1, q.2.2))) = true := by decide +kernel
theorem dX12_error_41 : decode cX12_error 41 = .ok (.goto 4, 3) := all_at dvX12_error_41 0 rfl
theorem dX12_error_44 : decode cX12_error 44 = .ok (.iconst 0, 1) := all_at dvX12_error_41 1 rfl
theorem dX12_error_45 : decode cX12_error 45 = .ok (.invokevirtual 219, 3) := all_at dvX12_error_41 2 rfl
theorem dX12_error_48 : decode cX12_error 48 = .ok (.ireturn, 1) := all_at dvX12_error_41 3 rfl
set_option maxRecDepth 100000 in
theorem dvX12_errorOf_0 : ([(0, .iconst (-1), 1), (1, .istore 4, 2), (3, .iconst (-1), 1), (4, .istore 5, 2), (6, .iconst 0, 1), (7, .istore 6, 2), (9, .iload 6, 2), (11, .aload_n 0, 1), (12, .getfield 213, 3), (15, .if_icmp .ge 65, 3), (18, .aload_n 0, 1), (19, .getfield 40, 3), (22, .iload 6, 2), (24, .iaload, 1), (25, .iload_n 1, 1), (26, .if_icmp .ne 48, 3), (29, .aload_n 0, 1), (30, .getfield 46, 3), (33, .iload 6, 2), (35, .iaload, 1), (36, .iload_n 2, 1), (37, .if_icmp .gt 8, 3), (40, .iload 6, 2), (42, .goto 5, 3)] : List (Nat × Instr × Nat)).all (fun q => decide (decode cX12_errorOf q.1 = .ok (q.2.1, q.2.2))) = true := by decide +kernel
theorem dX12_errorOf_0 : decode cX12_errorOf 0 = .ok (.iconst (-1), 1) := all_at dvX12_errorOf_0 0 rfl
theorem dX12_errorOf_1 : decode cX12_errorOf 1 = .ok (.istore 4, 2) := all_at dvX12_errorOf_0 1 rfl
theorem dX12_errorOf_3 : decode cX12_errorOf 3 = .ok (.iconst (-1), 1) := all_at dvX12_errorOf_0 2 rfl
theorem dX12_errorOf_4 : decode cX12_errorOf 4 = .ok (.istore 5, 2) := all_at dvX12_errorOf_0 3 rfl
theorem dX12_errorOf_6 : decode cX12_errorOf 6 = .ok (.iconst 0, 1) := all_at dvX12_errorOf_0 4 rfl
theorem dX12_errorOf_7 : decode cX12_errorOf 7 = .ok (.istore 6, 2) := all_at dvX12_errorOf_0 5 rfl
theorem dX12_errorOf_9 : decode cX12_errorOf 9 = .ok (.iload 6, 2) := all_at dvX12_errorOf_0 6 rfl
theorem dX12_errorOf_11 : decode cX12_errorOf 11 = .ok (.aload_n 0, 1) := all_at dvX12_errorOf_0 7 rfl
theorem dX12_errorOf_12 : decode cX12_errorOf 12 = .ok (.getfield 213, 3) := all_at dvX12_errorOf_0 8 rfl
theorem dX12_errorOf_15 : decode cX12_errorOf 15 = .ok (.if_icmp .ge 65, 3) := all_at dvX12_errorOf_0 9 rfl
theorem dX12_errorOf_18 : decode cX12_errorOf 18 = .ok (.aload_n 0, 1) := all_at dvX12_errorOf_0 10 rfl
theorem dX12_errorOf_19 : decode cX12_errorOf 19 = .ok (.getfield 40, 3) := all_at dvX12_errorOf_0 11 rfl
theorem dX12_errorOf_22 : decode cX12_errorOf 22 = .ok (.iload 6, 2) := all_at dvX12_errorOf_0 12 rfl
theorem dX12_errorOf_24 : decode cX12_errorOf 24 = .ok (.iaload, 1) := all_at dvX12_errorOf_0 13 rfl
theorem dX12_errorOf_25 : decode cX12_errorOf 25 = .ok (.iload_n 1, 1) := all_at dvX12_errorOf_0 14 rfl
theorem dX12_errorOf_26 : decode cX12_errorOf 26 = .ok (.if_icmp .ne 48, 3) := all_at dvX12_errorOf_0 15 rfl
theorem dX12_errorOf_29 : decode cX12_errorOf 29 = .ok (.aload_n 0, 1) := all_at dvX12_errorOf_0 16 rfl
theorem dX12_errorOf_30 : decode cX12_errorOf 30 = .ok (.getfield 46, 3) := all_at dvX12_errorOf_0 17 rfl
theorem dX12_errorOf_33 : decode cX12_errorOf 33 = .ok (.iload 6, 2) := all_at dvX12_errorOf_0 18 rfl
theorem dX12_errorOf_35 : decode cX12_errorOf 35 = .ok (.iaload, 1) := all_at dvX12_errorOf_0 19 rfl
theorem dX12_errorOf_36 : decode cX12_errorOf 36 = .ok (.iload_n 2, 1) := all_at dvX12_errorOf_0 20 rfl
theorem dX12_errorOf_37 : decode cX12_errorOf 37 = .ok (.if_icmp .gt 8, 3) := all_at dvX12_errorOf_0 21 rfl
theorem dX12_errorOf_40 : decode cX12_errorOf 40 = .ok (.iload 6, 2) := all_at dvX12_errorOf_0 22 rfl
theorem dX12_errorOf_42 : decode cX12_errorOf 42 = .ok (.goto 5, 3) := all_at dvX12_errorOf_0 23 rfl
set_option maxRecDepth 100000 in
theorem dvX12_errorOf_45 : ([(45, .iload 4, 2), (47, .istore 4, 2), (49, .aload_n 0, 1), (50, .getfield 46, 3), (53, .iload 6, 2), (55, .iaload, 1), (56, .iload_n 2, 1), (57, .if_icmp .le 13, 3), (60, .iload 5, 2), (62, .ifCond .ge 8, 3), (65, .iload 6, 2), (67, .goto 5, 3), (70, .iload 5, 2), (72, .istore 5, 2), (74, .iinc 6 1, 3), (77, .goto (-68), 3), (80, .iload 4, 2), (82, .ifCond .ge 10, 3), (85, .iload 5, 2), (87, .ifCond .ge 5, 3), (90, .iconst 0, 1), (91, .ireturn, 1), (92, .aload_n 0, 1), (93, .getfield 43, 3)] : List (Nat × Instr × Nat)).all (fun q => decide (decode cX12_errorOf q.1 = .ok (q.2.1, q.2.2))) = true := by decide +kernel
theorem dX12_errorOf_45 : decode cX12_errorOf 45 = .ok (.iload 4, 2) := all_at dvX12_errorOf_45 0 rfl
theorem dX12_errorOf_47 : decode cX12_errorOf 47 = .ok (.istore 4, 2) := all_at dvX12_errorOf_45 1 rfl
theorem dX12_errorOf_49 : decode cX12_errorOf 49 = .ok (.aload_n 0, 1) := all_at dvX12_errorOf_45 2 rfl
theorem dX12_errorOf_50 : decode cX12_errorOf 50 = .ok (.getfield 46, 3) := all_at dvX12_errorOf_45 3 rfl
theorem dX12_errorOf_53 : decode cX12_errorOf 53 = .ok (.iload 6, 2) := all_at dvX12_errorOf_45 4 rfl
theorem dX12_errorOf_55 : decode cX12_errorOf 55 = .ok (.iaload, 1) := all_at dvX12_errorOf_45 5 rfl
theorem dX12_errorOf_56 : decode cX12_errorOf 56 = .ok (.iload_n 2, 1) := all_at dvX12_errorOf_45 6 rfl
theorem dX12_errorOf_57 : decode cX12_errorOf 57 = .ok (.if_icmp .le 13, 3) := all_at dvX12_errorOf_45 7 rfl
theorem dX12_errorOf_60 : decode cX12_errorOf 60 = .ok (.iload 5, 2) := all_at dvX12_errorOf_45 8 rfl
theorem dX12_errorOf_62 : decode cX12_errorOf 62 = .ok (.ifCond .ge 8, 3) := all_at dvX12_errorOf_45 9 rfl
theorem dX12_errorOf_65 : decode cX12_errorOf 65 = .ok (.iload 6, 2) := all_at dvX12_errorOf_45 10 rfl
theorem dX12_errorOf_67 : decode cX12_errorOf 67 = .ok (.goto 5, 3) := all_at dvX12_errorOf_45 11 rfl
theorem dX12_errorOf_70 : decode cX12_errorOf 70 = .ok (.iload 5, 2) := all_at dvX12_errorOf_45 12 rfl
theorem dX12_errorOf_72 : decode cX12_errorOf 72 = .ok (.istore 5, 2) := all_at dvX12_errorOf_45 13 rfl
theorem dX12_errorOf_74 : decode cX12_errorOf 74 = .ok (.iinc 6 1, 3) := all_at dvX12_errorOf_45 14 rfl
theorem dX12_errorOf_77 : decode cX12_errorOf 77 = .ok (.goto (-68), 3) := all_at dvX12_errorOf_45 15 rfl
theorem dX12_errorOf_80 : decode cX12_errorOf 80 = .ok (.iload 4, 2) := all_at dvX12_errorOf_45 16 rfl
theorem dX12_errorOf_82 : decode cX12_errorOf 82 = .ok (.ifCond .ge 10, 3) := all_at dvX12_errorOf_45 17 rfl
theorem dX12_errorOf_85 : decode cX12_errorOf 85 = .ok (.iload 5, 2) := all_at dvX12_errorOf_45 18 rfl
theorem dX12_errorOf_87 : decode cX12_errorOf 87 = .ok (.ifCond .ge 5, 3) := all_at dvX12_errorOf_45 19 rfl
theorem dX12_errorOf_90 : decode cX12_errorOf 90 = .ok (.iconst 0, 1) := all_at dvX12_errorOf_45 20 rfl
theorem dX12_errorOf_91 : decode cX12_errorOf 91 = .ok (.ireturn, 1) := all_at dvX12_errorOf_45 21 rfl
theorem dX12_errorOf_92 : decode cX12_errorOf 92 = .ok (.aload_n 0, 1) := all_at dvX12_errorOf_45 22 rfl
theorem dX12_errorOf_93 : decode cX12_errorOf 93 = .ok (.getfield 43, 3) := all_at dvX12_errorOf_45 23 rfl
set_option maxRecDepth 100000 in
theorem dvX12_errorOf_96 : ([(96, .iload 4, 2), (98, .ifCond .ge 8, 3), (101, .iload 5, 2), (103, .goto 5, 3), (106, .iload 4, 2), (108, .iaload, 1), (109, .istore 6, 2), (111, .aload_n 0, 1), (112, .getfield 43, 3), (115, .iload 5, 2), (117, .ifCond .ge 8, 3), (120, .iload 4, 2), (122, .goto 5, 3), (125, .iload 5, 2), (127, .iaload, 1), (128, .istore 7, 2), (130, .iload_n 3, 1), (131, .iload 6, 2), (133, .iload 7, 2), (135, .if_icmp .le 7, 3), (138, .iconst 1, 1), (139, .goto 4, 3), (142, .iconst 0, 1), (143, .if_icmp .ne 8, 3)] : List (Nat × Instr × Nat)).all (fun q => decide (decode cX12_errorOf q.1 = .ok (q.2.1, q.2.2))) = true := by decide +kernel
theorem dX12_errorOf_96 : decode cX12_errorOf 96 = .ok (.iload 4, 2) := all_at dvX12_errorOf_96 0 rfl
theorem dX12_errorOf_98 : decode cX12_errorOf 98 = .ok (.ifCond .ge 8, 3) := all_at dvX12_errorOf_96 1 rfl
theorem dX12_errorOf_101 : decode cX12_errorOf 101 = .ok (.iload 5, 2) := all_at dvX12_errorOf_96 2 rfl
theorem dX12_errorOf_103 : decode cX12_errorOf 103 = .ok (.goto 5, 3) := all_at dvX12_errorOf_96 3 rfl
theorem dX12_errorOf_106 : decode cX12_errorOf 106 = .ok (.iload 4, 2) := all_at dvX12_errorOf_96 4 rfl
theorem dX12_errorOf_108 : decode cX12_errorOf 108 = .ok (.iaload, 1) := all_at dvX12_errorOf_96 5 rfl
theorem dX12_errorOf_109 : decode cX12_errorOf 109 = .ok (.istore 6, 2) := all_at dvX12_errorOf_96 6 rfl
theorem dX12_errorOf_111 : decode cX12_errorOf 111 = .ok (.aload_n 0, 1) := all_at dvX12_errorOf_96 7 rfl
theorem dX12_errorOf_112 : decode cX12_errorOf 112 = .ok (.getfield 43, 3) := all_at dvX12_errorOf_96 8 rfl
theorem dX12_errorOf_115 : decode cX12_errorOf 115 = .ok (.iload 5, 2) := all_at dvX12_errorOf_96 9 rfl
theorem dX12_errorOf_117 : decode cX12_errorOf 117 = .ok (.ifCond .ge 8, 3) := all_at dvX12_errorOf_96 10 rfl
theorem dX12_errorOf_120 : decode cX12_errorOf 120 = .ok (.iload 4, 2) := all_at dvX12_errorOf_96 11 rfl
theorem dX12_errorOf_122 : decode cX12_errorOf 122 = .ok (.goto 5, 3) := all_at dvX12_errorOf_96 12 rfl
theorem dX12_errorOf_125 : decode cX12_errorOf 125 = .ok (.iload 5, 2) := all_at dvX12_errorOf_96 13 rfl
theorem dX12_errorOf_127 : decode cX12_errorOf 127 = .ok (.iaload, 1) := all_at dvX12_errorOf_96 14 rfl
theorem dX12_errorOf_128 : decode cX12_errorOf 128 = .ok (.istore 7, 2) := all_at dvX12_errorOf_96 15 rfl
theorem dX12_errorOf_130 : decode cX12_errorOf 130 = .ok (.iload_n 3, 1) := all_at dvX12_errorOf_96 16 rfl
theorem dX12_errorOf_131 : decode cX12_errorOf 131 = .ok (.iload 6, 2) := all_at dvX12_errorOf_96 17 rfl
theorem dX12_errorOf_133 : decode cX12_errorOf 133 = .ok (.iload 7, 2) := all_at dvX12_errorOf_96 18 rfl
theorem dX12_errorOf_135 : decode cX12_errorOf 135 = .ok (.if_icmp .le 7, 3) := all_at dvX12_errorOf_96 19 rfl
theorem dX12_errorOf_138 : decode cX12_errorOf 138 = .ok (.iconst 1, 1) := all_at dvX12_errorOf_96 20 rfl
theorem dX12_errorOf_139 : decode cX12_errorOf 139 = .ok (.goto 4, 3) := all_at dvX12_errorOf_96 21 rfl
theorem dX12_errorOf_142 : decode cX12_errorOf 142 = .ok (.iconst 0, 1) := all_at dvX12_errorOf_96 22 rfl
theorem dX12_errorOf_143 : decode cX12_errorOf 143 = .ok (.if_icmp .ne 8, 3) := all_at dvX12_errorOf_96 23 rfl
set_option maxRecDepth 100000 in
theorem dvX12_errorOf_146 : ([(146, .iload 6, 2), (148, .goto 5, 3), (151, .iload 7, 2), (153, .ireturn, 1)] : List (Nat × Instr × Nat)).all (fun q => decide (decode cX12_errorOf q.1 = .ok (q.2.1, q.2.2))) = true := by decide +kernel
theorem dX12_errorOf_146 : decode cX12_errorOf 146 = .ok (.iload 6, 2) := all_at dvX12_errorOf_146 0 rfl
theorem dX12_errorOf_148 : decode cX12_errorOf 148 = .ok (.goto 5, 3) := all_at dvX12_errorOf_146 1 rfl
theorem dX12_errorOf_151 : decode cX12_errorOf 151 = .ok (.iload 7, 2) := all_at dvX12_errorOf_146 2 rfl
theorem dX12_errorOf_153 : decode cX12_errorOf 153 = .ok (.ireturn, 1) := all_at dvX12_errorOf_146 3 rfl
set_option maxRecDepth 100000 in
theorem dvX12_isThere_0 : ([(0, .aload_n 0, 1), (1, .getfield 34, 3), (4, .iload_n 1, 1), (5, .iaload, 1), (6, .iload_n 2, 1), (7, .if_icmp .gt 26, 3), (10, .aload_n 0, 1), (11, .getfield 37, 3), (14, .iload_n 1, 1), (15, .iaload, 1), (16, .ifCond .lt 13, 3), (19, .aload_n 0, 1), (20, .getfield 37, 3), (23, .iload_n 1, 1), (24, .iaload, 1), (25, .iload_n 2, 1), (26, .if_icmp .le 7, 3), (29, .iconst 1, 1), (30, .goto 4, 3), (33, .iconst 0, 1), (34, .ireturn, 1)] : List (Nat × Instr × Nat)).all (fun q => decide (decode cX12_isThere q.1 = .ok (q.2.1, q.2.2))) = true := by decide +kernel
theorem dX12_isThere_0 : decode cX12_isThere 0 = .ok (.aload_n 0, 1) := all_at dvX12_isThere_0 0 rfl
theorem dX12_isThere_1 : decode cX12_isThere 1 = .ok (.getfield 34, 3) := all_at dvX12_isThere_0 1 rfl
theorem dX12_isThere_4 : decode cX12_isThere 4 = .ok (.iload_n 1, 1) := all_at dvX12_isThere_0 2 rfl
theorem dX12_isThere_5 : decode cX12_isThere 5 = .ok (.iaload, 1) := all_at dvX12_isThere_0 3 rfl
theorem dX12_isThere_6 : decode cX12_isThere 6 = .ok (.iload_n 2, 1) := all_at dvX12_isThere_0 4 rfl
theorem dX12_isThere_7 : decode cX12_isThere 7 = .ok (.if_icmp .gt 26, 3) := all_at dvX12_isThere_0 5 rfl
theorem dX12_isThere_10 : decode cX12_isThere 10 = .ok (.aload_n 0, 1) := all_at dvX12_isThere_0 6 rfl
theorem dX12_isThere_11 : decode cX12_isThere 11 = .ok (.getfield 37, 3) := all_at dvX12_isThere_0 7 rfl
theorem dX12_isThere_14 : decode cX12_isThere 14 = .ok (.iload_n 1, 1) := all_at dvX12_isThere_0 8 rfl
theorem dX12_isThere_15 : decode cX12_isThere 15 = .ok (.iaload, 1) := all_at dvX12_isThere_0 9 rfl
theorem dX12_isThere_16 : decode cX12_isThere 16 = .ok (.ifCond .lt 13, 3) := all_at dvX12_isThere_0 10 rfl
theorem dX12_isThere_19 : decode cX12_isThere 19 = .ok (.aload_n 0, 1) := all_at dvX12_isThere_0 11 rfl
theorem dX12_isThere_20 : decode cX12_isThere 20 = .ok (.getfield 37, 3) := all_at dvX12_isThere_0 12 rfl
theorem dX12_isThere_23 : decode cX12_isThere 23 = .ok (.iload_n 1, 1) := all_at dvX12_isThere_0 13 rfl
theorem dX12_isThere_24 : decode cX12_isThere 24 = .ok (.iaload, 1) := all_at dvX12_isThere_0 14 rfl
theorem dX12_isThere_25 : decode cX12_isThere 25 = .ok (.iload_n 2, 1) := all_at dvX12_isThere_0 15 rfl
theorem dX12_isThere_26 : decode cX12_isThere 26 = .ok (.if_icmp .le 7, 3) := all_at dvX12_isThere_0 16 rfl
theorem dX12_isThere_29 : decode cX12_isThere 29 = .ok (.iconst 1, 1) := all_at dvX12_isThere_0 17 rfl
theorem dX12_isThere_30 : decode cX12_isThere 30 = .ok (.goto 4, 3) := all_at dvX12_isThere_0 18 rfl
theorem dX12_isThere_33 : decode cX12_isThere 33 = .ok (.iconst 0, 1) := all_at dvX12_isThere_0 19 rfl
theorem dX12_isThere_34 : decode cX12_isThere 34 = .ok (.ireturn, 1) := all_at dvX12_isThere_0 20 rfl
set_option maxRecDepth 100000 in
theorem dvX12_leaveOut_0 : ([(0, .aload_n 0, 1), (1, .iload_n 1, 1), (2, .putfield 49, 3), (5, .aload_n 0, 1), (6, .iload_n 2, 1), (7, .putfield 53, 3), (10, .aload_n 0, 1), (11, .iload_n 3, 1), (12, .putfield 56, 3), (15, .return_, 1)] : List (Nat × Instr × Nat)).all (fun q => decide (decode cX12_leaveOut q.1 = .ok (q.2.1, q.2.2))) = true := by decide +kernel
theorem dX12_leaveOut_0 : decode cX12_leaveOut 0 = .ok (.aload_n 0, 1) := all_at dvX12_leaveOut_0 0 rfl
theorem dX12_leaveOut_1 : decode cX12_leaveOut 1 = .ok (.iload_n 1, 1) := all_at dvX12_leaveOut_0 1 rfl
theorem dX12_leaveOut_2 : decode cX12_leaveOut 2 = .ok (.putfield 49, 3) := all_at dvX12_leaveOut_0 2 rfl
theorem dX12_leaveOut_5 : decode cX12_leaveOut 5 = .ok (.aload_n 0, 1) := all_at dvX12_leaveOut_0 3 rfl
theorem dX12_leaveOut_6 : decode cX12_leaveOut 6 = .ok (.iload_n 2, 1) := all_at dvX12_leaveOut_0 4 rfl
theorem dX12_leaveOut_7 : decode cX12_leaveOut 7 = .ok (.putfield 53, 3) := all_at dvX12_leaveOut_0 5 rfl
theorem dX12_leaveOut_10 : decode cX12_leaveOut 10 = .ok (.aload_n 0, 1) := all_at dvX12_leaveOut_0 6 rfl
theorem dX12_leaveOut_11 : decode cX12_leaveOut 11 = .ok (.iload_n 3, 1) := all_at dvX12_leaveOut_0 7 rfl
theorem dX12_leaveOut_12 : decode cX12_leaveOut 12 = .ok (.putfield 56, 3) := all_at dvX12_leaveOut_0 8 rfl
theorem dX12_leaveOut_15 : decode cX12_leaveOut 15 = .ok (.return_, 1) := all_at dvX12_leaveOut_0 9 rfl
set_option maxRecDepth 100000 in
theorem dvX12_sumUp_0 : ([(0, .aload_n 0, 1), (1, .lconst 0, 1), (2, .putfield 223, 3), (5, .aload_n 0, 1), (6, .lconst 0, 1), (7, .putfield 227, 3), (10, .aload_n 0, 1), (11, .iconst 0, 1), (12, .putfield 230, 3), (15, .iconst 0, 1), (16, .istore 4, 2), (18, .iload 4, 2), (20, .aload_n 0, 1), (21, .getfield 200, 3), (24, .if_icmp .ge 134, 3), (27, .aload_n 0, 1), (28, .getfield 28, 3), (31, .iload 4, 2), (33, .iaload, 1), (34, .aload_n 0, 1), (35, .getfield 49, 3), (38, .if_icmp .eq 26, 3), (41, .aload_n 0, 1), (42, .getfield 31, 3)] : List (Nat × Instr × Nat)).all (fun q => decide (decode cX12_sumUp q.1 = .ok (q.2.1, q.2.2))) = true := by decide +kernel
theorem dX12_sumUp_0 : decode cX12_sumUp 0 = .ok (.aload_n 0, 1) := all_at dvX12_sumUp_0 0 rfl
theorem dX12_sumUp_1 : decode cX12_sumUp 1 = .ok (.lconst 0, 1) := all_at dvX12_sumUp_0 1 rfl
theorem dX12_sumUp_2 : decode cX12_sumUp 2 = .ok (.putfield 223, 3) := all_at dvX12_sumUp_0 2 rfl
theorem dX12_sumUp_5 : decode cX12_sumUp 5 = .ok (.aload_n 0, 1) := all_at dvX12_sumUp_0 3 rfl
theorem dX12_sumUp_6 : decode cX12_sumUp 6 = .ok (.lconst 0, 1) := all_at dvX12_sumUp_0 4 rfl
theorem dX12_sumUp_7 : decode cX12_sumUp 7 = .ok (.putfield 227, 3) := all_at dvX12_sumUp_0 5 rfl
theorem dX12_sumUp_10 : decode cX12_sumUp 10 = .ok (.aload_n 0, 1) := all_at dvX12_sumUp_0 6 rfl
theorem dX12_sumUp_11 : decode cX12_sumUp 11 = .ok (.iconst 0, 1) := all_at dvX12_sumUp_0 7 rfl
theorem dX12_sumUp_12 : decode cX12_sumUp 12 = .ok (.putfield 230, 3) := all_at dvX12_sumUp_0 8 rfl
theorem dX12_sumUp_15 : decode cX12_sumUp 15 = .ok (.iconst 0, 1) := all_at dvX12_sumUp_0 9 rfl
theorem dX12_sumUp_16 : decode cX12_sumUp 16 = .ok (.istore 4, 2) := all_at dvX12_sumUp_0 10 rfl
theorem dX12_sumUp_18 : decode cX12_sumUp 18 = .ok (.iload 4, 2) := all_at dvX12_sumUp_0 11 rfl
theorem dX12_sumUp_20 : decode cX12_sumUp 20 = .ok (.aload_n 0, 1) := all_at dvX12_sumUp_0 12 rfl
theorem dX12_sumUp_21 : decode cX12_sumUp 21 = .ok (.getfield 200, 3) := all_at dvX12_sumUp_0 13 rfl
theorem dX12_sumUp_24 : decode cX12_sumUp 24 = .ok (.if_icmp .ge 134, 3) := all_at dvX12_sumUp_0 14 rfl
theorem dX12_sumUp_27 : decode cX12_sumUp 27 = .ok (.aload_n 0, 1) := all_at dvX12_sumUp_0 15 rfl
theorem dX12_sumUp_28 : decode cX12_sumUp 28 = .ok (.getfield 28, 3) := all_at dvX12_sumUp_0 16 rfl
theorem dX12_sumUp_31 : decode cX12_sumUp 31 = .ok (.iload 4, 2) := all_at dvX12_sumUp_0 17 rfl
theorem dX12_sumUp_33 : decode cX12_sumUp 33 = .ok (.iaload, 1) := all_at dvX12_sumUp_0 18 rfl
theorem dX12_sumUp_34 : decode cX12_sumUp 34 = .ok (.aload_n 0, 1) := all_at dvX12_sumUp_0 19 rfl
theorem dX12_sumUp_35 : decode cX12_sumUp 35 = .ok (.getfield 49, 3) := all_at dvX12_sumUp_0 20 rfl
theorem dX12_sumUp_38 : decode cX12_sumUp 38 = .ok (.if_icmp .eq 26, 3) := all_at dvX12_sumUp_0 21 rfl
theorem dX12_sumUp_41 : decode cX12_sumUp 41 = .ok (.aload_n 0, 1) := all_at dvX12_sumUp_0 22 rfl
theorem dX12_sumUp_42 : decode cX12_sumUp 42 = .ok (.getfield 31, 3) := all_at dvX12_sumUp_0 23 rfl
set_option maxRecDepth 100000 in
theorem dvX12_sumUp_45 : ([(45, .iload 4, 2), (47, .iaload, 1), (48, .aload_n 0, 1), (49, .getfield 53, 3), (52, .if_icmp .eq 12, 3), (55, .iload 4, 2), (57, .aload_n 0, 1), (58, .getfield 56, 3), (61, .if_icmp .ne 7, 3), (64, .iconst 1, 1), (65, .goto 4, 3), (68, .iconst 0, 1), (69, .istore 5, 2), (71, .aload_n 0, 1), (72, .getfield 13, 3), (75, .iload 4, 2), (77, .iaload, 1), (78, .iload_n 1, 1), (79, .if_icmp .ne 73, 3), (82, .aload_n 0, 1), (83, .getfield 16, 3), (86, .iload 4, 2), (88, .iaload, 1), (89, .iload_n 2, 1)] : List (Nat × Instr × Nat)).all (fun q => decide (decode cX12_sumUp q.1 = .ok (q.2.1, q.2.2))) = true := by decide +kernel
theorem dX12_sumUp_45 : decode cX12_sumUp 45 = .ok (.iload 4, 2) := all_at dvX12_sumUp_45 0 rfl
theorem dX12_sumUp_47 : decode cX12_sumUp 47 = .ok (.iaload, 1) := all_at dvX12_sumUp_45 1 rfl
theorem dX12_sumUp_48 : decode cX12_sumUp 48 = .ok (.aload_n 0, 1) := all_at dvX12_sumUp_45 2 rfl
theorem dX12_sumUp_49 : decode cX12_sumUp 49 = .ok (.getfield 53, 3) := all_at dvX12_sumUp_45 3 rfl
theorem dX12_sumUp_52 : decode cX12_sumUp 52 = .ok (.if_icmp .eq 12, 3) := all_at dvX12_sumUp_45 4 rfl
theorem dX12_sumUp_55 : decode cX12_sumUp 55 = .ok (.iload 4, 2) := all_at dvX12_sumUp_45 5 rfl
theorem dX12_sumUp_57 : decode cX12_sumUp 57 = .ok (.aload_n 0, 1) := all_at dvX12_sumUp_45 6 rfl
theorem dX12_sumUp_58 : decode cX12_sumUp 58 = .ok (.getfield 56, 3) := all_at dvX12_sumUp_45 7 rfl
theorem dX12_sumUp_61 : decode cX12_sumUp 61 = .ok (.if_icmp .ne 7, 3) := all_at dvX12_sumUp_45 8 rfl
theorem dX12_sumUp_64 : decode cX12_sumUp 64 = .ok (.iconst 1, 1) := all_at dvX12_sumUp_45 9 rfl
theorem dX12_sumUp_65 : decode cX12_sumUp 65 = .ok (.goto 4, 3) := all_at dvX12_sumUp_45 10 rfl
theorem dX12_sumUp_68 : decode cX12_sumUp 68 = .ok (.iconst 0, 1) := all_at dvX12_sumUp_45 11 rfl
theorem dX12_sumUp_69 : decode cX12_sumUp 69 = .ok (.istore 5, 2) := all_at dvX12_sumUp_45 12 rfl
theorem dX12_sumUp_71 : decode cX12_sumUp 71 = .ok (.aload_n 0, 1) := all_at dvX12_sumUp_45 13 rfl
theorem dX12_sumUp_72 : decode cX12_sumUp 72 = .ok (.getfield 13, 3) := all_at dvX12_sumUp_45 14 rfl
theorem dX12_sumUp_75 : decode cX12_sumUp 75 = .ok (.iload 4, 2) := all_at dvX12_sumUp_45 15 rfl
theorem dX12_sumUp_77 : decode cX12_sumUp 77 = .ok (.iaload, 1) := all_at dvX12_sumUp_45 16 rfl
theorem dX12_sumUp_78 : decode cX12_sumUp 78 = .ok (.iload_n 1, 1) := all_at dvX12_sumUp_45 17 rfl
theorem dX12_sumUp_79 : decode cX12_sumUp 79 = .ok (.if_icmp .ne 73, 3) := all_at dvX12_sumUp_45 18 rfl
theorem dX12_sumUp_82 : decode cX12_sumUp 82 = .ok (.aload_n 0, 1) := all_at dvX12_sumUp_45 19 rfl
theorem dX12_sumUp_83 : decode cX12_sumUp 83 = .ok (.getfield 16, 3) := all_at dvX12_sumUp_45 20 rfl
theorem dX12_sumUp_86 : decode cX12_sumUp 86 = .ok (.iload 4, 2) := all_at dvX12_sumUp_45 21 rfl
theorem dX12_sumUp_88 : decode cX12_sumUp 88 = .ok (.iaload, 1) := all_at dvX12_sumUp_45 22 rfl
theorem dX12_sumUp_89 : decode cX12_sumUp 89 = .ok (.iload_n 2, 1) := all_at dvX12_sumUp_45 23 rfl
set_option maxRecDepth 100000 in
theorem dvX12_sumUp_90 : ([(90, .if_icmp .ne 62, 3), (93, .aload_n 0, 1), (94, .iload 4, 2), (96, .iload_n 3, 1), (97, .invokevirtual 233, 3), (100, .ifCond .eq 52, 3), (103, .iload 5, 2), (105, .ifCond .ne 47, 3), (108, .aload_n 0, 1), (109, .dup, 1), (110, .getfield 223, 3), (113, .aload_n 0, 1), (114, .getfield 25, 3), (117, .iload 4, 2), (119, .iaload, 1), (120, .i2l, 1), (121, .ladd, 1), (122, .putfield 223, 3), (125, .aload_n 0, 1), (126, .dup, 1), (127, .getfield 227, 3), (130, .aload_n 0, 1), (131, .getfield 22, 3), (134, .iload 4, 2)] : List (Nat × Instr × Nat)).all (fun q => decide (decode cX12_sumUp q.1 = .ok (q.2.1, q.2.2))) = true := by decide +kernel
theorem dX12_sumUp_90 : decode cX12_sumUp 90 = .ok (.if_icmp .ne 62, 3) := all_at dvX12_sumUp_90 0 rfl
theorem dX12_sumUp_93 : decode cX12_sumUp 93 = .ok (.aload_n 0, 1) := all_at dvX12_sumUp_90 1 rfl
theorem dX12_sumUp_94 : decode cX12_sumUp 94 = .ok (.iload 4, 2) := all_at dvX12_sumUp_90 2 rfl
theorem dX12_sumUp_96 : decode cX12_sumUp 96 = .ok (.iload_n 3, 1) := all_at dvX12_sumUp_90 3 rfl
theorem dX12_sumUp_97 : decode cX12_sumUp 97 = .ok (.invokevirtual 233, 3) := all_at dvX12_sumUp_90 4 rfl
theorem dX12_sumUp_100 : decode cX12_sumUp 100 = .ok (.ifCond .eq 52, 3) := all_at dvX12_sumUp_90 5 rfl
theorem dX12_sumUp_103 : decode cX12_sumUp 103 = .ok (.iload 5, 2) := all_at dvX12_sumUp_90 6 rfl
theorem dX12_sumUp_105 : decode cX12_sumUp 105 = .ok (.ifCond .ne 47, 3) := all_at dvX12_sumUp_90 7 rfl
theorem dX12_sumUp_108 : decode cX12_sumUp 108 = .ok (.aload_n 0, 1) := all_at dvX12_sumUp_90 8 rfl
theorem dX12_sumUp_109 : decode cX12_sumUp 109 = .ok (.dup, 1) := all_at dvX12_sumUp_90 9 rfl
theorem dX12_sumUp_110 : decode cX12_sumUp 110 = .ok (.getfield 223, 3) := all_at dvX12_sumUp_90 10 rfl
theorem dX12_sumUp_113 : decode cX12_sumUp 113 = .ok (.aload_n 0, 1) := all_at dvX12_sumUp_90 11 rfl
theorem dX12_sumUp_114 : decode cX12_sumUp 114 = .ok (.getfield 25, 3) := all_at dvX12_sumUp_90 12 rfl
theorem dX12_sumUp_117 : decode cX12_sumUp 117 = .ok (.iload 4, 2) := all_at dvX12_sumUp_90 13 rfl
theorem dX12_sumUp_119 : decode cX12_sumUp 119 = .ok (.iaload, 1) := all_at dvX12_sumUp_90 14 rfl
theorem dX12_sumUp_120 : decode cX12_sumUp 120 = .ok (.i2l, 1) := all_at dvX12_sumUp_90 15 rfl
theorem dX12_sumUp_121 : decode cX12_sumUp 121 = .ok (.ladd, 1) := all_at dvX12_sumUp_90 16 rfl
theorem dX12_sumUp_122 : decode cX12_sumUp 122 = .ok (.putfield 223, 3) := all_at dvX12_sumUp_90 17 rfl
theorem dX12_sumUp_125 : decode cX12_sumUp 125 = .ok (.aload_n 0, 1) := all_at dvX12_sumUp_90 18 rfl
theorem dX12_sumUp_126 : decode cX12_sumUp 126 = .ok (.dup, 1) := all_at dvX12_sumUp_90 19 rfl
theorem dX12_sumUp_127 : decode cX12_sumUp 127 = .ok (.getfield 227, 3) := all_at dvX12_sumUp_90 20 rfl
theorem dX12_sumUp_130 : decode cX12_sumUp 130 = .ok (.aload_n 0, 1) := all_at dvX12_sumUp_90 21 rfl
theorem dX12_sumUp_131 : decode cX12_sumUp 131 = .ok (.getfield 22, 3) := all_at dvX12_sumUp_90 22 rfl
theorem dX12_sumUp_134 : decode cX12_sumUp 134 = .ok (.iload 4, 2) := all_at dvX12_sumUp_90 23 rfl
set_option maxRecDepth 100000 in
theorem dvX12_sumUp_136 : ([(136, .iaload, 1), (137, .i2l, 1), (138, .ladd, 1), (139, .putfield 227, 3), (142, .aload_n 0, 1), (143, .dup, 1), (144, .getfield 230, 3), (147, .iconst 1, 1), (148, .iadd, 1), (149, .putfield 230, 3), (152, .iinc 4 1, 3), (155, .goto (-137), 3), (158, .aload_n 0, 1), (159, .getfield 230, 3), (162, .ireturn, 1)] : List (Nat × Instr × Nat)).all (fun q => decide (decode cX12_sumUp q.1 = .ok (q.2.1, q.2.2))) = true := by decide +kernel
theorem dX12_sumUp_136 : decode cX12_sumUp 136 = .ok (.iaload, 1) := all_at dvX12_sumUp_136 0 rfl
theorem dX12_sumUp_137 : decode cX12_sumUp 137 = .ok (.i2l, 1) := all_at dvX12_sumUp_136 1 rfl
theorem dX12_sumUp_138 : decode cX12_sumUp 138 = .ok (.ladd, 1) := all_at dvX12_sumUp_136 2 rfl
theorem dX12_sumUp_139 : decode cX12_sumUp 139 = .ok (.putfield 227, 3) := all_at dvX12_sumUp_136 3 rfl
theorem dX12_sumUp_142 : decode cX12_sumUp 142 = .ok (.aload_n 0, 1) := all_at dvX12_sumUp_136 4 rfl
theorem dX12_sumUp_143 : decode cX12_sumUp 143 = .ok (.dup, 1) := all_at dvX12_sumUp_136 5 rfl
theorem dX12_sumUp_144 : decode cX12_sumUp 144 = .ok (.getfield 230, 3) := all_at dvX12_sumUp_136 6 rfl
theorem dX12_sumUp_147 : decode cX12_sumUp 147 = .ok (.iconst 1, 1) := all_at dvX12_sumUp_136 7 rfl
theorem dX12_sumUp_148 : decode cX12_sumUp 148 = .ok (.iadd, 1) := all_at dvX12_sumUp_136 8 rfl
theorem dX12_sumUp_149 : decode cX12_sumUp 149 = .ok (.putfield 230, 3) := all_at dvX12_sumUp_136 9 rfl
theorem dX12_sumUp_152 : decode cX12_sumUp 152 = .ok (.iinc 4 1, 3) := all_at dvX12_sumUp_136 10 rfl
theorem dX12_sumUp_155 : decode cX12_sumUp 155 = .ok (.goto (-137), 3) := all_at dvX12_sumUp_136 11 rfl
theorem dX12_sumUp_158 : decode cX12_sumUp 158 = .ok (.aload_n 0, 1) := all_at dvX12_sumUp_136 12 rfl
theorem dX12_sumUp_159 : decode cX12_sumUp 159 = .ok (.getfield 230, 3) := all_at dvX12_sumUp_136 13 rfl
theorem dX12_sumUp_162 : decode cX12_sumUp 162 = .ok (.ireturn, 1) := all_at dvX12_sumUp_136 14 rfl
set_option maxHeartbeats 4000000 in
set_option maxRecDepth 100000 in
/-- X12_doPart -/
theorem c_X12_doPart (l : Launch) (dC : Nat → ClassId) (dI : Nat → Nat → Nat) (a : Int64) (b : Int64) (d : Int64) (k : Int64) (n : Int32) : Met l yX12_doPart (wc yX12_doPart cX12_doPart 9 (some .boolean)) ({ frames := 1, cells := 0, slots := 0, locals := 21 } : Room) (pR (dC, dI) classes [] [] [.long a, .long b, .long d, .long k, .int n]) (vp_Si (fun r => 0 ≤ r.toInt ∧ r.toInt ≤ 1)) 0 0 (fun _ => False) := by
  refine Met.ofW (cc := cX12_doPart) (maxL := 9) (ret := (some .boolean)) (by decide) rfl ?_
  intro p e s m args below meth c s₁ B hml hv
  obtain ⟨rfl, hP, hK⟩ := hv
  have hx := B.exec
  have hb := B.bytes
  have hr := B.returns
  have ht := tb_tl (atoms_spec (ws := wc yX12_doPart cX12_doPart 9 (some .boolean)) B.pre)
  have hown : s.vm.findClass RX12 = some m.cls := findClass_of_methodNamed B.named
  have hlocks := B.notSynchronized
  have hl := lv_entry [.long a, .long b, .long d, .long k, .int n] (n := 9) (Nat.le_of_ble_eq_true rfl)
  rw [lg_entry_eq]
  generalize (lg_sl [.long a, .long b, .long d, .long k, .int n] ++ List.replicate (9 - (lg_sl [.long a, .long b, .long d, .long k, .int n]).length) Slot.unset).toArray = ls at hl ⊢
  have hl : lv_has ls 9 [(0, .long a), (2, .long b), (4, .long d), (6, .long k), (8, .int n)] := hl
  refine lv_ldc2 hx hb hown (ht _ m_1543) dX12_doPart_0 ?_
  refine lv_lload_n hx hb dX12_doPart_3 rfl (lv_at hl 0 rfl) ?_
  refine lv_lload hx hb dX12_doPart_4 (lv_at hl 3 rfl) ?_
  refine lv_lmul hx hb dX12_doPart_6 ?_
  refine lv_topl (fun w1 ew1 => ?_)
  refine lv_lload hx hb dX12_doPart_7 (lv_at hl 2 rfl) ?_
  refine lv_lload_n hx hb dX12_doPart_9 rfl (lv_at hl 1 rfl) ?_
  refine lv_lmul hx hb dX12_doPart_10 ?_
  refine lv_topl (fun w2 ew2 => ?_)
  refine lv_lsub hx hb dX12_doPart_11 ?_
  refine lv_topl (fun w3 ew3 => ?_)
  refine vp_callSl (W.runS (As := [.long w3]) (rest := [.long 1000]) ⟨hx, hb, hml, hown, ht⟩ (c_X12_plain l dC dI w3) (kS 1 ht m_1445 m_1446 m_89 m_1447 rfl rfl hd_X12_plain_v ⟨Nat.le_of_ble_eq_true rfl, Nat.le_of_ble_eq_true rfl⟩) (sR noP (hK.sub (tys' := []) [] rfl)) rfl rfl hl.1 rfl (lv_room (Nat.le_of_ble_eq_true rfl)) dX12_doPart_12 ⟨Nat.le_of_ble_eq_true rfl, Nat.le_of_ble_eq_true rfl⟩) (fun r4 hr4 => ?_)
  refine lv_lmul hx hb dX12_doPart_15 ?_
  refine lv_topl (fun w5 ew5 => ?_)
  refine lv_iload hx hb dX12_doPart_16 (lv_at hl 4 rfl) ?_
  refine lv_i2l (v := (n.toInt64)) hx hb dX12_doPart_18 rfl ?_
  refine lv_lload_n hx hb dX12_doPart_19 rfl (lv_at hl 1 rfl) ?_
  refine lv_lmul hx hb dX12_doPart_20 ?_
  refine lv_topl (fun w6 ew6 => ?_)
  refine lv_lload hx hb dX12_doPart_21 (lv_at hl 3 rfl) ?_
  refine lv_lmul hx hb dX12_doPart_23 ?_
  refine lv_topl (fun w7 ew7 => ?_)
  refine W.lcmp hx hb dX12_doPart_24 ?_
  refine lv_topi (fun v8 ev8 => ?_)
  refine lv_if_le (tgt := 32) hx hb dX12_doPart_25 (by decide) (fun c9 => ?_) (fun c9 => ?_)
  · have fc9 := zc_ngt ev8 (rfl : (w5).toInt = _) (rfl : (w7).toInt = _) (Int32.not_lt.mpr c9)
    refine lv_iconst (v := 0) hx hb dX12_doPart_32 (by decide) ?_
    exact W.zret (v := 0) hx hb hr rfl (fun t ht9 hW => ⟨0, rfl, ⟨by decide, by decide⟩, ht9⟩) (fun q hq => by cases hq) dX12_doPart_33
  · have fc9 := zc_gt ev8 (rfl : (w5).toInt = _) (rfl : (w7).toInt = _) (Int32.not_le.mp c9)
    refine lv_iconst (v := 1) hx hb dX12_doPart_28 (by decide) ?_
    refine lv_goto (tgt := 33) hx hb dX12_doPart_29 (by decide) ?_
    exact W.zret (v := 1) hx hb hr rfl (fun t ht9 hW => ⟨1, rfl, ⟨by decide, by decide⟩, ht9⟩) (fun q hq => by cases hq) dX12_doPart_33
